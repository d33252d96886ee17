theorem pcl_spr {tp : Nat → Nat} {t : Nat} {lw : Bool} {nc pa f f1 p1 : Nat} {c : Cl} (h : pcl tp t lw nc pa f = .inr (f1, p1, c)) : c.1 = 2 → c.2.1 = d1 := by
  have h3 := hdK_le tp t f lw
  unfold pcl at h
  split at h
  · cases h
  · cases hs : (if hdK tp t f lw = 3 then (.inr (nxt tp t f, pa, d1) : Res) else pE tp t lw false pa (nxt tp t f)) with
    | inl e => rw [hs] at h; cases h
    | inr w =>
      obtain ⟨f2, p2, v2⟩ := w
      have h2 : hdK tp t f lw - 1 = 2 → v2 = d1 := fun hz => by
        rw [if_pos (show hdK tp t f lw = 3 by omega)] at hs
        injection hs with hs; injection hs with _ hs; injection hs with _ hs; exact hs.symm
      rw [hs] at h
      simp only at h
      split at h
      · cases hz : pE tp t lw true p2 (nxt tp t f2) with
        | inl e => rw [hz] at h; cases h
        | inr w =>
          obtain ⟨f3, p3, v3⟩ := w
          rw [hz] at h
          simp only at h
          injection h with h; injection h with _ h; injection h with _ h
          rw [← h]; exact h2
      · injection h with h; injection h with _ h; injection h with _ h
        rw [← h]; exact h2
theorem SPR.cons {c : Cl} {cs : List Cl} (h : c.1 = 2 → c.2.1 = d1) (hs : SPR cs) : SPR (c :: cs) := fun n hn => by
  cases n with
  | zero => exact h
  | succ n => exact hs n (by simpa using hn)
theorem ptl_spr (tp : Nat → Nat) (t : Nat) (lw : Bool) : ∀ n nc pa f cs, ptl tp t lw n nc pa f = .inr cs → SPR cs
  | 0, _, _, _, cs, h => by cases h
  | n + 1, nc, pa, f, cs, h => by
    by_cases hs : sg tp t f = 59
    · rw [ptl_s hs] at h
      unfold rdX at h
      cases hp : pcl tp t lw nc pa (nxt tp t f) with
      | inl e => rw [hp] at h; cases h
      | inr w =>
        obtain ⟨f1, p1, c⟩ := w
        rw [hp] at h
        simp only at h
        cases hq : ptl tp t lw n (nc + 1) p1 f1 with
        | inl e => rw [hq] at h; cases h
        | inr ds =>
          rw [hq] at h
          simp only at h
          injection h with h
          rw [← h]
          exact SPR.cons (pcl_spr hp) (ptl_spr tp t lw n _ _ _ _ hq)
    · by_cases hk : kd tp t f = 0
      · rw [ptl_e hk] at h
        injection h with h
        rw [← h]; exact fun n hn => absurd hn (Nat.not_lt_zero _)
      · rw [ptl_n hs hk] at h; cases h
theorem ptx_spr {tp : Nat → Nat} {t : Nat} {lw : Bool} {cs : List Cl} (h : ptx tp t lw = .inr cs) : SPR cs := by
  unfold ptx at h
  cases hp : pcl tp t lw 0 0 (sk tp t 0) with
  | inl e => rw [hp] at h; cases h
  | inr w =>
    obtain ⟨f1, p1, c⟩ := w
    rw [hp] at h
    simp only at h
    cases hq : ptl tp t lw 12 1 p1 f1 with
    | inl e => rw [hq] at h; cases h
    | inr ds =>
      rw [hq] at h
      simp only at h
      injection h with h
      rw [← h]
      exact SPR.cons (pcl_spr hp) (ptl_spr tp t lw _ _ _ _ _ hq)
/-- a text that is refused: what both sides leave -/
theorem txt_no {I I1 : wI} {L : wL} {R : wR} {dy : cH} {e : Nat} {x : wI × wL} (h : REL I L R dy) (hF : FRt I I1) (q15 : I1 0 15 = nI e) (q14 : I1 0 14 = -6) (q55 : I1 55 = upd (I 55) 4 (I 55 4 + 1)) (hx : FX I1 L x.1 x.2 ∧ x.1 76 = I1 76 ∧ x.1 74 13 = nI e ∧ x.1 74 8 = 0 ∧ x.1 74 15 = 0 ∧ x.1 74 1 = -6 ∧ x.1 75 = upd (I1 75) 6 (I1 75 6 + 1)) : REL x.1 x.2 R dy := by
  obtain ⟨x1, x2, x3, x4, x5, x6, x7⟩ := hx
  obtain ⟨f1, f2, f3⟩ := hF
  obtain ⟨h1, h2, ⟨tp, t, hc, hm⟩, h4, h5, h6, h7, h8, h9⟩ := h
  have ex : ∀ q, q ∉ [75, 76, 80, 81, 82, 83, 84] → q ≠ 74 → x.1 q = I1 q := fun q a b => x1.1 q a b
  have hl : ∀ q, 1 ≤ q → q < 10 → x.1 q = I q := fun q a b => (ex q (by simp; omega) (by omega)).trans (f1 q (by omega) (by omega) (by omega))
  have hm2 : ∀ q, 56 ≤ q → q < 74 → x.1 q = I q := fun q a b => (ex q (by simp; omega) (by omega)).trans (f1 q (by omega) (by omega) (by omega))
  have g : ∀ q, q ∉ [75, 76, 80, 81, 82, 83, 84] → q ≠ 74 → q ≠ 0 → q ≠ 55 → (q < 12 ∨ q = 13 ∨ 20 < q) → x.1 q = I q := fun q a b c d e => (ex q a b).trans (f1 q c d e)
  have g74 : ∀ j, j ∉ [0, 1, 8, 9, 10, 11, 13, 14, 15, 16, 18, 21, 24, 25] → x.1 74 j = I 74 j := fun j a => (x1.2.1 j a).trans (by rw [f1 74 (by decide) (by decide) (by decide)])
  have e76 : x.1 76 = I 76 := x2.trans (f1 76 (by decide) (by decide) (by decide))
  have e75 : I1 75 = I 75 := f1 75 (by decide) (by decide) (by decide)
  have e0 : x.1 0 = I1 0 := ex 0 (by decide) (by decide)
  have z1 := h1.c0 (I2 := x.1) (R2 := R) (p := 1) (q := 1) (g2 := x.1 76) (SEq.same (fun q a b => hl q a (by omega)) (fun _ _ _ => rfl)) (fun _ _ => by rw [e76])
  have z2 := h2.fr (dz := []) (I2 := x.1) (R2 := R) (g 11 (by decide) (by decide) (by decide) (by decide) (by decide)) (g 78 (by decide) (by decide) (by decide) (by decide) (by decide)) (g 77 (by decide) (by decide) (by decide) (by decide) (by decide)) hm2 (fun _ _ _ => rfl)
  rw [List.append_nil] at z2
  refine ⟨z1, z2, ⟨tp, 0, ⟨by decide, by rw [ex 12 (by decide) (by decide)]; exact f3, by rw [g 13 (by decide) (by decide) (by decide) (by decide) (by decide)]; exact hc.2.2.1, hc.2.2.2⟩, ⟨by decide, x4, by rw [g 79 (by decide) (by decide) (by decide) (by decide) (by decide)]; exact hm.2.2.1, hm.2.2.2⟩⟩, ?_, ⟨x5, ?_⟩, h6.fr (fun q a b => g q (by simp; omega) (by omega) (by omega) (by omega) (by omega)) (g 101 (by decide) (by decide) (by decide) (by decide) (by decide)) (g 102 (by decide) (by decide) (by decide) (by decide) (by decide)) (g74 57 (by decide)) (g74 58 (by decide)), ?_, ?_, ?_⟩
  · obtain ⟨n1, n2, n3, n4, n5⟩ := h4
    unfold CNR
    rw [ex 55 (by decide) (by decide), q55, x7, e75]
    exact ⟨n1, n2, n3, n4, congrArg (fun z : Int32 => z + 1) n5⟩
  · have l5 := x1.2.2.1 85 (by decide) (by decide)
    have l6 := x1.2.2.1 86 (by decide) (by decide)
    rw [l5, l6]; exact h5.2
  · rw [e0, q14, x6]
  · rw [e0, q15, x3]
  · rw [e0, f2 16 (by decide) (by decide), g74 6 (by decide)]; exact h9
/-- a text that is taken -/
theorem txt_up {I I1 : wI} {L : wL} {R R2 : wR} {dy dz : cH} {j : Nat} {y : Int32} {x : wI × wL} (h : REL I L R dy) (hj : j ≠ 12) (hF : FRt I I1) (q15 : I1 0 15 = -1) (q14 : I1 0 14 = 0) (q55 : I1 55 = I 55) (eR : ∀ q, 10 ≤ q → R2 q = R q) (hx : FX (uI I1 1 j y) L x.1 x.2 ∧ x.1 75 = (uI I1 1 j y) 75 ∧ x.1 74 1 = 0 ∧ x.1 74 8 = 0 ∧ x.1 74 13 = -1 ∧ x.1 74 15 = 0) (hS : SQ x.1 R2 (dy ++ dz) 1 (x.1 76)) : REL x.1 x.2 R2 (dy ++ dz) := by
  obtain ⟨x1, x2, x3, x4, x5, x6⟩ := hx
  obtain ⟨f1, f2, f3⟩ := hF
  obtain ⟨h1, h2, ⟨tp, t, hc, hm⟩, h4, h5, h6, h7, h8, h9⟩ := h
  have ex : ∀ q, q ∉ [75, 76, 80, 81, 82, 83, 84] → q ≠ 74 → q ≠ 1 → x.1 q = I1 q := fun q a b c => (x1.1 q a b).trans (uI_n c)
  have hm2 : ∀ q, 56 ≤ q → q < 74 → x.1 q = I q := fun q a b => (ex q (by simp; omega) (by omega) (by omega)).trans (f1 q (by omega) (by omega) (by omega))
  have g : ∀ q, q ∉ [75, 76, 80, 81, 82, 83, 84] → q ≠ 74 → q ≠ 1 → q ≠ 0 → q ≠ 55 → (q < 12 ∨ q = 13 ∨ 20 < q) → x.1 q = I q := fun q a b b1 c d e => (ex q a b b1).trans (f1 q c d e)
  have g74 : ∀ j, j ∉ [0, 1, 8, 9, 10, 11, 13, 14, 15, 16, 18, 21, 24, 25] → x.1 74 j = I 74 j := fun j a => (x1.2.1 j a).trans (by rw [uI_n (by decide), f1 74 (by decide) (by decide) (by decide)])
  have e75 : x.1 75 = I 75 := x2.trans (by rw [uI_n (by decide)]; exact f1 75 (by decide) (by decide) (by decide))
  have e0 : x.1 0 = I1 0 := ex 0 (by decide) (by decide) (by decide)
  refine ⟨hS, h2.fr (g 11 (by decide) (by decide) (by decide) (by decide) (by decide) (by decide)) (g 78 (by decide) (by decide) (by decide) (by decide) (by decide) (by decide)) (g 77 (by decide) (by decide) (by decide) (by decide) (by decide) (by decide)) hm2 (fun q a b => eR q (by omega)), ⟨tp, 0, ⟨by decide, by rw [ex 12 (by decide) (by decide) (by decide)]; exact f3, by rw [g 13 (by decide) (by decide) (by decide) (by decide) (by decide) (by decide)]; exact hc.2.2.1, hc.2.2.2⟩, ⟨by decide, x4, by rw [g 79 (by decide) (by decide) (by decide) (by decide) (by decide) (by decide)]; exact hm.2.2.1, hm.2.2.2⟩⟩, h4.fr (by rw [ex 55 (by decide) (by decide) (by decide)]; exact q55) e75, ⟨x6, ?_⟩, h6.fr (fun q a b => g q (by simp; omega) (by omega) (by omega) (by omega) (by omega) (by omega)) (g 101 (by decide) (by decide) (by decide) (by decide) (by decide) (by decide)) (g 102 (by decide) (by decide) (by decide) (by decide) (by decide) (by decide)) (g74 57 (by decide)) (g74 58 (by decide)), ?_, ?_, ?_⟩
  · have l5 := x1.2.2.1 85 (by decide) (by decide)
    have l6 := x1.2.2.1 86 (by decide) (by decide)
    rw [l5, l6]; exact h5.2
  · rw [e0, q14, x3]
  · rw [e0, q15, x5]
  · rw [e0, f2 16 (by decide) (by decide), g74 6 (by decide)]; exact h9
/-- no room for a text -/
theorem txt_full {I : wI} {L : wL} {R : wR} {dy : cH} (h : REL I L R dy) : REL (uI (uI (uI (uI (uI (uI (uI I 12 1 (nI 0)) 55 3 (I 55 3 + 1)) 0 14 (-5)) 74 0 0) 74 8 0) 74 1 (-5)) 75 5 ((uI (uI (uI I 12 1 (nI 0)) 55 3 (I 55 3 + 1)) 0 14 (-5)) 75 5 + 1)) L R dy := by
  obtain ⟨tp, t, hc, hm⟩ := h.2.2.1
  have h0 : REL (uI (uI (uI I 12 1 (nI 0)) 74 0 0) 74 8 0) L R dy := by
    refine h.tq ⟨tp, 0, ⟨by decide, rfl, hc.2.2.1, hc.2.2.2⟩, ⟨by decide, rfl, hm.2.2.1, hm.2.2.2⟩⟩ (fun q a b c e => ?_) (fun j a b => ?_)
    · rw [uI_n c, uI_n c, uI_n a]
    · rw [uI_sn b, uI_sn a, uI_n (by decide)]
  have z := h0.no (i := 3) (k := 5) (s := -5) (by decide)
  refine z.f0 (fun k hk => ?_) (fun j hj => ?_) rfl rfl (fun _ _ => rfl)
  · by_cases e75 : k = 75
    · subst e75; rfl
    · by_cases e12 : k = 12
      · subst e12; rfl
      · by_cases e55 : k = 55
        · subst e55; rfl
        · by_cases e0 : k = 0
          · subst e0; rfl
          · have h74 : k ≠ 74 := nin hk (by decide)
            rw [uI_n e75, uI_n h74, uI_n h74, uI_n h74, uI_n e0, uI_n e55, uI_n e12, uI_n e75, uI_n h74, uI_n h74, uI_n e0, uI_n e55, uI_n h74, uI_n h74, uI_n e12]
  · have hcs : j = 1 ∨ j = 6 ∨ j = 8 ∨ j = 13 ∨ j = 15 ∨ j = 57 ∨ j = 58 := by
      simp only [ob74, List.mem_cons, List.not_mem_nil, or_false] at hj; omega
    rcases hcs with rfl | rfl | rfl | rfl | rfl | rfl | rfl <;> rfl
set_option maxHeartbeats 1000000 in
theorem p_law {I : wI} {L : wL} {R : wR} {dy : cH} (h : REL I L R dy) : PP kdI m11_law m12_law [] I L R dy := by
  obtain ⟨⟨n, cF, cT, cS, cL, hA⟩, ⟨tm, hB⟩, ⟨nl, Tf, Cf, hC, hF⟩, ⟨nh, Th, Ch, hD⟩, ⟨np, lo, wi, hE⟩, ⟨ns, ss, sc, hS⟩, hT⟩ := id h.1
  obtain ⟨tp, t, hc, hm⟩ := id h.2.2.1
  by_cases hn : nl = 6
  · subst hn
    exact (PR.E ⟨_, rfl⟩ (fun _ _ => r11_law_f hC.1 (by decide)) (fun _ _ => r12_law_f (I := uI (uI (uI I 12 1 (nI 0)) 55 3 (I 55 3 + 1)) 0 14 (-5)) hC.2.1 (by decide)) (txt_full h)).pp
  · have hn6 : nl < 6 := by have := hC.2.2.1; omega
    refine ⟨7, 855, by decide, by decide, fun l K => CC.mono (r11_law (l := l) (K := K) (d := 90) (I := I) (L := L) (R := R) (dy := dy) tp t hc nl hC.1 hn6 (by decide)) (fun r h1 q => ?_)⟩
    obtain ⟨I1, hFr, q⟩ := q
    have w : ∀ {X : wI}, X 76 = I1 76 → X 74 = I1 74 → X 79 = I1 79 → TPm X tp t ∧ X 76 1 = nI nl := fun {X} a b c => by
      refine ⟨⟨hm.1, ?_, ?_, hm.2.2.2⟩, ?_⟩
      · rw [b, hFr.1 74 (by decide) (by decide) (by decide)]; exact hm.2.1
      · rw [c, hFr.1 79 (by decide) (by decide) (by decide)]; exact hm.2.2.1
      · rw [a, hFr.1 76 (by decide) (by decide) (by decide)]; exact hC.2.1
    have hW := h.2.2.2.2.1.2
    cases hz : ptx tp t true with
    | inl e =>
      rw [hz] at q
      obtain ⟨rfl, rfl, q15, q14, q55⟩ := q
      refine ⟨_, I1, L, R, [], ⟨_, rfl⟩, rfl, by rw [List.append_nil], CC.mono (r12_law_n (l := l) (K := K) (d := 90) (I := I1) (L := L) (R := R) (dy := dy) tp t (w rfl rfl rfl).1 hW nl (w rfl rfl rfl).2 hn6 e hz (by decide)) (fun r2 h3 q2 => ?_)⟩
      obtain ⟨x, hx, rfl, rfl⟩ := q2
      exact ⟨rfl, _, _, _, by rw [List.append_nil], by rw [List.append_nil]; exact txt_no h hFr q15 q14 q55 hx⟩
    | inr cs =>
      rw [hz] at q
      obtain ⟨rfl, q15, q14, q55, fs, as, hal, rfl, hCT⟩ := q
      refine ⟨_, uI I1 1 3 (nI (nl + 1)), L, uR R 4 nl (some (dy.length + 105)), .inr (9, fs) :: as, ⟨_, rfl⟩, rfl, rfl, CC.mono (r12_law_y (l := l) (K := K) (d := 90) (I := uI I1 1 3 (nI (nl + 1))) (L := L) (R := uR R 4 nl (some (dy.length + 105))) (dy := hO dy 9 fs as) tp t (w (uI_n (by decide)) (uI_n (by decide)) (uI_n (by decide))).1 hW nl (w (uI_n (by decide)) (uI_n (by decide)) (uI_n (by decide))).2 hn6 cs hz (by decide)) (fun r2 h3 q2 => ?_)⟩
      obtain ⟨x, ⟨x1, x2, x3, x4, x5, x6, x7, x8, x9⟩, rfl, rfl⟩ := q2
      refine ⟨rfl, _, _, _, rfl, txt_up h (by decide) hFr q15 q14 q55 (fun q a => uR_n (by omega)) ⟨x1, x2, x3, x4, x5, x6⟩ ?_⟩
      have g : ∀ q, 2 ≤ q → q < 10 → x.1 q = I q := fun q a b => (x1.1 q (by simp; omega) (by omega)).trans ((uI_n (by omega)).trans (hFr.1 q (by omega) (by omega) (by omega)))
      have f1 : x.1 1 = (uI I1 1 3 (nI (nl + 1))) 1 := x1.1 1 (by decide) (by decide)
      have i1 : I1 1 = I 1 := hFr.1 1 (by decide) (by decide) (by decide)
      have g1 : ∀ q, q ≠ 3 → x.1 1 q = I 1 q := fun q a => by rw [f1, uI_sn a, i1]
      have e76 : ∀ q, q ≠ 1 → (q < 80 + 900 * nl ∨ 80 + 900 * nl + 900 ≤ q) → x.1 76 q = I 76 q := fun q a b => (x8 q a b).trans (by rw [uI_n (by decide), hFr.1 76 (by decide) (by decide) (by decide)])
      have hr5 : ∀ q, uR R 4 nl (some (dy.length + 105)) 5 q = R 5 q := fun q => by rw [uR_n (by decide)]
      have hrn : ∀ q, q ≠ nl → uR R 4 nl (some (dy.length + 105)) 4 q = R 4 q := fun q a => by rw [uR_at, if_neg (fun z => a z.2)]
      have hry : uR R 4 nl (some (dy.length + 105)) 4 nl = some (dy.length + 105) := by rw [uR_at, if_pos ⟨rfl, rfl⟩]
      refine ⟨⟨n, cF, cT, cS, cL, hA.cg (p := 1) (g1 0 (by decide)) (fun q _ => by rw [g 2 (by decide) (by decide)]) (fun q a => e76 q (by omega) (by omega))⟩, ⟨tm, hB.cg (p := 1) (fun q _ => by rw [g 3 (by decide) (by decide)]) (fun q a b => e76 q (by omega) (by omega))⟩, ⟨nl + 1, fun a => if a = nl then dy.length + 105 else Tf a, fun a => if a = nl then cs else Cf a, ⟨?_, x7, by omega, fun a ha => ?_⟩, ?_⟩, ⟨nh, Th, Ch, hD.cg (p := 1) (g1 6 (by decide)) (fun q hq => by rw [hr5 q]) (e76 2 (by decide) (by omega)) (fun q a b => e76 q (by omega) (by omega))⟩, ⟨np, lo, wi, hE.cg (p := 1) (g1 8 (by decide)) (fun q _ => ⟨by rw [g 6 (by decide) (by decide)], by rw [g 7 (by decide) (by decide)]⟩) (fun q a => e76 q (by omega) (by omega))⟩, ⟨ns, ss, sc, hS.cg (p := 1) (g1 11 (by decide)) (fun q _ => ⟨by rw [g 8 (by decide) (by decide)], by rw [g 9 (by decide) (by decide)]⟩) (fun q a => e76 q (by omega) (by omega))⟩, fun q hq => ?_⟩
      · show x.1 1 3 = _
        rw [f1, uI_ss]
      · by_cases ea : a = nl
        · subst ea
          dsimp only
          rw [if_pos rfl, if_pos rfl]
          exact ⟨hry, hCT, ptx_spr hz, x9⟩
        · dsimp only
          rw [if_neg ea, if_neg ea]
          obtain ⟨a1, a2, a3, a4⟩ := hC.2.2.2 a (by omega)
          exact ⟨(hrn a ea).trans a1, a2.ap, a3, a4.cg (fun q b1 b2 => e76 q (by omega) (by omega))⟩
      · rcases hF.2 with z | ⟨a, ha, z⟩
        · exact ⟨(g1 5 (by decide)).trans (hF.1.trans (e76 5 (by decide) (by omega)).symm), Or.inl ((e76 5 (by decide) (by omega)).trans z)⟩
        · exact ⟨(g1 5 (by decide)).trans (hF.1.trans (e76 5 (by decide) (by omega)).symm), Or.inr ⟨a, by omega, (e76 5 (by decide) (by omega)).trans z⟩⟩
      · have hq1 : okT (dy ++ (.inr (9, fs) :: as)) (uR R 4 nl (some (dy.length + 105)) 4 q) := by
          by_cases eq : q = nl
          · subst eq
            rw [hry]; exact Or.inr ⟨dy.length, fs, rfl, hO_at⟩
          · rw [hrn q eq]; exact (hT q hq).1.ap
        have hq2 : okT (dy ++ (.inr (9, fs) :: as)) (uR R 4 nl (some (dy.length + 105)) 5 q) := by
          rw [hr5 q]; exact (hT q hq).2.ap
        exact ⟨hq1, hq2⟩
set_option maxHeartbeats 1000000 in
theorem p_habit {I : wI} {L : wL} {R : wR} {dy : cH} (h : REL I L R dy) : PP kdI m11_habit m12_habit [] I L R dy := by
  obtain ⟨⟨n, cF, cT, cS, cL, hA⟩, ⟨tm, hB⟩, ⟨nl, Tf, Cf, hC, hF⟩, ⟨nh, Th, Ch, hD⟩, ⟨np, lo, wi, hE⟩, ⟨ns, ss, sc, hS⟩, hT⟩ := id h.1
  obtain ⟨tp, t, hc, hm⟩ := id h.2.2.1
  by_cases hn : nh = 6
  · subst hn
    exact (PR.E ⟨_, rfl⟩ (fun _ _ => r11_habit_f hD.1 (by decide)) (fun _ _ => r12_habit_f (I := uI (uI (uI I 12 1 (nI 0)) 55 3 (I 55 3 + 1)) 0 14 (-5)) hD.2.1 (by decide)) (txt_full h)).pp
  · have hn6 : nh < 6 := by have := hD.2.2.1; omega
    refine ⟨7, 855, by decide, by decide, fun l K => CC.mono (r11_habit (l := l) (K := K) (d := 90) (I := I) (L := L) (R := R) (dy := dy) tp t hc nh hD.1 hn6 (by decide)) (fun r h1 q => ?_)⟩
    obtain ⟨I1, hFr, q⟩ := q
    have w : ∀ {X : wI}, X 76 = I1 76 → X 74 = I1 74 → X 79 = I1 79 → TPm X tp t ∧ X 76 2 = nI nh := fun {X} a b c => by
      refine ⟨⟨hm.1, ?_, ?_, hm.2.2.2⟩, ?_⟩
      · rw [b, hFr.1 74 (by decide) (by decide) (by decide)]; exact hm.2.1
      · rw [c, hFr.1 79 (by decide) (by decide) (by decide)]; exact hm.2.2.1
      · rw [a, hFr.1 76 (by decide) (by decide) (by decide)]; exact hD.2.1
    have hW := h.2.2.2.2.1.2
    cases hz : ptx tp t false with
    | inl e =>
      rw [hz] at q
      obtain ⟨rfl, rfl, q15, q14, q55⟩ := q
      refine ⟨_, I1, L, R, [], ⟨_, rfl⟩, rfl, by rw [List.append_nil], CC.mono (r12_habit_n (l := l) (K := K) (d := 90) (I := I1) (L := L) (R := R) (dy := dy) tp t (w rfl rfl rfl).1 hW nh (w rfl rfl rfl).2 hn6 e hz (by decide)) (fun r2 h3 q2 => ?_)⟩
      obtain ⟨x, hx, rfl, rfl⟩ := q2
      exact ⟨rfl, _, _, _, by rw [List.append_nil], by rw [List.append_nil]; exact txt_no h hFr q15 q14 q55 hx⟩
    | inr cs =>
      rw [hz] at q
      obtain ⟨rfl, q15, q14, q55, fs, as, hal, rfl, hCT⟩ := q
      refine ⟨_, uI I1 1 6 (nI (nh + 1)), L, uR R 5 nh (some (dy.length + 105)), .inr (9, fs) :: as, ⟨_, rfl⟩, rfl, rfl, CC.mono (r12_habit_y (l := l) (K := K) (d := 90) (I := uI I1 1 6 (nI (nh + 1))) (L := L) (R := uR R 5 nh (some (dy.length + 105))) (dy := hO dy 9 fs as) tp t (w (uI_n (by decide)) (uI_n (by decide)) (uI_n (by decide))).1 hW nh (w (uI_n (by decide)) (uI_n (by decide)) (uI_n (by decide))).2 hn6 cs hz (by decide)) (fun r2 h3 q2 => ?_)⟩
      obtain ⟨x, ⟨x1, x2, x3, x4, x5, x6, x7, x8, x9⟩, rfl, rfl⟩ := q2
      refine ⟨rfl, _, _, _, rfl, txt_up h (by decide) hFr q15 q14 q55 (fun q a => uR_n (by omega)) ⟨x1, x2, x3, x4, x5, x6⟩ ?_⟩
      have g : ∀ q, 2 ≤ q → q < 10 → x.1 q = I q := fun q a b => (x1.1 q (by simp; omega) (by omega)).trans ((uI_n (by omega)).trans (hFr.1 q (by omega) (by omega) (by omega)))
      have f1 : x.1 1 = (uI I1 1 6 (nI (nh + 1))) 1 := x1.1 1 (by decide) (by decide)
      have i1 : I1 1 = I 1 := hFr.1 1 (by decide) (by decide) (by decide)
      have g1 : ∀ q, q ≠ 6 → x.1 1 q = I 1 q := fun q a => by rw [f1, uI_sn a, i1]
      have e76 : ∀ q, q ≠ 2 → (q < 5480 + 900 * nh ∨ 5480 + 900 * nh + 900 ≤ q) → x.1 76 q = I 76 q := fun q a b => (x8 q a b).trans (by rw [uI_n (by decide), hFr.1 76 (by decide) (by decide) (by decide)])
      have hr4 : ∀ q, uR R 5 nh (some (dy.length + 105)) 4 q = R 4 q := fun q => by rw [uR_n (by decide)]
      have hrn : ∀ q, q ≠ nh → uR R 5 nh (some (dy.length + 105)) 5 q = R 5 q := fun q a => by rw [uR_at, if_neg (fun z => a z.2)]
      have hry : uR R 5 nh (some (dy.length + 105)) 5 nh = some (dy.length + 105) := by rw [uR_at, if_pos ⟨rfl, rfl⟩]
      refine ⟨⟨n, cF, cT, cS, cL, hA.cg (p := 1) (g1 0 (by decide)) (fun q _ => by rw [g 2 (by decide) (by decide)]) (fun q a => e76 q (by omega) (by omega))⟩, ⟨tm, hB.cg (p := 1) (fun q _ => by rw [g 3 (by decide) (by decide)]) (fun q a b => e76 q (by omega) (by omega))⟩, ⟨nl, Tf, Cf, hC.cg (p := 1) (g1 3 (by decide)) (fun q hq => by rw [hr4 q]) (e76 1 (by decide) (by omega)) (fun q a b => e76 q (by omega) (by omega)), hF.cg (p := 1) (g1 5 (by decide)) (e76 5 (by decide) (by omega))⟩, ⟨nh + 1, fun a => if a = nh then dy.length + 105 else Th a, fun a => if a = nh then cs else Ch a, ?_, x7, by omega, fun a ha => ?_⟩, ⟨np, lo, wi, hE.cg (p := 1) (g1 8 (by decide)) (fun q _ => ⟨by rw [g 6 (by decide) (by decide)], by rw [g 7 (by decide) (by decide)]⟩) (fun q a => e76 q (by omega) (by omega))⟩, ⟨ns, ss, sc, hS.cg (p := 1) (g1 11 (by decide)) (fun q _ => ⟨by rw [g 8 (by decide) (by decide)], by rw [g 9 (by decide) (by decide)]⟩) (fun q a => e76 q (by omega) (by omega))⟩, fun q hq => ?_⟩
      · show x.1 1 6 = _
        rw [f1, uI_ss]
      · by_cases ea : a = nh
        · subst ea
          dsimp only
          rw [if_pos rfl, if_pos rfl]
          exact ⟨hry, hCT, x9⟩
        · dsimp only
          rw [if_neg ea, if_neg ea]
          obtain ⟨a1, a2, a4⟩ := hD.2.2.2 a (by omega)
          exact ⟨(hrn a ea).trans a1, a2.ap, a4.cg (fun q b1 b2 => e76 q (by omega) (by omega))⟩
      · have hq1 : okT (dy ++ (.inr (9, fs) :: as)) (uR R 5 nh (some (dy.length + 105)) 5 q) := by
          by_cases eq : q = nh
          · subst eq
            rw [hry]; exact Or.inr ⟨dy.length, fs, rfl, hO_at⟩
          · rw [hrn q eq]; exact (hT q hq).2.ap
        have hq2 : okT (dy ++ (.inr (9, fs) :: as)) (uR R 5 nh (some (dy.length + 105)) 4 q) := by
          rw [hr4 q]; exact (hT q hq).1.ap
        exact ⟨hq2, hq1⟩
