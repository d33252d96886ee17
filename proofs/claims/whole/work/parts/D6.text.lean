theorem SEq.tr {I x z : wI} {R R2 : wR} {p q : Nat} (e : SEq I x R R2 p q) (h : ∀ k, p ≤ k → k < p + 9 → z k = x k) : SEq I z R R2 p q := by
  obtain ⟨e1, e2, e3, e4, e5, e6⟩ := e
  exact ⟨fun j hj => by rw [h p (by omega) (by omega)]; exact e1 j hj, fun j hj => by rw [h (p + 1) (by omega) (by omega)]; exact e2 j hj, fun j hj => by rw [h (p + 2) (by omega) (by omega)]; exact e3 j hj, fun j hj => by rw [h (p + 5) (by omega) (by omega), h (p + 6) (by omega) (by omega)]; exact e4 j hj, fun j hj => by rw [h (p + 7) (by omega) (by omega), h (p + 8) (by omega) (by omega)]; exact e5 j hj, e6⟩
theorem SQ.c0 {I I2 : wI} {R R2 : wR} {dy : cH} {p q : Nat} {g g2 : Nat → Int32} (h : SQ I R dy q g) (e : SEq I I2 R R2 p q) (eg : ∀ j, j < 10880 → g2 j = g j) : SQ I2 R2 dy p g2 := by
  have z := h.cp (dz := []) e eg
  rw [List.append_nil] at z; exact z
theorem IMR.f2 {I I2 : wI} {R R2 : wR} {dy : cH} {k : Nat} (h : IMR I R dy k) (e11 : I2 11 k = I 11 k) (e78 : I2 78 k = I 78 k) (e77 : ∀ j, j < 10880 → I2 77 (10880 * k + j) = I 77 (10880 * k + j)) (eI : ∀ q, 56 + 9 * k ≤ q → q < 56 + 9 * k + 9 → I2 q = I q) (eR : ∀ q, 56 + 9 * k ≤ q → q < 56 + 9 * k + 9 → R2 q = R q) : IMR I2 R2 dy k := by
  rcases h with ⟨h1, h2⟩ | ⟨h1, h2, h3⟩
  · exact Or.inl ⟨e11.trans h1, e78.trans h2⟩
  · exact Or.inr ⟨e11.trans h1, e78.trans h2, h3.c0 (SEq.same eI eR) e77⟩
theorem day_rel {I : wI} {L : wL} {R : wR} {dy : cH} {o : Option Nat} {D : DP} {n : Nat} (hn6 : n ≤ 6) {y v : wI × wL} (h : REL I L R dy) (hy : FK [0, 22, 23, 25, 26, 28, 30, 31, 44, 45, 46, 47, 48, 49, 50] [22, 24, 27, 30, 32, 33, 34] I L y.1 y.2 ∧ (∀ j, j ≠ 14 → y.1 0 j = I 0 j) ∧ y.1 0 14 = 0 ∧ y.1 44 4 = nI n ∧ y.1 44 3 = 1 ∧ (∀ q, q < 12 → y.1 45 q = nI (if D.ca q = true then 1 else 0)) ∧ (∀ q, q < n → DCc y.1 q (D.dX q 12))) (hv : FR [90, 92, 93, 101, 102, 103, 104] [0, 1, 28, 32, 35, 36, 43, 44, 57, 58] [87, 88, 89, 91, 94] [33, 34, 42, 53] y.1 y.2 v.1 v.2 ∧ v.1 74 1 = 0 ∧ v.1 74 57 = nI n ∧ v.1 74 58 = 1 ∧ (∀ q, q < n → DC v.1 q (D.dX q 12)) ∧ ∀ q, q < 12 → v.1 102 q = nI (if D.ca q = true then 1 else 0)) : REL v.1 v.2 (uR R 21 1 o) dy := by
  obtain ⟨y1, y2, y3, y4, y5, y6, y7⟩ := hy
  obtain ⟨v1, v2, v3, v4, v5, v6⟩ := hv
  obtain ⟨h1, h2, h3, h4, h5, h6, h7, h8, h9⟩ := h
  have e : ∀ q, q ∉ [90, 92, 93, 101, 102, 103, 104] → q ≠ 74 → q ∉ [0, 22, 23, 25, 26, 28, 30, 31, 44, 45, 46, 47, 48, 49, 50] → v.1 q = I q := fun q a b c => (v1.1 q a b).trans (y1.1 q c)
  have e74 : ∀ j, j ∉ [0, 1, 28, 32, 35, 36, 43, 44, 57, 58] → v.1 74 j = I 74 j := fun j a => (v1.2.1 j a).trans (by rw [y1.1 74 (by decide)])
  have f0 : v.1 0 = y.1 0 := v1.1 0 (by decide) (by decide)
  have hl : ∀ q, q < 10 → 1 ≤ q → v.1 q = I q := fun q a b => e q (by simp; omega) (by omega) (by simp; omega)
  have hm : ∀ q, 56 ≤ q → q < 74 → v.1 q = I q := fun q a b => e q (by simp; omega) (by omega) (by simp; omega)
  have hr : ∀ q, q ≠ 21 → uR R 21 1 o q = R q := fun q a => uR_n a
  have z1 := h1.c0 (I2 := v.1) (R2 := uR R 21 1 o) (p := 1) (q := 1) (g2 := v.1 76) (SEq.same (fun q a b => hl q (by omega) (by omega)) (fun q a b => hr q (by omega))) (fun _ _ => by rw [e 76 (by decide) (by decide) (by decide)])
  have z2 := h2.fr (dz := []) (I2 := v.1) (R2 := uR R 21 1 o) (e 11 (by decide) (by decide) (by decide)) (e 78 (by decide) (by decide) (by decide)) (e 77 (by decide) (by decide) (by decide)) hm (fun q a b => hr q (by omega))
  rw [List.append_nil] at z2
  refine ⟨z1, z2, h3.fr (by rw [e 12 (by decide) (by decide) (by decide)]) (e 13 (by decide) (by decide) (by decide)) (e74 8 (by decide)) (e 79 (by decide) (by decide) (by decide)), h4.fr (e 55 (by decide) (by decide) (by decide)) (e 75 (by decide) (by decide) (by decide)), h5.fr (e74 15 (by decide)) ((v1.2.2.1 85 (by decide) (by decide)).trans (y1.2 85 (by decide))) ((v1.2.2.1 86 (by decide) (by decide)).trans (y1.2 86 (by decide))), Or.inr ⟨?_, v4, n, hn6, ?_, v3, fun q hq => ?_, fun c hc => ?_⟩, ?_, ?_, ?_⟩
  · rw [v1.1 44 (by decide) (by decide)]; exact y5
  · rw [v1.1 44 (by decide) (by decide)]; exact y4
  · rw [v1.1 45 (by decide) (by decide), y6 q hq, v6 q hq]
  · obtain ⟨a1, a2, a3, -⟩ := y7 c hc
    obtain ⟨b1, b2, b3, -⟩ := v5 c hc
    rw [v1.1 46 (by decide) (by decide), v1.1 47 (by decide) (by decide), v1.1 48 (by decide) (by decide)]
    exact ⟨a1.trans b1.symm, a2.trans b2.symm, a3.trans b3.symm⟩
  · rw [f0, y3, v2]
  · rw [f0, y2 15 (by decide), e74 13 (by decide)]; exact h8
  · rw [f0, y2 16 (by decide), e74 6 (by decide)]; exact h9
set_option maxHeartbeats 2000000 in
theorem p_day {I : wI} {L : wL} {R : wR} {dy : cH} (h : REL I L R dy) (z : Int32) (x : Int32) : PR kdI m11_day m12_day 0 0 [.int z, .int x] I L R dy := by
  obtain ⟨coin, per, fine, s0, wa, wage, hRT, hCT, hc1, ⟨h34, hs1, hs2⟩, hg, e5, hwa, hwg⟩ := h.tm
  obtain ⟨o, lc, hO, hin⟩ := h.lw
  obtain ⟨n, cF, cT, cS, cL, hCS, hCM⟩ := h.cs
  obtain ⟨nh, Tf, Cf, hHB, hh2, hHM⟩ := h.hb
  by_cases hz : 0 ≤ z.toInt ∧ z.toInt ≤ 1000000
  · by_cases hx : x.toInt = -1 ∨ (0 ≤ x.toInt ∧ x.toInt < nh)
    · obtain ⟨z, rfl, hzz⟩ := nI_ex hz.1
      have hDT : ∀ oh, DTc I (DP.mk (I 76) (lfO lc) oh coin per fine s0 z cF cT cS cL) n lc := fun oh => ⟨hg.1, hg.2, e5.symm, h34, hs1, hs2, hCT, hCS, rfl, by show z < 1000003; omega⟩
      rcases hx with hx | hx
      · obtain rfl := i_m1 hx
        refine PR.X (α := wI × wL) (β := wI × wL) (fI := fun y => y.1) (fL := fun y => y.2) (fR := fun _ => uR R 21 1 o) (gI := fun _ v => v.1) (gL := fun _ v => v.2) (gR := fun _ _ => uR R 21 1 o) ⟨_, rfl⟩ (fun l K => r11_day_none (l := l) (K := K) (d := 90) (I := I) (L := L) (R := R) (dy := dy) (DP.mk (I 76) (lfO lc) none coin per fine s0 z cF cT cS cL) n o lc hO (hDT none) (by show z ≤ 1000000; omega) rfl (by decide)) (fun y hy l K => by
        have e : y.1 76 = I 76 := hy.1.1 76 (by decide)
        have h15 : y.1 74 15 = 0 := by rw [hy.1.1 74 (by decide)]; exact h.h15
        have z2 := r12_day_ok (l := l) (K := K) (d := 90) (I := y.1) (L := y.2) (R := uR R 21 1 o) (dy := dy) (lfO lc) (hin.of e) coin per fine s0 (hRT.of e h15) n cF cT cS cL (hCM.of e) nh (by rw [e]; exact hh2) hHB.2.1 none (-1) (by rw [e]; exact (Or.inl ⟨rfl, rfl⟩ : HO (I 76) (-1) none)) (Or.inl rfl) z (by omega) (by decide)
        rw [e] at z2
        exact z2) (fun y v hy hv => day_rel (D := (DP.mk (I 76) (lfO lc) none coin per fine s0 z cF cT cS cL)) hCM.2.1 h hy hv)
      · obtain ⟨a, rfl, ha⟩ := nI_ex hx.1
        have han : a < nh := by omega
        refine PR.X (α := wI × wL) (β := wI × wL) (fI := fun y => y.1) (fL := fun y => y.2) (fR := fun _ => uR R 21 1 o) (gI := fun _ v => v.1) (gL := fun _ v => v.2) (gR := fun _ _ => uR R 21 1 o) ⟨_, rfl⟩ (fun l K => r11_day_habit (l := l) (K := K) (d := 90) (I := I) (L := L) (R := R) (dy := dy) (DP.mk (I 76) (lfO lc) (some (txF (Cf a))) coin per fine s0 z cF cT cS cL) n o lc hO (hDT (some (txF (Cf a)))) (by show z ≤ 1000000; omega) nh hHB.1 hHB.2.1 a han (Tf a) (Cf a) (hHB.2.2 a han).1 rfl (hHB.2.2 a han).2 (by decide)) (fun y hy l K => by
        have e : y.1 76 = I 76 := hy.1.1 76 (by decide)
        have h15 : y.1 74 15 = 0 := by rw [hy.1.1 74 (by decide)]; exact h.h15
        have z2 := r12_day_ok (l := l) (K := K) (d := 90) (I := y.1) (L := y.2) (R := uR R 21 1 o) (dy := dy) (lfO lc) (hin.of e) coin per fine s0 (hRT.of e h15) n cF cT cS cL (hCM.of e) nh (by rw [e]; exact hh2) hHB.2.1 (some (txF (Cf a))) (nI a) (by rw [e]; exact (Or.inr ⟨a, txF (Cf a), rfl, rfl, hHM a han⟩ : HO (I 76) (nI a) (some (txF (Cf a))))) (Or.inr hx) z (by omega) (by decide)
        rw [e] at z2
        exact z2) (fun y v hy hv => day_rel (D := (DP.mk (I 76) (lfO lc) (some (txF (Cf a))) coin per fine s0 z cF cT cS cL)) hCM.2.1 h hy hv)
    · exact PR.no 1 2 (-2) (by decide) h (fun _ _ => r11_day_n2 nh hHB.1 hHB.2.1 z x hz hx (by decide)) (fun _ _ => r12_day_no2 (I := uI (uI I 55 1 (I 55 1 + 1)) 0 14 (-2)) nh hh2 hHB.2.1 z x hz hx (by decide))
  · exact PR.no 0 1 (-1) (by decide) h (fun _ _ => r11_day_n1 z x hz (by decide)) (fun _ _ => r12_day_no1 (I := uI (uI I 55 0 (I 55 0 + 1)) 0 14 (-1)) z x hz (by decide))
set_option maxHeartbeats 2000000 in
theorem p_image {I : wI} {L : wL} {R : wR} {dy : cH} (h : REL I L R dy) (x : Int32) : PR kdI m11_image m12_image 0 0 [.int x] I L R dy := by
  have hR0 := h.2.1.2.2.1
  have hR1 := h.2.1.2.2.2
  have hok : ∀ j, j < 6 → okT dy (R 4 j) ∧ okT dy (R 5 j) := h.1.2.2.2.2.2.2
  by_cases hx : 0 ≤ x.toInt ∧ x.toInt ≤ 1
  · obtain ⟨k, rfl, hk⟩ := nI_ex hx.1
    have hcs : k = 0 ∨ k = 1 := by omega
    rcases hcs with rfl | rfl
    · refine PR.X (α := wI × wR) (β := wI) (fI := fun y => y.1) (fL := fun _ => L) (fR := fun y => y.2) (gI := fun _ v => v) (gL := fun _ _ => L) (gR := fun y _ => y.2) ⟨_, rfl⟩ (fun l K => r11_image_0 (l := l) (K := K) (d := 90) (I := I) (L := L) (R := R) (dy := dy) hR0 hok (by decide)) (fun y hy l K => r12_image_ok (l := l) (K := K) (d := 90) (I := y.1) (L := L) (R := y.2) (dy := dy) 0 (by decide) (by decide)) (fun y v hy hv => ?_)
      obtain ⟨y1, y2, y3, y4, y5, y6, y7⟩ := hy
      obtain ⟨v1, v2, v3, v4, v5, v6, v7⟩ := hv
      have e : ∀ q, q ∉ [56, 57, 58, 59, 60, 61, 62, 63, 64] → q ≠ 11 → q ≠ 0 → q ≠ 77 → q ≠ 78 → q ≠ 74 → v q = I q := fun q a b c d e f => (v1 q d e f).trans (y1 q a b c)
      have e74 : ∀ j, j ≠ 0 → j ≠ 1 → v 74 j = I 74 j := fun j a b => (v2 j a b).trans (by rw [y1 74 (by decide) (by decide) (by decide)])
      have f0 : v 0 = y.1 0 := v1 0 (by decide) (by decide) (by decide)
      have f11 : v 11 = y.1 11 := v1 11 (by decide) (by decide) (by decide)
      have y77 : y.1 77 = I 77 := y1 77 (by decide) (by decide) (by decide)
      have y78 : y.1 78 = I 78 := y1 78 (by decide) (by decide) (by decide)
      have y76 : y.1 76 = I 76 := y1 76 (by decide) (by decide) (by decide)
      have hl : ∀ q, 1 ≤ q → q < 10 → v q = I q := fun q a b => e q (by simp; omega) (by omega) (by omega) (by omega) (by omega) (by omega)
      have ho : ∀ q, 65 ≤ q → q < 74 → v q = I q := fun q a b => e q (by simp; omega) (by omega) (by omega) (by omega) (by omega) (by omega)
      have hS := h.1
      obtain ⟨h1, h2, h3, h4, h5, h6, h7, h8, h9⟩ := h
      have z1 := h1.c0 (I2 := v) (R2 := y.2) (p := 1) (q := 1) (g2 := v 76) (SEq.same (fun q a b => hl q a (by omega)) (fun q a b => y6 q (by omega) (by omega))) (fun _ _ => by rw [e 76 (by decide) (by decide) (by decide) (by decide) (by decide) (by decide)])
      have zi : IMR v y.2 dy 0 := Or.inr ⟨by rw [f11]; exact y2, v6, hS.c0 (y7.tr (fun q a b => v1 q (by omega) (by omega) (by omega))) (fun j hj => by
        show v 77 (10880 * 0 + j) = I 76 j
        rw [v4 j hj, y76])⟩
      have zo : IMR v y.2 dy 1 := h2.2.1.f2 (by rw [f11]; exact y3 1 (by decide)) (by rw [v7 1 (by decide), y78]) (fun j hj => by rw [v5 _ (by omega), y77]) (fun q a b => ho q (by omega) (by omega)) (fun q a b => y6 q (by omega) (by omega))
      exact ⟨z1, ⟨zi, zo, by rw [y6 10 (by decide) (by decide)]; exact h2.2.2.1, by rw [y6 10 (by decide) (by decide)]; exact h2.2.2.2⟩, h3.fr (by rw [e 12 (by decide) (by decide) (by decide) (by decide) (by decide) (by decide)]) (e 13 (by decide) (by decide) (by decide) (by decide) (by decide) (by decide)) (e74 8 (by decide) (by decide)) (e 79 (by decide) (by decide) (by decide) (by decide) (by decide) (by decide)), h4.fr (e 55 (by decide) (by decide) (by decide) (by decide) (by decide) (by decide)) (e 75 (by decide) (by decide) (by decide) (by decide) (by decide) (by decide)), h5.fr (e74 15 (by decide) (by decide)) rfl rfl, h6.fr (fun q a b => e q (by simp; omega) (by omega) (by omega) (by omega) (by omega) (by omega)) (e 101 (by decide) (by decide) (by decide) (by decide) (by decide) (by decide)) (e 102 (by decide) (by decide) (by decide) (by decide) (by decide) (by decide)) (e74 57 (by decide) (by decide)) (e74 58 (by decide) (by decide)), by rw [f0, y4, v3], by rw [f0, y5 15 (by decide), e74 13 (by decide) (by decide)]; exact h8, by rw [f0, y5 16 (by decide), e74 6 (by decide) (by decide)]; exact h9⟩
    · refine PR.X (α := wI × wR) (β := wI) (fI := fun y => y.1) (fL := fun _ => L) (fR := fun y => y.2) (gI := fun _ v => v) (gL := fun _ _ => L) (gR := fun y _ => y.2) ⟨_, rfl⟩ (fun l K => r11_image_1 (l := l) (K := K) (d := 90) (I := I) (L := L) (R := R) (dy := dy) hR1 hok (by decide)) (fun y hy l K => r12_image_ok (l := l) (K := K) (d := 90) (I := y.1) (L := L) (R := y.2) (dy := dy) 1 (by decide) (by decide)) (fun y v hy hv => ?_)
      obtain ⟨y1, y2, y3, y4, y5, y6, y7⟩ := hy
      obtain ⟨v1, v2, v3, v4, v5, v6, v7⟩ := hv
      have e : ∀ q, q ∉ [65, 66, 67, 68, 69, 70, 71, 72, 73] → q ≠ 11 → q ≠ 0 → q ≠ 77 → q ≠ 78 → q ≠ 74 → v q = I q := fun q a b c d e f => (v1 q d e f).trans (y1 q a b c)
      have e74 : ∀ j, j ≠ 0 → j ≠ 1 → v 74 j = I 74 j := fun j a b => (v2 j a b).trans (by rw [y1 74 (by decide) (by decide) (by decide)])
      have f0 : v 0 = y.1 0 := v1 0 (by decide) (by decide) (by decide)
      have f11 : v 11 = y.1 11 := v1 11 (by decide) (by decide) (by decide)
      have y77 : y.1 77 = I 77 := y1 77 (by decide) (by decide) (by decide)
      have y78 : y.1 78 = I 78 := y1 78 (by decide) (by decide) (by decide)
      have y76 : y.1 76 = I 76 := y1 76 (by decide) (by decide) (by decide)
      have hl : ∀ q, 1 ≤ q → q < 10 → v q = I q := fun q a b => e q (by simp; omega) (by omega) (by omega) (by omega) (by omega) (by omega)
      have ho : ∀ q, 56 ≤ q → q < 65 → v q = I q := fun q a b => e q (by simp; omega) (by omega) (by omega) (by omega) (by omega) (by omega)
      have hS := h.1
      obtain ⟨h1, h2, h3, h4, h5, h6, h7, h8, h9⟩ := h
      have z1 := h1.c0 (I2 := v) (R2 := y.2) (p := 1) (q := 1) (g2 := v 76) (SEq.same (fun q a b => hl q a (by omega)) (fun q a b => y6 q (by omega) (by omega))) (fun _ _ => by rw [e 76 (by decide) (by decide) (by decide) (by decide) (by decide) (by decide)])
      have zi : IMR v y.2 dy 1 := Or.inr ⟨by rw [f11]; exact y2, v6, hS.c0 (y7.tr (fun q a b => v1 q (by omega) (by omega) (by omega))) (fun j hj => by
        show v 77 (10880 * 1 + j) = I 76 j
        rw [v4 j hj, y76])⟩
      have zo : IMR v y.2 dy 0 := h2.1.f2 (by rw [f11]; exact y3 0 (by decide)) (by rw [v7 0 (by decide), y78]) (fun j hj => by rw [v5 _ (by omega), y77]) (fun q a b => ho q (by omega) (by omega)) (fun q a b => y6 q (by omega) (by omega))
      exact ⟨z1, ⟨zo, zi, by rw [y6 10 (by decide) (by decide)]; exact h2.2.2.1, by rw [y6 10 (by decide) (by decide)]; exact h2.2.2.2⟩, h3.fr (by rw [e 12 (by decide) (by decide) (by decide) (by decide) (by decide) (by decide)]) (e 13 (by decide) (by decide) (by decide) (by decide) (by decide) (by decide)) (e74 8 (by decide) (by decide)) (e 79 (by decide) (by decide) (by decide) (by decide) (by decide) (by decide)), h4.fr (e 55 (by decide) (by decide) (by decide) (by decide) (by decide) (by decide)) (e 75 (by decide) (by decide) (by decide) (by decide) (by decide) (by decide)), h5.fr (e74 15 (by decide) (by decide)) rfl rfl, h6.fr (fun q a b => e q (by simp; omega) (by omega) (by omega) (by omega) (by omega) (by omega)) (e 101 (by decide) (by decide) (by decide) (by decide) (by decide) (by decide)) (e 102 (by decide) (by decide) (by decide) (by decide) (by decide) (by decide)) (e74 57 (by decide) (by decide)) (e74 58 (by decide) (by decide)), by rw [f0, y4, v3], by rw [f0, y5 15 (by decide), e74 13 (by decide) (by decide)]; exact h8, by rw [f0, y5 16 (by decide), e74 6 (by decide) (by decide)]; exact h9⟩
  · exact PR.no 0 1 (-1) (by decide) h (fun _ _ => r11_image_no x hx (by decide)) (fun _ _ => r12_image_no (I := uI (uI I 55 0 (I 55 0 + 1)) 0 14 (-1)) x hx (by decide))
set_option maxHeartbeats 2000000 in
theorem p_back {I : wI} {L : wL} {R : wR} {dy : cH} (h : REL I L R dy) (x : Int32) : PR kdI m11_back m12_back 0 0 [.int x] I L R dy := by
  have hR0 := h.2.1.2.2.1
  have hR1 := h.2.1.2.2.2
  by_cases hx : 0 ≤ x.toInt ∧ x.toInt ≤ 1
  · obtain ⟨k, rfl, hk⟩ := nI_ex hx.1
    have hcs : k = 0 ∨ k = 1 := by omega
    rcases hcs with rfl | rfl
    · have hI := h.2.1.1
      rcases id hI with ⟨i1, i2⟩ | ⟨i1, i2, i3⟩
      · exact PR.no 1 2 (-2) (by decide) h (fun _ _ => r11_back_n_0 i1 (by decide)) (fun _ _ => r12_back_no2 (I := uI (uI I 55 1 (I 55 1 + 1)) 0 14 (-2)) 0 (by decide) i2 (by decide))
      · refine PR.X (α := wI × wR) (β := wI) (fI := fun y => y.1) (fL := fun _ => L) (fR := fun y => y.2) (gI := fun _ v => v) (gL := fun _ _ => L) (gR := fun y _ => y.2) ⟨_, rfl⟩ (fun l K => r11_back_0 (l := l) (K := K) (d := 90) (I := I) (L := L) (R := R) (dy := dy) i1 hR0 i3.2.2.2.2.2.2 (by decide)) (fun y hy l K => r12_back_ok (l := l) (K := K) (d := 90) (I := y.1) (L := L) (R := y.2) (dy := dy) 0 (by decide) (by rw [hy.1 78 (by decide) (by decide)]; exact i2) (by decide)) (fun y v hy hv => ?_)
        obtain ⟨y1, y2, y3, y4, y5⟩ := hy
        obtain ⟨v1, v2, v3, v4⟩ := hv
        have e : ∀ q, 10 ≤ q → q ≠ 74 → q ≠ 76 → v q = I q := fun q a b c => (v1 q c b).trans (y1 q (by simp; omega) (by omega))
        have e74 : ∀ j, j ≠ 0 → j ≠ 1 → v 74 j = I 74 j := fun j a b => (v2 j a b).trans (by rw [y1 74 (by decide) (by decide)])
        have f0 : v 0 = y.1 0 := v1 0 (by decide) (by decide)
        have y77 : y.1 77 = I 77 := y1 77 (by decide) (by decide)
        have z1 : SQ v y.2 dy 1 (v 76) := i3.c0 (y5.tr (fun q a b => v1 q (by omega) (by omega))) (fun j hj => by
          show v 76 j = I 77 (10880 * 0 + j)
          rw [v4 j hj, y77])
        have z := h.up (dz := []) (I2 := v) (R2 := y.2) (by rw [List.append_nil]; exact z1) e ⟨by rw [f0]; exact y3 15 (by decide), by rw [f0]; exact y3 16 (by decide)⟩ ⟨e74 6 (by decide) (by decide), e74 8 (by decide) (by decide), e74 13 (by decide) (by decide), e74 15 (by decide) (by decide), e74 57 (by decide) (by decide), e74 58 (by decide) (by decide)⟩ (fun q a => y4 q (by omega) (by omega)) (by rw [f0, y2, v3])
        rw [List.append_nil] at z
        exact z
    · have hI := h.2.1.2.1
      rcases id hI with ⟨i1, i2⟩ | ⟨i1, i2, i3⟩
      · exact PR.no 1 2 (-2) (by decide) h (fun _ _ => r11_back_n_1 i1 (by decide)) (fun _ _ => r12_back_no2 (I := uI (uI I 55 1 (I 55 1 + 1)) 0 14 (-2)) 1 (by decide) i2 (by decide))
      · refine PR.X (α := wI × wR) (β := wI) (fI := fun y => y.1) (fL := fun _ => L) (fR := fun y => y.2) (gI := fun _ v => v) (gL := fun _ _ => L) (gR := fun y _ => y.2) ⟨_, rfl⟩ (fun l K => r11_back_1 (l := l) (K := K) (d := 90) (I := I) (L := L) (R := R) (dy := dy) i1 hR1 i3.2.2.2.2.2.2 (by decide)) (fun y hy l K => r12_back_ok (l := l) (K := K) (d := 90) (I := y.1) (L := L) (R := y.2) (dy := dy) 1 (by decide) (by rw [hy.1 78 (by decide) (by decide)]; exact i2) (by decide)) (fun y v hy hv => ?_)
        obtain ⟨y1, y2, y3, y4, y5⟩ := hy
        obtain ⟨v1, v2, v3, v4⟩ := hv
        have e : ∀ q, 10 ≤ q → q ≠ 74 → q ≠ 76 → v q = I q := fun q a b c => (v1 q c b).trans (y1 q (by simp; omega) (by omega))
        have e74 : ∀ j, j ≠ 0 → j ≠ 1 → v 74 j = I 74 j := fun j a b => (v2 j a b).trans (by rw [y1 74 (by decide) (by decide)])
        have f0 : v 0 = y.1 0 := v1 0 (by decide) (by decide)
        have y77 : y.1 77 = I 77 := y1 77 (by decide) (by decide)
        have z1 : SQ v y.2 dy 1 (v 76) := i3.c0 (y5.tr (fun q a b => v1 q (by omega) (by omega))) (fun j hj => by
          show v 76 j = I 77 (10880 * 1 + j)
          rw [v4 j hj, y77])
        have z := h.up (dz := []) (I2 := v) (R2 := y.2) (by rw [List.append_nil]; exact z1) e ⟨by rw [f0]; exact y3 15 (by decide), by rw [f0]; exact y3 16 (by decide)⟩ ⟨e74 6 (by decide) (by decide), e74 8 (by decide) (by decide), e74 13 (by decide) (by decide), e74 15 (by decide) (by decide), e74 57 (by decide) (by decide), e74 58 (by decide) (by decide)⟩ (fun q a => y4 q (by omega) (by omega)) (by rw [f0, y2, v3])
        rw [List.append_nil] at z
        exact z
  · exact PR.no 0 1 (-1) (by decide) h (fun _ _ => r11_back_no1 x hx (by decide)) (fun _ _ => r12_back_no1 (I := uI (uI I 55 0 (I 55 0 + 1)) 0 14 (-1)) x hx (by decide))
