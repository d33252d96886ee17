theorem ob_n1 {I : wI} {x a b c : Int32} : ∀ q, q ∈ obI → (uI (uI (uI (sv I x) 74 0 a) 74 35 b) 74 36 c) q = I q := fun q hq => by
  have h74 : q ≠ 74 := nin hq (by decide)
  have h23 : q ≠ 23 := nin hq (by decide)
  unfold sv; rw [uI_n h74, uI_n h74, uI_n h74, uI_n h23, uI_n h23, uI_n h23]
theorem ob_n2 {I : wI} {x a b c : Int32} : ∀ j, j ∈ ob74 → (uI (uI (uI (sv I x) 74 0 a) 74 35 b) 74 36 c) 74 j = I 74 j := fun j hj => by
  have a0 : j ≠ 0 := nin hj (by decide)
  have a1 : j ≠ 35 := nin hj (by decide)
  have a2 : j ≠ 36 := nin hj (by decide)
  unfold sv; rw [uI_sn a2, uI_sn a1, uI_sn a0, uI_n (by decide), uI_n (by decide), uI_n (by decide)]
set_option maxHeartbeats 400000 in
theorem p_tar {I : wI} {L : wL} {R : wR} {dy : cH} (h : REL I L R dy)  : PR kdI m11_tar m12_tar 0 0 [] I L R dy := by
  exact PR.E0 ⟨_, rfl⟩ h (fun _ _ => r11_tar (by decide)) (fun _ _ => by rw [h.2.2.2.2.2.2.2.2]; exact r12_tar (by decide))
set_option maxHeartbeats 400000 in
theorem p_fault {I : wI} {L : wL} {R : wR} {dy : cH} (h : REL I L R dy)  : PR kdI m11_fault m12_fault 0 0 [] I L R dy := by
  exact PR.E0 ⟨_, rfl⟩ h (fun _ _ => r11_fault (by decide)) (fun _ _ => by rw [h.2.2.2.2.2.2.2.1]; exact r12_fault (by decide))
set_option maxHeartbeats 400000 in
theorem p_status {I : wI} {L : wL} {R : wR} {dy : cH} (h : REL I L R dy)  : PR kdI m11_status m12_status 0 0 [] I L R dy := by
  exact PR.E0 ⟨_, rfl⟩ h (fun _ _ => r11_status (by decide)) (fun _ _ => by rw [h.2.2.2.2.2.2.1]; exact r12_status (by decide))
set_option maxHeartbeats 400000 in
theorem p_fact {I : wI} {L : wL} {R : wR} {dy : cH} (h : REL I L R dy) (c : Int32) (w : Int32) : PR kdI m11_fact m12_fact 0 0 [.int c, .int w] I L R dy := by
  obtain ⟨n, cF, cT, cS, cL, h1, h2, h3, h4, h5⟩ := h.1.1
  by_cases hb : (0 ≤ c.toInt ∧ c.toInt < n) ∧ 0 ≤ w.toInt ∧ w.toInt ≤ 3
  · obtain ⟨k, rfl, hk⟩ := nI_ex hb.1.1
    obtain ⟨j, rfl, hj⟩ := nI_ex hb.2.1
    have e : I 2 (k * 4 + j) = I 76 (14 + 4 * k + j) := by
      have z := h4 (k * 4 + j) (by omega); rw [show 14 + (k * 4 + j) = 14 + 4 * k + j by omega] at z; exact z
    exact PR.E0 ⟨_, rfl⟩ h (fun _ _ => r11_fact_ok j (by omega) n k h1 h3 (by omega) (by decide)) (fun _ _ => by rw [e]; exact r12_fact_ok n k j h2 h3 (by omega) (by omega) (by decide))
  · exact PR.E0 ⟨_, rfl⟩ h (fun _ _ => r11_fact_no c w n h1 h3 hb (by decide)) (fun _ _ => r12_fact_no c w n h2 h3 hb (by decide))
set_option maxHeartbeats 400000 in
theorem p_count {I : wI} {L : wL} {R : wR} {dy : cH} (h : REL I L R dy) (x : Int32) : PR kdI m11_count m12_count 0 0 [.int x] I L R dy := by
  have hA := h.1.1
  have hT := h.2.2.1
  have hN := h.2.2.2.1
  by_cases hb : 0 ≤ x.toInt ∧ x.toInt ≤ 19
  · obtain ⟨k, rfl, hk⟩ := nI_ex hb.1
    have hk19 : k ≤ 19 := by omega
    have hcs : k = 0 ∨ k = 1 ∨ k = 2 ∨ k = 3 ∨ k = 4 ∨ k = 5 ∨ k = 6 ∨ k = 7 ∨ k = 8 ∨ k = 9 ∨ k = 10 ∨ k = 11 ∨ 12 ≤ k := by omega
    rcases hcs with rfl | rfl | rfl | rfl | rfl | rfl | rfl | rfl | rfl | rfl | rfl | rfl | h12
    · obtain ⟨n, cF, cT, cS, cL, h1, h2, -⟩ := h.1.1
      have e : I 1 0 = I 76 0 := h1.trans h2.symm
      exact PR.E0 ⟨_, rfl⟩ h (fun _ _ => r11_count_0 (nI 0) (by decide) (by decide)) (fun _ _ => by rw [e]; exact r12_count_0 (nI 0) (by decide) (by decide))
    · obtain ⟨nl, Tf, Cf, ⟨h1, h2, -⟩, -⟩ := h.1.2.2.1
      have e : I 1 3 = I 76 1 := h1.trans h2.symm
      exact PR.E0 ⟨_, rfl⟩ h (fun _ _ => r11_count_1 (nI 1) (by decide) (by decide)) (fun _ _ => by rw [e]; exact r12_count_1 (nI 1) (by decide) (by decide))
    · obtain ⟨nl, Tf, Cf, h1, h2, -⟩ := h.1.2.2.2.1
      have e : I 1 6 = I 76 2 := h1.trans h2.symm
      exact PR.E0 ⟨_, rfl⟩ h (fun _ _ => r11_count_2 (nI 2) (by decide) (by decide)) (fun _ _ => by rw [e]; exact r12_count_2 (nI 2) (by decide) (by decide))
    · obtain ⟨nl, Tf, Cf, h1, h2, -⟩ := h.1.2.2.2.2.1
      have e : I 1 8 = I 76 3 := h1.trans h2.symm
      exact PR.E0 ⟨_, rfl⟩ h (fun _ _ => r11_count_3 (nI 3) (by decide) (by decide)) (fun _ _ => by rw [e]; exact r12_count_3 (nI 3) (by decide) (by decide))
    · obtain ⟨nl, Tf, Cf, h1, h2, -⟩ := h.1.2.2.2.2.2.1
      have e : I 1 11 = I 76 4 := h1.trans h2.symm
      exact PR.E0 ⟨_, rfl⟩ h (fun _ _ => r11_count_4 (nI 4) (by decide) (by decide)) (fun _ _ => by rw [e]; exact r12_count_4 (nI 4) (by decide) (by decide))
    · obtain ⟨tp, t, h1, h2⟩ := hT
      have e : I 12 1 = I 74 8 := h1.2.1.trans h2.2.1.symm
      exact PR.E0 ⟨_, rfl⟩ h (fun _ _ => r11_count_5 (nI 5) (by decide) (by decide)) (fun _ _ => by rw [e]; exact r12_count_5 (nI 5) (by decide) (by decide))
    · exact PR.E0 ⟨_, rfl⟩ h (fun _ _ => r11_count_r 0 (by decide) (by decide)) (fun _ _ => by rw [hN.1]; exact r12_count_6 (nI 6) (by decide) (by decide))
    · exact PR.E0 ⟨_, rfl⟩ h (fun _ _ => r11_count_r 1 (by decide) (by decide)) (fun _ _ => by rw [hN.2.1]; exact r12_count_7 (nI 7) (by decide) (by decide))
    · exact PR.E0 ⟨_, rfl⟩ h (fun _ _ => r11_count_r 2 (by decide) (by decide)) (fun _ _ => by rw [hN.2.2.1]; exact r12_count_8 (nI 8) (by decide) (by decide))
    · exact PR.E0 ⟨_, rfl⟩ h (fun _ _ => r11_count_r 3 (by decide) (by decide)) (fun _ _ => by rw [hN.2.2.2.1]; exact r12_count_9 (nI 9) (by decide) (by decide))
    · exact PR.E0 ⟨_, rfl⟩ h (fun _ _ => r11_count_r 4 (by decide) (by decide)) (fun _ _ => by rw [hN.2.2.2.2]; exact r12_count_10 (nI 10) (by decide) (by decide))
    · obtain ⟨nl, Tf, Cf, -, hF⟩ := h.1.2.2.1
      have e : I 1 5 = I 76 5 := hF.1
      exact PR.E0 ⟨_, rfl⟩ h (fun _ _ => r11_count_11 (nI 11) (by decide) (by decide)) (fun _ _ => by rw [e]; exact r12_count_11 (nI 11) (by decide) (by decide))
    · obtain ⟨tm, hB⟩ := h.1.2.1
      obtain ⟨j, rfl⟩ : ∃ j, k = 12 + j := ⟨k - 12, by omega⟩
      have e : I 3 j = I 76 (6 + j) := (hB j (by omega)).1.trans (hB j (by omega)).2.1.symm
      exact PR.E0 ⟨_, rfl⟩ h (fun _ _ => r11_count_t j (by omega) (by decide)) (fun _ _ => by rw [e]; exact r12_count_t j (by omega) (by decide))
  · exact PR.E0 ⟨_, rfl⟩ h (fun _ _ => r11_count_no x (by omega) (by decide)) (fun _ _ => r12_count_no x (by omega) (by decide))
set_option maxHeartbeats 400000 in
theorem p_asks {I : wI} {L : wL} {R : wR} {dy : cH} (h : REL I L R dy) (s : Int32) (k : Int32) (c : Int32) (w : Int32) : PR kdI m11_asks m12_asks 0 0 [.int s, .int k, .int c, .int w] I L R dy := by
  obtain ⟨coin, per, fine, s0, wa, wage, hRT, hCT, hc1, ⟨h34, hs1, hs2⟩, hg, e5, hwa, hwg⟩ := h.tm
  obtain ⟨o, lc, hO, hin⟩ := h.lw
  obtain ⟨n, cF, cT, cS, cL, hCS, hCM⟩ := h.cs
  have esv : sv I (I 3 5) 76 = I 76 := rfl
  have esv4 : sv I (I 3 5) 74 = I 74 := rfl
  by_cases hb : (0 ≤ s.toInt ∧ s.toInt < 12) ∧ (1 ≤ k.toInt ∧ k.toInt ≤ 12) ∧ 0 ≤ w.toInt ∧ w.toInt ≤ 2
  · obtain ⟨s, rfl, hs⟩ := nI_ex hb.1.1
    obtain ⟨k, rfl, hk⟩ := nI_ex (x := k) (by omega)
    obtain ⟨w, rfl, hw⟩ := nI_ex hb.2.2.1
    by_cases hw0 : w = 0
    · subst hw0
      have z1 := fun (l : Launch) (K : cK) => r11_asks_0 (l := l) (K := K) (d := 90) (I := I) (L := L) (R := R) (dy := dy) (I 76) hg o lc hO s k (by omega) (by omega) (by omega) c (by decide)
      rw [e5] at z1
      refine PR.K [90, 92, 93, 96, 98] [0, 28, 32, 35, 36, 43, 44] [87, 88, 89, 91, 94, 95, 97, 99, 100] [33, 34, 42] ⟨_, rfl⟩ h z1 (by decide) (by decide) (by decide) (by decide) (by decide) (by decide) (by decide) (by decide) (fun I1 L1 e h15 l K => ?_)
      have z2 := r12_asks_0 (l := l) (K := K) (d := 90) (I := I1) (L := L1) (R := uR R 21 1 o) (dy := dy) (lfO lc) (hin.of e) h15 s k (by omega) (by omega) (by omega) c (by decide)
      rw [e] at z2
      exact z2
    · by_cases hc : 0 ≤ c.toInt ∧ c.toInt < n
      · obtain ⟨c, rfl, hcc⟩ := nI_ex hc.1
        have hcn : c < n := by omega
        by_cases hsl : cF c ≤ s ∧ s ≤ cT c
        · have hw12 : w = 1 ∨ w = 2 := by omega
          rcases hw12 with rfl | rfl
          · skip
            have z1 := fun (l : Launch) (K : cK) => r11_asks_1 (l := l) (K := K) (d := 90) (I := I) (L := L) (R := R) (dy := dy) (I 76) hg o lc hO s k (by omega) (by omega) (by omega) n hCS.1 hCS.2.1 c (cF c) (cT c) (cS c) (cL c) coin per fine (hCS.2.2 c hcn) hCT hcn hsl.1 hsl.2 (by decide)
            rw [e5] at z1
            refine PR.K [90, 92, 93, 96, 98] [0, 28, 32, 35, 36, 43, 44] [87, 88, 89, 91, 94, 95, 97, 99, 100] [33, 34, 42] ⟨_, rfl⟩ h z1 (by decide) (by decide) (by decide) (by decide) (by decide) (by decide) (by decide) (by decide) (fun I1 L1 e h15 l K => ?_)
            have z2 := r12_asks_1 (l := l) (K := K) (d := 90) (I := I1) (L := L1) (R := uR R 21 1 o) (dy := dy) (lfO lc) (hin.of e) h15 s k (by omega) (by omega) (by omega) n (by rw [e]; exact hCM.1) hCM.2.1 c (cF c) (cT c) (cS c) (cL c) ((hCM.2.2 c hcn).of e) hcn hsl.1 hsl.2 fine (by rw [e]; exact hRT.2.2.2.2.2.2.1) hCT.2.2.2.2.2.2 (by decide)
            rw [e] at z2
            exact z2
          · skip
            have z1 := fun (l : Launch) (K : cK) => r11_asks_2 (l := l) (K := K) (d := 90) (I := I) (L := L) (R := R) (dy := dy) (I 76) hg o lc hO s k (by omega) (by omega) (by omega) n hCS.1 hCS.2.1 c (cF c) (cT c) (cS c) (cL c) coin per fine (hCS.2.2 c hcn) hCT hcn hsl.1 hsl.2 (by decide)
            rw [e5] at z1
            refine PR.K [90, 92, 93, 96, 98] [0, 28, 32, 35, 36, 43, 44] [87, 88, 89, 91, 94, 95, 97, 99, 100] [33, 34, 42] ⟨_, rfl⟩ h z1 (by decide) (by decide) (by decide) (by decide) (by decide) (by decide) (by decide) (by decide) (fun I1 L1 e h15 l K => ?_)
            have z2 := r12_asks_2 (l := l) (K := K) (d := 90) (I := I1) (L := L1) (R := uR R 21 1 o) (dy := dy) (lfO lc) (hin.of e) h15 s k (by omega) (by omega) (by omega) n (by rw [e]; exact hCM.1) hCM.2.1 c (cF c) (cT c) (cS c) (cL c) ((hCM.2.2 c hcn).of e) hcn hsl.1 hsl.2 (by decide)
            rw [e] at z2
            exact z2
        · refine PR.E (I1 := sv I (I 3 5)) (L1 := L) (R1 := uR R 21 1 o) ⟨_, rfl⟩ (fun l K => r11_asks_n2 (l := l) (K := K) (d := 90) (I := I) (L := L) (R := R) (dy := dy) (I 76) hg o lc hO s k (by omega) (by omega) (by omega) n hCS.1 hCS.2.1 c (cF c) (cT c) (cS c) (cL c) (hCS.2.2 c hcn) hcn hsl w (by omega) (by omega) (by decide)) (fun l K => r12_asks_n2 (l := l) (K := K) (d := 90) (I := sv I (I 3 5)) (L := L) (R := uR R 21 1 o) (dy := dy) (lfO lc) (hin.of esv) (by rw [esv4]; exact h.h15) s k (by omega) (by omega) (by omega) n (by rw [esv]; exact hCM.1) hCM.2.1 c (cF c) (cT c) (cS c) (cL c) ((hCM.2.2 c hcn).of esv) hcn hsl w (by omega) (by omega) (by decide)) ?_
          exact h.f0 (ob_n1) (ob_n2) rfl rfl ur_ob
      · refine PR.E (I1 := sv I (I 3 5)) (L1 := L) (R1 := uR R 21 1 o) ⟨_, rfl⟩ (fun l K => r11_asks_n1 (l := l) (K := K) (d := 90) (I := I) (L := L) (R := R) (dy := dy) (I 76) hg o lc hO s k (by omega) (by omega) (by omega) n hCS.1 hCS.2.1 c hc w (by omega) (by omega) (by decide)) (fun l K => r12_asks_n1 (l := l) (K := K) (d := 90) (I := sv I (I 3 5)) (L := L) (R := uR R 21 1 o) (dy := dy) (lfO lc) (hin.of esv) (by rw [esv4]; exact h.h15) s k (by omega) (by omega) (by omega) n (by rw [esv]; exact hCM.1) hCM.2.1 c hc w (by omega) (by omega) (by decide)) ?_
        exact h.f0 (ob_n1) (ob_n2) rfl rfl ur_ob
  · exact PR.E0 ⟨_, rfl⟩ h (fun _ _ => r11_asks_no s k c w hb (by decide)) (fun _ _ => r12_asks_no s k c w hb (by decide))
set_option maxHeartbeats 400000 in
theorem p_likely {I : wI} {L : wL} {R : wR} {dy : cH} (h : REL I L R dy) (x : Int32) (w : Int32) : PR kdL m11_likely m12_likely 0 0 [.int x, .int w] I L R dy := by
  obtain ⟨coin, per, fine, s0, wa, wage, hRT, hCT, hc1, ⟨h34, hs1, hs2⟩, hg, e5, hwa, hwg⟩ := h.tm
  obtain ⟨o, lc, hO, hin⟩ := h.lw
  by_cases hb : (0 ≤ x.toInt ∧ x.toInt < 12) ∧ 0 ≤ w.toInt ∧ w.toInt ≤ 1
  · obtain ⟨sl, rfl, hs⟩ := nI_ex hb.1.1
    obtain ⟨w, rfl, hw⟩ := nI_ex hb.2.1
    have hw12 : w = 0 ∨ w = 1 := by omega
    rcases hw12 with rfl | rfl
    · skip
      have z1 := fun (l : Launch) (K : cK) => r11_likely_0 (l := l) (K := K) (d := 90) (I := I) (L := L) (R := R) (dy := dy) (I 76) hg s0 h34 hs1 hs2 o lc hO sl (by omega) (by decide)
      rw [e5] at z1
      refine PR.K [90, 92, 93, 96, 98] [0, 28, 32, 35, 36, 43, 44] [87, 88, 89, 91, 94, 95, 97, 99, 100] [33, 34, 42] ⟨_, rfl⟩ h z1 (by decide) (by decide) (by decide) (by decide) (by decide) (by decide) (by decide) (by decide) (fun I1 L1 e h15 l K => ?_)
      have z2 := r12_likely_0 (l := l) (K := K) (d := 90) (I := I1) (L := L1) (R := uR R 21 1 o) (dy := dy) (lfO lc) (hin.of e) coin per fine s0 (hRT.of e h15) sl (by omega) (by decide)
      rw [e] at z2
      exact z2
    · skip
      have z1 := fun (l : Launch) (K : cK) => r11_likely_1 (l := l) (K := K) (d := 90) (I := I) (L := L) (R := R) (dy := dy) (I 76) hg s0 h34 hs1 hs2 o lc hO sl (by omega) (by decide)
      rw [e5] at z1
      refine PR.K [90, 92, 93, 96, 98] [0, 28, 32, 35, 36, 43, 44] [87, 88, 89, 91, 94, 95, 97, 99, 100] [33, 34, 42] ⟨_, rfl⟩ h z1 (by decide) (by decide) (by decide) (by decide) (by decide) (by decide) (by decide) (by decide) (fun I1 L1 e h15 l K => ?_)
      have z2 := r12_likely_1 (l := l) (K := K) (d := 90) (I := I1) (L := L1) (R := uR R 21 1 o) (dy := dy) (lfO lc) (hin.of e) coin per fine s0 (hRT.of e h15) sl (by omega) (by decide)
      rw [e] at z2
      exact z2
  · exact PR.E0 ⟨_, rfl⟩ h (fun _ _ => r11_likely_no x w hb (by decide)) (fun _ _ => r12_likely_no x w hb (by decide))
set_option maxHeartbeats 400000 in
theorem p_cost {I : wI} {L : wL} {R : wR} {dy : cH} (h : REL I L R dy) (x : Int32) (w : Int32) : PR kdL m11_cost m12_cost 0 0 [.int x, .int w] I L R dy := by
  obtain ⟨coin, per, fine, s0, wa, wage, hRT, hCT, hc1, ⟨h34, hs1, hs2⟩, hg, e5, hwa, hwg⟩ := h.tm
  obtain ⟨o, lc, hO, hin⟩ := h.lw
  obtain ⟨n, cF, cT, cS, cL, hCS, hCM⟩ := h.cs
  by_cases hx : 0 ≤ x.toInt ∧ x.toInt < n
  · obtain ⟨c, rfl, hcc⟩ := nI_ex hx.1
    have hcn : c < n := by omega
    by_cases hw : 0 ≤ w.toInt ∧ w.toInt ≤ 12
    · obtain ⟨m, rfl, hm⟩ := nI_ex hw.1
      have z1 := fun (l : Launch) (K : cK) => r11_cost_ok (l := l) (K := K) (d := 90) (I := I) (L := L) (R := R) (dy := dy) (I 76) hg s0 h34 hs1 hs2 o lc hO c (cF c) (cT c) (cS c) (cL c) coin per fine (hCS.2.2 c hcn) hCT n hCS.1 hCS.2.1 hcn m (by omega) (by decide)
      rw [e5] at z1
      refine PR.K [90, 92, 93] [0, 28, 32, 35, 36] [87, 88, 89, 91, 94] [33, 34] ⟨_, rfl⟩ h z1 (by decide) (by decide) (by decide) (by decide) (by decide) (by decide) (by decide) (by decide) (fun I1 L1 e h15 l K => ?_)
      have z2 := r12_cost_ok (l := l) (K := K) (d := 90) (I := I1) (L := L1) (R := uR R 21 1 o) (dy := dy) (lfO lc) (hin.of e) coin per fine s0 (hRT.of e h15) n (by rw [e]; exact hCM.1) hCM.2.1 c (cF c) (cT c) (cS c) (cL c) ((hCM.2.2 c hcn).of e) hcn m (by omega) (by decide)
      rw [e] at z2
      exact z2
    · exact PR.E0 ⟨_, rfl⟩ h (fun _ _ => r11_cost_n2 n hCS.1 hCS.2.1 c hcn w hw (by decide)) (fun _ _ => r12_cost_no n hCM.1 hCM.2.1 (nI c) w (fun z => hw z.2) (by decide))
  · exact PR.E0 ⟨_, rfl⟩ h (fun _ _ => r11_cost_n1 n hCS.1 hCS.2.1 x w hx (by decide)) (fun _ _ => r12_cost_no n hCM.1 hCM.2.1 x w (fun z => hx z.1) (by decide))
set_option maxHeartbeats 400000 in
theorem p_coins {I : wI} {L : wL} {R : wR} {dy : cH} (h : REL I L R dy) (x : Int32) (w : Int32) : PR kdI m11_coins m12_coins 0 0 [.int x, .int w] I L R dy := by
  obtain ⟨coin, per, fine, s0, wa, wage, hRT, hCT, hc1, ⟨h34, hs1, hs2⟩, hg, e5, hwa, hwg⟩ := h.tm
  obtain ⟨o, lc, hO, hin⟩ := h.lw
  obtain ⟨n, cF, cT, cS, cL, hCS, hCM⟩ := h.cs
  by_cases hx : 0 ≤ x.toInt ∧ x.toInt < n
  · obtain ⟨c, rfl, hcc⟩ := nI_ex hx.1
    have hcn : c < n := by omega
    by_cases hw : 0 ≤ w.toInt ∧ w.toInt ≤ 1
    · obtain ⟨m, rfl, hm⟩ := nI_ex hw.1
      have hcs : m = 0 ∨ m = 1 := by omega
      rcases hcs with rfl | rfl
      · skip
        have z1 := fun (l : Launch) (K : cK) => r11_coins_0 (l := l) (K := K) (d := 90) (I := I) (L := L) (R := R) (dy := dy) (I 76) hg s0 h34 hs1 hs2 o lc hO c (cF c) (cT c) (cS c) (cL c) coin per fine (hCS.2.2 c hcn) hCT n hCS.1 hCS.2.1 hcn (by decide)
        rw [e5] at z1
        refine PR.K [90, 92, 93] [0, 28, 32, 35, 36, 43, 44] [87, 88, 89, 91, 94] [33, 34, 42] ⟨_, rfl⟩ h z1 (by decide) (by decide) (by decide) (by decide) (by decide) (by decide) (by decide) (by decide) (fun I1 L1 e h15 l K => ?_)
        have z2 := r12_coins_0 (l := l) (K := K) (d := 90) (I := I1) (L := L1) (R := uR R 21 1 o) (dy := dy) (lfO lc) (hin.of e) coin per fine s0 (hRT.of e h15) n (by rw [e]; exact hCM.1) hCM.2.1 c (cF c) (cT c) (cS c) (cL c) ((hCM.2.2 c hcn).of e) hcn (by decide)
        rw [e] at z2
        exact z2
      · skip
        have z1 := fun (l : Launch) (K : cK) => r11_coins_1 (l := l) (K := K) (d := 90) (I := I) (L := L) (R := R) (dy := dy) (I 76) hg s0 h34 hs1 hs2 o lc hO c (cF c) (cT c) (cS c) (cL c) coin per fine (hCS.2.2 c hcn) hCT n hCS.1 hCS.2.1 hcn (by decide)
        rw [e5] at z1
        refine PR.K [90, 92, 93] [0, 28, 32, 35, 36, 43, 44] [87, 88, 89, 91, 94] [33, 34, 42] ⟨_, rfl⟩ h z1 (by decide) (by decide) (by decide) (by decide) (by decide) (by decide) (by decide) (by decide) (fun I1 L1 e h15 l K => ?_)
        have z2 := r12_coins_1 (l := l) (K := K) (d := 90) (I := I1) (L := L1) (R := uR R 21 1 o) (dy := dy) (lfO lc) (hin.of e) coin per fine s0 (hRT.of e h15) n (by rw [e]; exact hCM.1) hCM.2.1 c (cF c) (cT c) (cS c) (cL c) ((hCM.2.2 c hcn).of e) hcn (by decide)
        rw [e] at z2
        exact z2
    · exact PR.E0 ⟨_, rfl⟩ h (fun _ _ => r11_coins_n2 n hCS.1 hCS.2.1 c hcn w hw (by decide)) (fun _ _ => r12_coins_no n hCM.1 hCM.2.1 (nI c) w (fun z => hw z.2) (by decide))
  · exact PR.E0 ⟨_, rfl⟩ h (fun _ _ => r11_coins_n1 n hCS.1 hCS.2.1 x w hx (by decide)) (fun _ _ => r12_coins_no n hCM.1 hCM.2.1 x w (fun z => hx z.1) (by decide))
set_option maxHeartbeats 400000 in
theorem p_least {I : wI} {L : wL} {R : wR} {dy : cH} (h : REL I L R dy) (x : Int32) (w : Int32) : PR kdL m11_least m12_least 0 0 [.int x, .int w] I L R dy := by
  obtain ⟨coin, per, fine, s0, wa, wage, hRT, hCT, hc1, ⟨h34, hs1, hs2⟩, hg, e5, hwa, hwg⟩ := h.tm
  obtain ⟨o, lc, hO, hin⟩ := h.lw
  obtain ⟨n, cF, cT, cS, cL, hCS, hCM⟩ := h.cs
  by_cases hx : 0 ≤ x.toInt ∧ x.toInt < n
  · obtain ⟨c, rfl, hcc⟩ := nI_ex hx.1
    have hcn : c < n := by omega
    by_cases hw : 0 ≤ w.toInt ∧ w.toInt ≤ 3
    · obtain ⟨m, rfl, hm⟩ := nI_ex hw.1
      have hcs : m = 0 ∨ m = 1 ∨ m = 2 ∨ m = 3 := by omega
      rcases hcs with rfl | rfl | rfl | rfl
      · skip
        have z1 := fun (l : Launch) (K : cK) => r11_least_0 (l := l) (K := K) (d := 90) (I := I) (L := L) (R := R) (dy := dy) (I 76) hg s0 h34 hs1 hs2 o lc hO c (cF c) (cT c) (cS c) (cL c) coin per fine (hCS.2.2 c hcn) hCT n hCS.1 hCS.2.1 hcn hc1 (by decide)
        rw [e5] at z1
        refine PR.K [90, 92, 93, 96, 98] [0, 28, 32, 35, 36, 43, 44] [87, 88, 89, 91, 94, 95, 97, 99, 100] [33, 34, 42] ⟨_, rfl⟩ h z1 (by decide) (by decide) (by decide) (by decide) (by decide) (by decide) (by decide) (by decide) (fun I1 L1 e h15 l K => ?_)
        have z2 := r12_least_0 (l := l) (K := K) (d := 90) (I := I1) (L := L1) (R := uR R 21 1 o) (dy := dy) (lfO lc) (hin.of e) coin per fine s0 (hRT.of e h15) n (by rw [e]; exact hCM.1) hCM.2.1 c (cF c) (cT c) (cS c) (cL c) ((hCM.2.2 c hcn).of e) hcn (by decide)
        rw [e] at z2
        exact z2
      · skip
        have z1 := fun (l : Launch) (K : cK) => r11_least_1 (l := l) (K := K) (d := 90) (I := I) (L := L) (R := R) (dy := dy) (I 76) hg s0 h34 hs1 hs2 o lc hO c (cF c) (cT c) (cS c) (cL c) coin per fine (hCS.2.2 c hcn) hCT n hCS.1 hCS.2.1 hcn hc1 (by decide)
        rw [e5] at z1
        refine PR.K [90, 92, 93, 96, 98] [0, 28, 32, 35, 36, 43, 44] [87, 88, 89, 91, 94, 95, 97, 99, 100] [33, 34, 42] ⟨_, rfl⟩ h z1 (by decide) (by decide) (by decide) (by decide) (by decide) (by decide) (by decide) (by decide) (fun I1 L1 e h15 l K => ?_)
        have z2 := r12_least_1 (l := l) (K := K) (d := 90) (I := I1) (L := L1) (R := uR R 21 1 o) (dy := dy) (lfO lc) (hin.of e) coin per fine s0 (hRT.of e h15) n (by rw [e]; exact hCM.1) hCM.2.1 c (cF c) (cT c) (cS c) (cL c) ((hCM.2.2 c hcn).of e) hcn (by decide)
        rw [e] at z2
        exact z2
      · skip
        have z1 := fun (l : Launch) (K : cK) => r11_least_2 (l := l) (K := K) (d := 90) (I := I) (L := L) (R := R) (dy := dy) (I 76) hg s0 h34 hs1 hs2 o lc hO c (cF c) (cT c) (cS c) (cL c) coin per fine (hCS.2.2 c hcn) hCT n hCS.1 hCS.2.1 hcn hc1 (by decide)
        rw [e5] at z1
        refine PR.K [90, 92, 93, 96, 98] [0, 28, 32, 35, 36, 43, 44] [87, 88, 89, 91, 94, 95, 97, 99, 100] [33, 34, 42] ⟨_, rfl⟩ h z1 (by decide) (by decide) (by decide) (by decide) (by decide) (by decide) (by decide) (by decide) (fun I1 L1 e h15 l K => ?_)
        have z2 := r12_least_2 (l := l) (K := K) (d := 90) (I := I1) (L := L1) (R := uR R 21 1 o) (dy := dy) (lfO lc) (hin.of e) coin per fine s0 (hRT.of e h15) n (by rw [e]; exact hCM.1) hCM.2.1 c (cF c) (cT c) (cS c) (cL c) ((hCM.2.2 c hcn).of e) hcn (by decide)
        rw [e] at z2
        exact z2
      · skip
        have z1 := fun (l : Launch) (K : cK) => r11_least_3 (l := l) (K := K) (d := 90) (I := I) (L := L) (R := R) (dy := dy) (I 76) hg s0 h34 hs1 hs2 o lc hO c (cF c) (cT c) (cS c) (cL c) coin per fine (hCS.2.2 c hcn) hCT n hCS.1 hCS.2.1 hcn hc1 (by decide)
        rw [e5] at z1
        refine PR.K [90, 92, 93, 96, 98] [0, 28, 32, 35, 36, 43, 44] [87, 88, 89, 91, 94, 95, 97, 99, 100] [33, 34, 42] ⟨_, rfl⟩ h z1 (by decide) (by decide) (by decide) (by decide) (by decide) (by decide) (by decide) (by decide) (fun I1 L1 e h15 l K => ?_)
        have z2 := r12_least_3 (l := l) (K := K) (d := 90) (I := I1) (L := L1) (R := uR R 21 1 o) (dy := dy) (lfO lc) (hin.of e) coin per fine s0 (hRT.of e h15) n (by rw [e]; exact hCM.1) hCM.2.1 c (cF c) (cT c) (cS c) (cL c) ((hCM.2.2 c hcn).of e) hcn (by decide)
        rw [e] at z2
        exact z2
    · exact PR.E0 ⟨_, rfl⟩ h (fun _ _ => r11_least_n2 n hCS.1 hCS.2.1 c hcn w hw (by decide)) (fun _ _ => r12_least_no n hCM.1 hCM.2.1 (nI c) w (fun z => hw z.2) (by decide))
  · exact PR.E0 ⟨_, rfl⟩ h (fun _ _ => r11_least_n1 n hCS.1 hCS.2.1 x w hx (by decide)) (fun _ _ => r12_least_no n hCM.1 hCM.2.1 x w (fun z => hx z.1) (by decide))
set_option maxHeartbeats 400000 in
theorem p_down {I : wI} {L : wL} {R : wR} {dy : cH} (h : REL I L R dy) (x : Int32) (w : Int32) : PR kdI m11_down m12_down 0 0 [.int x, .int w] I L R dy := by
  obtain ⟨coin, per, fine, s0, wa, wage, hRT, hCT, hc1, ⟨h34, hs1, hs2⟩, hg, e5, hwa, hwg⟩ := h.tm
  obtain ⟨o, lc, hO, hin⟩ := h.lw
  obtain ⟨n, cF, cT, cS, cL, hCS, hCM⟩ := h.cs
  by_cases hx : 0 ≤ x.toInt ∧ x.toInt < n
  · obtain ⟨c, rfl, hcc⟩ := nI_ex hx.1
    have hcn : c < n := by omega
    by_cases hw : 0 ≤ w.toInt ∧ w.toInt ≤ (cT c : Int) - cF c
    · obtain ⟨m, rfl, hm⟩ := nI_ex hw.1
      have z1 := fun (l : Launch) (K : cK) => r11_down_ok (l := l) (K := K) (d := 90) (I := I) (L := L) (R := R) (dy := dy) (I 76) hg s0 h34 hs1 hs2 o lc hO c (cF c) (cT c) (cS c) (cL c) coin per fine (hCS.2.2 c hcn) hCT n hCS.1 hCS.2.1 hcn hc1 m (by omega) (by decide)
      rw [e5] at z1
      refine PR.K [90, 92, 93, 96, 98] [0, 28, 32, 35, 36, 43, 44] [87, 88, 89, 91, 94, 95, 97, 99, 100] [33, 34, 42] ⟨_, rfl⟩ h z1 (by decide) (by decide) (by decide) (by decide) (by decide) (by decide) (by decide) (by decide) (fun I1 L1 e h15 l K => ?_)
      have z2 := r12_down_ok (l := l) (K := K) (d := 90) (I := I1) (L := L1) (R := uR R 21 1 o) (dy := dy) (lfO lc) (hin.of e) coin per fine s0 (hRT.of e h15) n (by rw [e]; exact hCM.1) hCM.2.1 c (cF c) (cT c) (cS c) (cL c) ((hCM.2.2 c hcn).of e) hcn m (by omega) (by decide)
      rw [e] at z2
      exact z2
    · exact PR.E0 ⟨_, rfl⟩ h (fun _ _ => r11_down_n2 n hCS.1 hCS.2.1 c (cF c) (cT c) (cS c) (cL c) (hCS.2.2 c hcn) hcn w hw (by decide)) (fun _ _ => r12_down_no2 n hCM.1 hCM.2.1 c (cF c) (cT c) (cS c) (cL c) (hCM.2.2 c hcn) hcn w hw (by decide))
  · exact PR.E0 ⟨_, rfl⟩ h (fun _ _ => r11_down_n1 n hCS.1 hCS.2.1 x w hx (by decide)) (fun _ _ => r12_down_no1 n hCM.1 hCM.2.1 x w hx (by decide))
set_option maxHeartbeats 400000 in
theorem p_run {I : wI} {L : wL} {R : wR} {dy : cH} (h : REL I L R dy) (x : Int32) (s : Int32) (k : Int32) (q : Int32) : PR kdI m11_run m12_run 0 0 [.int x, .int s, .int k, .int q] I L R dy := by
  obtain ⟨coin, per, fine, s0, wa, wage, hRT, hCT, hc1, ⟨h34, hs1, hs2⟩, hg, e5, hwa, hwg⟩ := h.tm
  obtain ⟨o, lc, hO, hin⟩ := h.lw
  obtain ⟨n, cF, cT, cS, cL, hCS, hCM⟩ := h.cs
  by_cases hx : 0 ≤ x.toInt ∧ x.toInt < n
  · obtain ⟨c, rfl, hcc⟩ := nI_ex hx.1
    have hcn : c < n := by omega
    by_cases hw : (cF c : Int) ≤ s.toInt ∧ s.toInt ≤ cT c ∧ 1 ≤ k.toInt ∧ k.toInt ≤ 12 ∧ 0 ≤ q.toInt ∧ q.toInt ≤ 12
    · obtain ⟨s, rfl, hs⟩ := nI_ex (x := s) (by omega)
      obtain ⟨k, rfl, hk⟩ := nI_ex (x := k) (by omega)
      obtain ⟨q, rfl, hq⟩ := nI_ex (x := q) (by omega)
      have z1 := fun (l : Launch) (K : cK) => r11_run_ok (l := l) (K := K) (d := 90) (I := I) (L := L) (R := R) (dy := dy) (I 76) hg s0 h34 hs1 hs2 o lc hO c (cF c) (cT c) (cS c) (cL c) coin per fine (hCS.2.2 c hcn) hCT n hCS.1 hCS.2.1 hcn hc1 s k q (by omega) (by omega) (by omega) (by omega) (by omega) (by decide)
      rw [e5] at z1
      refine PR.K [90, 92, 93, 96, 98] [0, 28, 32, 35, 36, 43, 44] [87, 88, 89, 91, 94, 95, 97, 99, 100] [33, 34, 42] ⟨_, rfl⟩ h z1 (by decide) (by decide) (by decide) (by decide) (by decide) (by decide) (by decide) (by decide) (fun I1 L1 e h15 l K => ?_)
      have z2 := r12_run_ok (l := l) (K := K) (d := 90) (I := I1) (L := L1) (R := uR R 21 1 o) (dy := dy) (lfO lc) (hin.of e) coin per fine s0 (hRT.of e h15) n (by rw [e]; exact hCM.1) hCM.2.1 c (cF c) (cT c) (cS c) (cL c) ((hCM.2.2 c hcn).of e) hcn s k q (by omega) (by omega) (by omega) (by omega) (by omega) (by decide)
      rw [e] at z2
      exact z2
    · exact PR.E0 ⟨_, rfl⟩ h (fun _ _ => r11_run_n2 n hCS.1 hCS.2.1 c (cF c) (cT c) (cS c) (cL c) (hCS.2.2 c hcn) hcn s k q hw (by decide)) (fun _ _ => r12_run_no2 n hCM.1 hCM.2.1 c (cF c) (cT c) (cS c) (cL c) (hCM.2.2 c hcn) hcn s k q hw (by decide))
  · exact PR.E0 ⟨_, rfl⟩ h (fun _ _ => r11_run_n1 n hCS.1 hCS.2.1 x s k q hx (by decide)) (fun _ _ => r12_run_no1 n hCM.1 hCM.2.1 x s k q hx (by decide))
set_option maxHeartbeats 400000 in
theorem p_habits {I : wI} {L : wL} {R : wR} {dy : cH} (h : REL I L R dy) (x : Int32) (w : Int32) : PR kdL m11_habits m12_habits 0 0 [.int x, .int w] I L R dy := by
  obtain ⟨coin, per, fine, s0, wa, wage, hRT, hCT, hc1, ⟨h34, hs1, hs2⟩, hg, e5, hwa, hwg⟩ := h.tm
  obtain ⟨o, lc, hO, hin⟩ := h.lw
  obtain ⟨n, cF, cT, cS, cL, hCS, hCM⟩ := h.cs
  obtain ⟨nh, Tf, Cf, hHB, hh2, hHM⟩ := h.hb
  by_cases hx : 0 ≤ x.toInt ∧ x.toInt < n
  · obtain ⟨c, rfl, hcc⟩ := nI_ex hx.1
    have hcn : c < n := by omega
    by_cases hw : 0 ≤ w.toInt ∧ w.toInt < nh
    · obtain ⟨m, rfl, hm⟩ := nI_ex hw.1
      have z1 := fun (l : Launch) (K : cK) => r11_habits_ok (l := l) (K := K) (d := 90) (I := I) (L := L) (R := R) (dy := dy) (I 76) hg s0 h34 hs1 hs2 o lc hO c (cF c) (cT c) (cS c) (cL c) coin per fine (hCS.2.2 c hcn) hCT n hCS.1 hCS.2.1 hcn nh Tf Cf hHB m (by omega) (by decide)
      rw [e5] at z1
      refine PR.K [90, 92, 93, 96, 98] [0, 28, 32, 35, 36, 43, 44] [87, 88, 89, 91, 94, 95, 97, 99, 100] [33, 34, 42] ⟨_, rfl⟩ h z1 (by decide) (by decide) (by decide) (by decide) (by decide) (by decide) (by decide) (by decide) (fun I1 L1 e h15 l K => ?_)
      have z2 := r12_habits_ok (l := l) (K := K) (d := 90) (I := I1) (L := L1) (R := uR R 21 1 o) (dy := dy) (lfO lc) (hin.of e) coin per fine s0 (hRT.of e h15) n (by rw [e]; exact hCM.1) hCM.2.1 c (cF c) (cT c) (cS c) (cL c) ((hCM.2.2 c hcn).of e) hcn nh (by rw [e]; exact hh2) hHB.2.1 m (by omega) (txF (Cf m)) (by rw [e]; exact hHM m (by omega)) (by decide)
      rw [e] at z2
      exact z2
    · exact PR.E0 ⟨_, rfl⟩ h (fun _ _ => r11_habits_n2 n hCS.1 hCS.2.1 nh Tf Cf hHB c hcn w hw (by decide)) (fun _ _ => r12_habits_no n hCM.1 hCM.2.1 nh hh2 hHB.2.1 (nI c) w (fun z => hw z.2) (by decide))
  · exact PR.E0 ⟨_, rfl⟩ h (fun _ _ => r11_habits_n1 n hCS.1 hCS.2.1 x w hx (by decide)) (fun _ _ => r12_habits_no n hCM.1 hCM.2.1 nh hh2 hHB.2.1 x w (fun z => hx z.1) (by decide))
set_option maxHeartbeats 400000 in
theorem p_advice {I : wI} {L : wL} {R : wR} {dy : cH} (h : REL I L R dy) (x : Int32) : PR kdI m11_advice m12_advice 0 0 [.int x] I L R dy := by
  obtain ⟨coin, per, fine, s0, wa, wage, hRT, hCT, hc1, ⟨h34, hs1, hs2⟩, hg, e5, hwa, hwg⟩ := h.tm
  obtain ⟨o, lc, hO, hin⟩ := h.lw
  obtain ⟨n, cF, cT, cS, cL, hCS, hCM⟩ := h.cs
  obtain ⟨nh, Tf, Cf, hHB, hh2, hHM⟩ := h.hb
  by_cases hx : 0 ≤ x.toInt ∧ x.toInt < n
  · obtain ⟨c, rfl, hcc⟩ := nI_ex hx.1
    have hcn : c < n := by omega
    have z1 := fun (l : Launch) (K : cK) => r11_advice_ok (l := l) (K := K) (d := 90) (I := I) (L := L) (R := R) (dy := dy) (I 76) hg s0 h34 hs1 hs2 o lc hO c (cF c) (cT c) (cS c) (cL c) coin per fine (hCS.2.2 c hcn) hCT n hCS.1 hCS.2.1 hcn nh Tf Cf hHB (by decide)
    rw [e5] at z1
    refine PR.K [90, 92, 93, 96, 98] [0, 28, 32, 35, 36, 43, 44] [87, 88, 89, 91, 94, 95, 97, 99, 100] [33, 34, 42] ⟨_, rfl⟩ h z1 (by decide) (by decide) (by decide) (by decide) (by decide) (by decide) (by decide) (by decide) (fun I1 L1 e h15 l K => ?_)
    have z2 := r12_advice_ok (l := l) (K := K) (d := 90) (I := I1) (L := L1) (R := uR R 21 1 o) (dy := dy) (lfO lc) (hin.of e) coin per fine s0 (hRT.of e h15) n (by rw [e]; exact hCM.1) hCM.2.1 c (cF c) (cT c) (cS c) (cL c) ((hCM.2.2 c hcn).of e) hcn nh (by rw [e]; exact hh2) hHB.2.1 (fun a => txF (Cf a)) (fun a ha => by rw [e]; exact hHM a ha) (by decide)
    rw [e] at z2
    exact z2
  · exact PR.E0 ⟨_, rfl⟩ h (fun _ _ => r11_advice_no n hCS.1 hCS.2.1 x hx (by decide)) (fun _ _ => r12_advice_no n hCM.1 hCM.2.1 x hx (by decide))
set_option maxHeartbeats 400000 in
theorem p_went {I : wI} {L : wL} {R : wR} {dy : cH} (h : REL I L R dy) (x : Int32) : PR kdL m11_went m12_went 0 0 [.int x] I L R dy := by
  obtain ⟨coin, per, fine, s0, wa, wage, hRT, hCT, hc1, ⟨h34, hs1, hs2⟩, hg, e5, hwa, hwg⟩ := h.tm
  obtain ⟨o, lc, hO, hin⟩ := h.lw
  obtain ⟨ns, ss, sc, hSL, hSM⟩ := h.sl
  by_cases hx : 0 ≤ x.toInt ∧ x.toInt < 12
  · obtain ⟨sl, rfl, hcc⟩ := nI_ex hx.1
    have z1 := fun (l : Launch) (K : cK) => r11_went_ok (l := l) (K := K) (d := 90) (I := I) (L := L) (R := R) (dy := dy) (I 76) hg s0 h34 hs1 hs2 o lc hO ns ss sc hSL sl (by omega) (by decide)
    rw [e5] at z1
    refine PR.K [90, 92, 93, 96, 98] [0, 28, 32, 35, 36, 43, 44] [87, 88, 89, 91, 94, 95, 97, 99, 100] [33, 34, 42] ⟨_, rfl⟩ h z1 (by decide) (by decide) (by decide) (by decide) (by decide) (by decide) (by decide) (by decide) (fun I1 L1 e h15 l K => ?_)
    have z2 := r12_went_ok (l := l) (K := K) (d := 90) (I := I1) (L := L1) (R := uR R 21 1 o) (dy := dy) (lfO lc) (hin.of e) coin per fine s0 (hRT.of e h15) ns ss sc (hSM.of e) sl (by omega) (by decide)
    rw [e] at z2
    exact z2
  · exact PR.E0 ⟨_, rfl⟩ h (fun _ _ => r11_went_no x hx (by decide)) (fun _ _ => r12_went_no x hx (by decide))
set_option maxHeartbeats 400000 in
theorem p_fits {I : wI} {L : wL} {R : wR} {dy : cH} (h : REL I L R dy) (x : Int32) : PR kdL m11_fits m12_fits 0 0 [.int x] I L R dy := by
  obtain ⟨coin, per, fine, s0, wa, wage, hRT, hCT, hc1, ⟨h34, hs1, hs2⟩, hg, e5, hwa, hwg⟩ := h.tm
  obtain ⟨ns, ss, sc, hSL, hSM⟩ := h.sl
  obtain ⟨nl, Tf, Cf, hC, hF⟩ := h.1.2.2.1
  by_cases hx : x.toInt = -1 ∨ (0 ≤ x.toInt ∧ x.toInt < nl)
  · rcases hx with hx | hx
    · obtain rfl := i_m1 hx
      obtain ⟨o, lc, hO, hl⟩ := hC.clf (x := -1) (Or.inl rfl)
      have hlf : lfO lc = none := by
        rcases hl with hl | ⟨a, F, -, -, ha, hz, -⟩
        · exact hl.1
        · exfalso
          have z := congrArg Int32.toInt hz
          rw [nI_ti (by have := hC.2.2.1; omega)] at z
          have : (-1 : Int32).toInt = -1 := rfl
          omega
      have z1 := fun (l : Launch) (K : cK) => r11_fits_none (l := l) (K := K) (d := 90) (I := I) (L := L) (R := R) (dy := dy) (I 76) hg s0 h34 hs1 hs2 o lc hO ns ss sc hSL (by decide)
      rw [e5, hlf] at z1
      refine PR.K [90, 92, 93, 96, 98] [0, 28, 32, 35, 36, 43, 44] [87, 88, 89, 91, 94, 95, 97, 99, 100] [33, 34, 42] ⟨_, rfl⟩ h z1 (by decide) (by decide) (by decide) (by decide) (by decide) (by decide) (by decide) (by decide) (fun I1 L1 e h15 l K => ?_)
      have z2 := r12_fits_none (l := l) (K := K) (d := 90) (I := I1) (L := L1) (R := uR R 21 1 o) (dy := dy) coin per fine s0 (hRT.of e h15) ns ss sc (hSM.of e) nl (by rw [e]; exact hC.2.1) hC.2.2.1 (by decide)
      rw [e] at z2
      exact z2
    · obtain ⟨a, rfl, ha⟩ := nI_ex hx.1
      have haq : a < nl := by omega
      obtain ⟨a1, a2, a3, a4⟩ := hC.2.2.2 a haq
      have hO : CLF I R dy (nI a) (some (Tf a)) (some (Cf a)) := ⟨nl, hC.1, hC.2.2.1, Or.inr ⟨a, Tf a, Cf a, haq, rfl, rfl, a1, rfl, a2, a3⟩⟩
      have z1 := fun (l : Launch) (K : cK) => r11_fits_law (l := l) (K := K) (d := 90) (I := I) (L := L) (R := R) (dy := dy) (I 76) hg s0 h34 hs1 hs2 a (some (Tf a)) (some (Cf a)) hO ns ss sc hSL nl hC.1 hC.2.2.1 haq (by decide)
      rw [e5] at z1
      refine PR.K [90, 92, 93, 96, 98] [0, 28, 32, 35, 36, 43, 44] [87, 88, 89, 91, 94, 95, 97, 99, 100] [33, 34, 42] ⟨_, rfl⟩ h z1 (by decide) (by decide) (by decide) (by decide) (by decide) (by decide) (by decide) (by decide) (fun I1 L1 e h15 l K => ?_)
      have z2 := r12_fits_law (l := l) (K := K) (d := 90) (I := I1) (L := L1) (R := uR R 21 1 (some (Tf a))) (dy := dy) coin per fine s0 (hRT.of e h15) ns ss sc (hSM.of e) nl (by rw [e]; exact hC.2.1) hC.2.2.1 a haq (txF (Cf a)) (by rw [e]; exact a4) (by decide)
      rw [e] at z2
      exact z2
  · exact PR.E0 ⟨_, rfl⟩ h (fun _ _ => r11_fits_no nl hC.1 hC.2.2.1 x hx (by decide)) (fun _ _ => r12_fits_no nl hC.2.1 hC.2.2.1 x hx (by decide))
set_option maxHeartbeats 400000 in
theorem p_which {I : wI} {L : wL} {R : wR} {dy : cH} (h : REL I L R dy) : PR kdI m11_which m12_which 0 0 [] I L R dy := by
  obtain ⟨coin, per, fine, s0, wa, wage, hRT, hCT, hc1, ⟨h34, hs1, hs2⟩, hg, e5, hwa, hwg⟩ := h.tm
  obtain ⟨ns, ss, sc, hSL, hSM⟩ := h.sl
  obtain ⟨nl, Tf, Cf, hLW, h1, hLM⟩ := h.lws
  have z1 := fun (l : Launch) (K : cK) => r11_which (l := l) (K := K) (d := 90) (I := I) (L := L) (R := R) (dy := dy) (I 76) hg s0 h34 hs1 hs2 ns ss sc hSL nl Tf Cf hLW (by decide)
  have ej : ∀ j, lfO (lcJ Cf j) = lwF (fun a => txF (Cf a)) j := lcJ_F Cf
  simp only [e5, ej] at z1
  refine PR.Q (α := wI × wL × Option Nat) (β := wI × wL) (P2 := fun y x => FR [90, 92, 93, 96, 98] [0, 28, 32, 35, 36, 43, 44] [87, 88, 89, 91, 94, 95, 97, 99, 100] [33, 34, 42] y.1 y.2.1 x.1 x.2) (gI := fun _ x => x.1) (gL := fun _ x => x.2) (gR := fun y _ => uR R 21 1 y.2.2) ⟨_, rfl⟩ h z1 (fun y hy => ?_) (fun y e hr l K => ?_) (fun y z hz => ?_)
  · obtain ⟨a, b, c, f⟩ := fk_ob hy (by decide) (by decide) (by decide) (by decide)
    exact ⟨a, b, c, f, ur_ob⟩
  · have z2 := r12_which (l := l) (K := K) (d := 90) (I := y.1) (L := y.2.1) (R := uR R 21 1 y.2.2) (dy := dy) coin per fine s0 (hRT.of e hr.h15) ns ss sc (hSM.of e) nl (by rw [e]; exact h1) hLW.2.1 (fun a => txF (Cf a)) (by rw [e]; exact hLM) (by decide)
    rw [e] at z2
    exact z2
  · obtain ⟨a, b, c, f⟩ := fr_ob hz (by decide) (by decide) (by decide) (by decide)
    exact ⟨a, b, c, f, fun _ _ => rfl⟩
set_option maxHeartbeats 400000 in
theorem p_town {I : wI} {L : wL} {R : wR} {dy : cH} (h : REL I L R dy) (w : Int32) : PR kdL m11_town m12_town 0 0 [.int w] I L R dy := by
  obtain ⟨coin, per, fine, s0, wa, wage, hRT, hCT, hc1, ⟨h34, hs1, hs2⟩, hg, e5, hwa, hwg⟩ := h.tm
  obtain ⟨o, lc, hO, hin⟩ := h.lw
  obtain ⟨n, cF, cT, cS, cL, hCS, hCM⟩ := h.cs
  by_cases hw : 0 ≤ w.toInt ∧ w.toInt ≤ 3
  · obtain ⟨m, rfl, hm⟩ := nI_ex hw.1
    have hcs : m = 0 ∨ m = 1 ∨ m = 2 ∨ m = 3 := by omega
    rcases hcs with rfl | rfl | rfl | rfl
    · skip
      have z1 := fun (l : Launch) (K : cK) => r11_town_0 (l := l) (K := K) (d := 90) (I := I) (L := L) (R := R) (dy := dy) (I 76) hg s0 h34 hs1 hs2 o lc hO coin per fine wage n cF cT cS cL hCS hCT hwg.1 hwg.2.2 wa hwa.2.1 hwa.2.2 (by decide)
      refine PR.K [90, 92, 93, 96, 98] [0, 28, 32, 35, 36, 43, 44] [87, 88, 89, 91, 94, 95, 97, 99, 100] [33, 34, 42] ⟨_, rfl⟩ h z1 (by decide) (by decide) (by decide) (by decide) (by decide) (by decide) (by decide) (by decide) (fun I1 L1 e h15 l K => ?_)
      have z2 := r12_town_0 (l := l) (K := K) (d := 90) (I := I1) (L := L1) (R := uR R 21 1 o) (dy := dy) (lfO lc) (hin.of e) coin per fine s0 (hRT.of e h15) wage n wa (by rw [e]; exact hwg.2.1) hwg.2.2 (by rw [e]; exact hwa.1) hwa.2.2 cF cT cS cL (hCM.of e) (by decide)
      rw [e] at z2
      exact z2
    · have z1 := fun (l : Launch) (K : cK) => r11_town_1 (l := l) (K := K) (d := 90) (I := I) (L := L) (R := R) (dy := dy) (I 76) hg s0 h34 hs1 hs2 o lc hO coin per fine wage n cF cT cS cL hCS hCT hwg.1 hwg.2.2 (by decide)
      refine PR.Q (α := wI × wL × wR) (β := wI × wL) (P2 := fun y x => FR [90, 92, 93, 96, 98] [0, 28, 32, 35, 36, 43, 44] [87, 88, 89, 91, 94, 95, 97, 99, 100] [33, 34, 42] y.1 y.2.1 x.1 x.2) (gI := fun _ x => x.1) (gL := fun _ x => x.2) (gR := fun y _ => y.2.2) ⟨_, rfl⟩ h z1 (fun y hy => ?_) (fun y e hr l K => ?_) (fun y z hz => ?_)
      · obtain ⟨a, b, c, f⟩ := fk_ob hy.2 (by decide) (by decide) (by decide) (by decide)
        refine ⟨a, b, c, f, ?_⟩
        rcases hy.1 with z | z
        · rw [z]; exact fun _ _ => rfl
        · rw [z]; exact ur_ob
      · have z2 := r12_town_1 (l := l) (K := K) (d := 90) (I := y.1) (L := y.2.1) (R := y.2.2) (dy := dy) (lfO lc) (hin.of e) coin per fine s0 (hRT.of e hr.h15) wage n wa (by rw [e]; exact hwg.2.1) hwg.2.2 (by rw [e]; exact hwa.1) hwa.2.2 cF cT cS cL (hCM.of e) (by decide)
        rw [e] at z2
        exact z2
      · obtain ⟨a, b, c, f⟩ := fr_ob hz (by decide) (by decide) (by decide) (by decide)
        exact ⟨a, b, c, f, fun _ _ => rfl⟩
    · have z1 := fun (l : Launch) (K : cK) => r11_town_2 (l := l) (K := K) (d := 90) (I := I) (L := L) (R := R) (dy := dy) (I 76) hg s0 h34 hs1 hs2 o lc hO coin per fine wage n cF cT cS cL hCS hCT hwg.1 hwg.2.2 (by decide)
      refine PR.Q (α := wI × wL × wR) (β := wI × wL) (P2 := fun y x => FR [90, 92, 93, 96, 98] [0, 28, 32, 35, 36, 43, 44] [87, 88, 89, 91, 94, 95, 97, 99, 100] [33, 34, 42] y.1 y.2.1 x.1 x.2) (gI := fun _ x => x.1) (gL := fun _ x => x.2) (gR := fun y _ => y.2.2) ⟨_, rfl⟩ h z1 (fun y hy => ?_) (fun y e hr l K => ?_) (fun y z hz => ?_)
      · obtain ⟨a, b, c, f⟩ := fk_ob hy.2 (by decide) (by decide) (by decide) (by decide)
        refine ⟨a, b, c, f, ?_⟩
        rcases hy.1 with z | z
        · rw [z]; exact fun _ _ => rfl
        · rw [z]; exact ur_ob
      · have z2 := r12_town_2 (l := l) (K := K) (d := 90) (I := y.1) (L := y.2.1) (R := y.2.2) (dy := dy) (lfO lc) (hin.of e) coin per fine s0 (hRT.of e hr.h15) wage n wa (by rw [e]; exact hwg.2.1) hwg.2.2 (by rw [e]; exact hwa.1) hwa.2.2 cF cT cS cL (hCM.of e) (by decide)
        rw [e] at z2
        exact z2
      · obtain ⟨a, b, c, f⟩ := fr_ob hz (by decide) (by decide) (by decide) (by decide)
        exact ⟨a, b, c, f, fun _ _ => rfl⟩
    · have z1 := fun (l : Launch) (K : cK) => r11_town_3 (l := l) (K := K) (d := 90) (I := I) (L := L) (R := R) (dy := dy) (I 76) hg s0 h34 hs1 hs2 o lc hO coin per fine wage n cF cT cS cL hCS hCT hwg.1 hwg.2.2 (by decide)
      refine PR.Q (α := wI × wL × wR) (β := wI × wL) (P2 := fun y x => FR [90, 92, 93, 96, 98] [0, 28, 32, 35, 36, 43, 44] [87, 88, 89, 91, 94, 95, 97, 99, 100] [33, 34, 42] y.1 y.2.1 x.1 x.2) (gI := fun _ x => x.1) (gL := fun _ x => x.2) (gR := fun y _ => y.2.2) ⟨_, rfl⟩ h z1 (fun y hy => ?_) (fun y e hr l K => ?_) (fun y z hz => ?_)
      · obtain ⟨a, b, c, f⟩ := fk_ob hy.2 (by decide) (by decide) (by decide) (by decide)
        refine ⟨a, b, c, f, ?_⟩
        rcases hy.1 with z | z
        · rw [z]; exact fun _ _ => rfl
        · rw [z]; exact ur_ob
      · have z2 := r12_town_3 (l := l) (K := K) (d := 90) (I := y.1) (L := y.2.1) (R := y.2.2) (dy := dy) (lfO lc) (hin.of e) coin per fine s0 (hRT.of e hr.h15) wage n wa (by rw [e]; exact hwg.2.1) hwg.2.2 (by rw [e]; exact hwa.1) hwa.2.2 cF cT cS cL (hCM.of e) (by decide)
        rw [e] at z2
        exact z2
      · obtain ⟨a, b, c, f⟩ := fr_ob hz (by decide) (by decide) (by decide) (by decide)
        exact ⟨a, b, c, f, fun _ _ => rfl⟩
  · exact PR.E0 ⟨_, rfl⟩ h (fun _ _ => r11_town_no w hw (by decide)) (fun _ _ => r12_town_no w hw (by decide))
