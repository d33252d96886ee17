section TQS
variable {I I2 : wI} {L : wL} {R R2 : wR} {dy dz : cH}
/-- a change of the tape alone -/
theorem REL.tq (h : REL I L R dy) (hT : TPR I2) (eI : ∀ q, q ≠ 12 → q ≠ 13 → q ≠ 74 → q ≠ 79 → I2 q = I q) (e74 : ∀ j, j ≠ 0 → j ≠ 8 → I2 74 j = I 74 j) : REL I2 L R dy := by
  obtain ⟨h1, h2, h3, h4, h5, h6, h7, h8, h9⟩ := h
  have z1 := h1.cp (dz := []) (I2 := I2) (R2 := R) (p := 1) (q := 1) (g2 := I2 76) (SEq.same (fun q a b => eI q (by omega) (by omega) (by omega) (by omega)) (fun _ _ _ => rfl)) (fun _ _ => by rw [eI 76 (by decide) (by decide) (by decide) (by decide)])
  have z2 := h2.fr (dz := []) (I2 := I2) (R2 := R) (eI 11 (by decide) (by decide) (by decide) (by decide)) (eI 78 (by decide) (by decide) (by decide) (by decide)) (eI 77 (by decide) (by decide) (by decide) (by decide)) (fun q a b => eI q (by omega) (by omega) (by omega) (by omega)) (fun _ _ _ => rfl)
  rw [List.append_nil] at z1 z2
  have e0 := eI 0 (by decide) (by decide) (by decide) (by decide)
  exact ⟨z1, z2, hT, h4.fr (eI 55 (by decide) (by decide) (by decide) (by decide)) (eI 75 (by decide) (by decide) (by decide) (by decide)), h5.fr (e74 15 (by decide) (by decide)) rfl rfl, h6.fr (fun q a b => eI q (by omega) (by omega) (by omega) (by omega)) (eI 101 (by decide) (by decide) (by decide) (by decide)) (eI 102 (by decide) (by decide) (by decide) (by decide)) (e74 57 (by decide) (by decide)) (e74 58 (by decide) (by decide)), by rw [e0, e74 1 (by decide) (by decide)]; exact h7, by rw [e0, e74 13 (by decide) (by decide)]; exact h8, by rw [e0, e74 6 (by decide) (by decide)]; exact h9⟩
theorem TPR.mk {t : Nat} (ht : t ≤ 400) (h1 : I 12 1 = nI t) (h2 : I 74 8 = nI t) (he : ∀ q, q < 400 → I 79 q = I 13 q) (hb : ∀ q, q < 400 → ∃ m : Nat, m < 256 ∧ I 13 q = nI m) : TPR I := by
  have hc : ∀ q, q < 400 → I 13 q = nI (if q < 400 then (I 13 q).toNatClampNeg else 0) ∧ (if q < 400 then (I 13 q).toNatClampNeg else 0) < 256 := fun q hq => by
    obtain ⟨m, hm, e⟩ := hb q hq
    rw [if_pos hq, e, nI_clamp (by omega)]
    exact ⟨rfl, hm⟩
  have hl : ∀ q, (if q < 400 then (I 13 q).toNatClampNeg else 0) < 256 := fun q => by
    by_cases c : q < 400
    · exact (hc q c).2
    · rw [if_neg c]; decide
  exact ⟨fun q => if q < 400 then (I 13 q).toNatClampNeg else 0, t, ⟨ht, h1, fun q hq => (hc q hq).1, hl⟩, ⟨ht, h2, fun q hq => (he q hq).trans (hc q hq).1, hl⟩⟩
end TQS
def b4 (f : Nat → Int32) (t : Nat) (v : Int32) : Nat → Int32 := upd (upd (upd (upd f t (v >>> (nI 24 &&& 31) &&& nI 255)) (t + 1) (v >>> (nI 16 &&& 31) &&& nI 255)) (t + 2) (v >>> (nI 8 &&& 31) &&& nI 255)) (t + 3) (v >>> (nI 0 &&& 31) &&& nI 255)
theorem upd_q {f g : Nat → Int32} {q t : Nat} {x : Int32} (h : f q = g q) : upd f t x q = upd g t x q := by
  unfold upd; by_cases e : q = t
  · rw [if_pos e, if_pos e]
  · rw [if_neg e, if_neg e]; exact h
theorem b4_q {f g : Nat → Int32} {q t : Nat} {v : Int32} (h : f q = g q) : b4 f t v q = b4 g t v q := upd_q (upd_q (upd_q (upd_q h)))
theorem upd_b {f : Nat → Int32} {q t : Nat} {x : Int32} (h : ∃ m : Nat, m < 256 ∧ f q = nI m) : ∃ m : Nat, m < 256 ∧ upd f t (x &&& nI 255) q = nI m := by
  by_cases e : q = t
  · obtain ⟨m, h1, h2⟩ := pk_andE x (m := nI 255) 8 (by decide)
    exact ⟨m, h1, by unfold upd; rw [if_pos e]; exact h2⟩
  · obtain ⟨m, h1, h2⟩ := h
    exact ⟨m, h1, by unfold upd; rw [if_neg e]; exact h2⟩
theorem b4_b {f : Nat → Int32} {q t : Nat} {v : Int32} (h : ∃ m : Nat, m < 256 ∧ f q = nI m) : ∃ m : Nat, m < 256 ∧ b4 f t v q = nI m := upd_b (upd_b (upd_b (upd_b h)))
theorem fo_at {I : wI} {c k j t : Nat} {v : Int32} (hck : c ≠ k) : fo I c k j t v c = b4 (I c) t v := by
  unfold fo b4
  rw [uI_n hck, uI_s, uI_n hck, uI_s, uI_n hck, uI_s, uI_n hck, uI_s]
theorem fo_o {I : wI} {c k j t q : Nat} {v : Int32} (h1 : q ≠ c) (h2 : q ≠ k) : fo I c k j t v q = I q := by
  unfold fo
  rw [uI_n h2, uI_n h1, uI_n h2, uI_n h1, uI_n h2, uI_n h1, uI_n h2, uI_n h1]
theorem fo_j {I : wI} {c k j t : Nat} {v : Int32} : fo I c k j t v k j = nI (t + 4) := by
  unfold fo; rw [uI_ss]
theorem fo_k {I : wI} {c k j t b : Nat} {v : Int32} (h1 : k ≠ c) (h2 : b ≠ j) : fo I c k j t v k b = I k b := by
  unfold fo
  rw [uI_sn h2, uI_n h1, uI_sn h2, uI_n h1, uI_sn h2, uI_n h1, uI_sn h2, uI_n h1]
set_option maxHeartbeats 1000000 in
theorem p_end {I : wI} {L : wL} {R : wR} {dy : cH} (h : REL I L R dy) (x : Int32) : PR kdI m11_end m12_end 0 0 [.int x] I L R dy := by
  obtain ⟨tp, t, hc, hm⟩ := h.2.2.1
  have tc : (I 12 1).toInt = (t : Int) := by rw [hc.2.1, nI_ti (by have := hc.1; omega)]
  have tm : (I 74 8).toInt = (t : Int) := by rw [hm.2.1, nI_ti (by have := hc.1; omega)]
  by_cases hx : 0 ≤ x.toInt ∧ x.toInt ≤ t
  · obtain ⟨x, rfl, hxx⟩ := nI_ex hx.1
    refine PR.E (I1 := uI I 12 1 (nI x)) (I2 := uI (uI (uI I 12 1 (nI x)) 74 0 0) 74 8 (nI x)) ⟨_, rfl⟩ (fun _ _ => r11_end_ok (nI x) (by rw [tc]; exact hx) (by decide)) (fun _ _ => r12_end_ok (I := uI I 12 1 (nI x)) (nI x) (by show 0 ≤ (nI x).toInt ∧ (nI x).toInt ≤ (I 74 8).toInt; rw [tm]; exact hx) (by decide)) ?_
    refine h.tq ⟨tp, x, ⟨by have := hc.1; omega, rfl, hc.2.2.1, hc.2.2.2⟩, ⟨by have := hc.1; omega, rfl, hm.2.2.1, hm.2.2.2⟩⟩ (fun q a b c e => ?_) (fun j a b => ?_)
    · rw [uI_n c, uI_n c, uI_n a]
    · rw [uI_sn b, uI_sn a, uI_n (by decide)]
  · exact PR.E0 ⟨_, rfl⟩ h (fun _ _ => r11_end_no x (by rw [tc]; omega) (by decide)) (fun _ _ => r12_end_no x (by rw [tm]; omega) (by decide))
set_option maxHeartbeats 1000000 in
theorem p_feed {I : wI} {L : wL} {R : wR} {dy : cH} (h : REL I L R dy) (a : Int32) (b : Int32) (c : Int32) (e : Int32) (f : Int32) : PR kdI m11_feed m12_feed 0 0 [.int a, .int b, .int c, .int e, .int f] I L R dy := by
  obtain ⟨tp, t, hc, hm⟩ := h.2.2.1
  by_cases ht : t + 20 ≤ 400
  · refine PR.E (I1 := (fo (fo (fo (fo (fo I 13 12 1 (t + 0) a) 13 12 1 (t + 4) b) 13 12 1 (t + 8) c) 13 12 1 (t + 12) e) 13 12 1 (t + 16) f)) (I2 := (fo (fo (fo (fo (fo (uI (fo (fo (fo (fo (fo I 13 12 1 (t + 0) a) 13 12 1 (t + 4) b) 13 12 1 (t + 8) c) 13 12 1 (t + 12) e) 13 12 1 (t + 16) f) 74 0 0) 79 74 8 (t + 0) a) 79 74 8 (t + 4) b) 79 74 8 (t + 8) c) 79 74 8 (t + 12) e) 79 74 8 (t + 16) f)) ⟨_, rfl⟩ (fun _ _ => r11_feed_ok t hc.2.1 ht a b c e f (by decide)) (fun _ _ => r12_feed_ok (I := (fo (fo (fo (fo (fo I 13 12 1 (t + 0) a) 13 12 1 (t + 4) b) 13 12 1 (t + 8) c) 13 12 1 (t + 12) e) 13 12 1 (t + 16) f)) t (by rw [fo_o (by decide) (by decide), fo_o (by decide) (by decide), fo_o (by decide) (by decide), fo_o (by decide) (by decide), fo_o (by decide) (by decide)]; exact hm.2.1) ht a b c e f (by decide)) ?_
    refine h.tq (TPR.mk (t := t + 20) ht ?_ ?_ (fun q hq => ?_) (fun q hq => ?_)) (fun q a b c e => ?_) (fun j a b => ?_)
    · rw [fo_o (by decide) (by decide), fo_o (by decide) (by decide), fo_o (by decide) (by decide), fo_o (by decide) (by decide), fo_o (by decide) (by decide), uI_n (by decide), fo_j]
    · rw [fo_j]
    · have z : (fo (fo (fo (fo (fo (uI (fo (fo (fo (fo (fo I 13 12 1 (t + 0) a) 13 12 1 (t + 4) b) 13 12 1 (t + 8) c) 13 12 1 (t + 12) e) 13 12 1 (t + 16) f) 74 0 0) 79 74 8 (t + 0) a) 79 74 8 (t + 4) b) 79 74 8 (t + 8) c) 79 74 8 (t + 12) e) 79 74 8 (t + 16) f) 13 = b4 (b4 (b4 (b4 (b4 (I 13) (t + 0) a) (t + 4) b) (t + 8) c) (t + 12) e) (t + 16) f := by
        rw [fo_o (by decide) (by decide), fo_o (by decide) (by decide), fo_o (by decide) (by decide), fo_o (by decide) (by decide), fo_o (by decide) (by decide), uI_n (by decide), fo_at (by decide), fo_at (by decide), fo_at (by decide), fo_at (by decide), fo_at (by decide)]
      have z2 : (fo (fo (fo (fo (fo (uI (fo (fo (fo (fo (fo I 13 12 1 (t + 0) a) 13 12 1 (t + 4) b) 13 12 1 (t + 8) c) 13 12 1 (t + 12) e) 13 12 1 (t + 16) f) 74 0 0) 79 74 8 (t + 0) a) 79 74 8 (t + 4) b) 79 74 8 (t + 8) c) 79 74 8 (t + 12) e) 79 74 8 (t + 16) f) 79 = b4 (b4 (b4 (b4 (b4 (I 79) (t + 0) a) (t + 4) b) (t + 8) c) (t + 12) e) (t + 16) f := by
        rw [fo_at (by decide), fo_at (by decide), fo_at (by decide), fo_at (by decide), fo_at (by decide), uI_n (by decide), fo_o (by decide) (by decide), fo_o (by decide) (by decide), fo_o (by decide) (by decide), fo_o (by decide) (by decide), fo_o (by decide) (by decide)]
      rw [z, z2]
      exact b4_q (b4_q (b4_q (b4_q (b4_q ((hm.2.2.1 q hq).trans (hc.2.2.1 q hq).symm)))))
    · have z : (fo (fo (fo (fo (fo (uI (fo (fo (fo (fo (fo I 13 12 1 (t + 0) a) 13 12 1 (t + 4) b) 13 12 1 (t + 8) c) 13 12 1 (t + 12) e) 13 12 1 (t + 16) f) 74 0 0) 79 74 8 (t + 0) a) 79 74 8 (t + 4) b) 79 74 8 (t + 8) c) 79 74 8 (t + 12) e) 79 74 8 (t + 16) f) 13 = b4 (b4 (b4 (b4 (b4 (I 13) (t + 0) a) (t + 4) b) (t + 8) c) (t + 12) e) (t + 16) f := by
        rw [fo_o (by decide) (by decide), fo_o (by decide) (by decide), fo_o (by decide) (by decide), fo_o (by decide) (by decide), fo_o (by decide) (by decide), uI_n (by decide), fo_at (by decide), fo_at (by decide), fo_at (by decide), fo_at (by decide), fo_at (by decide)]
      rw [z]
      exact b4_b (b4_b (b4_b (b4_b (b4_b ⟨tp q, hc.2.2.2 q, hc.2.2.1 q hq⟩))))
    · rw [fo_o e c, fo_o e c, fo_o e c, fo_o e c, fo_o e c, uI_n c, fo_o b a, fo_o b a, fo_o b a, fo_o b a, fo_o b a]
    · rw [fo_k (by decide) b, fo_k (by decide) b, fo_k (by decide) b, fo_k (by decide) b, fo_k (by decide) b, uI_sn a, fo_o (by decide) (by decide), fo_o (by decide) (by decide), fo_o (by decide) (by decide), fo_o (by decide) (by decide), fo_o (by decide) (by decide)]
  · exact PR.E0 ⟨_, rfl⟩ h (fun _ _ => r11_feed_no t hc.2.1 hc.1 (by omega) a b c e f (by decide)) (fun _ _ => r12_feed_no t hm.2.1 hc.1 (by omega) a b c e f (by decide))
theorem QA.ok {I : wI} {p : Nat} {g : Nat → Int32} {n : Nat} {cF cT cS cL : Nat → Nat} (h : QA I p g n cF cT cS cL) : ∀ c, c < n → cOK (g (14 + 4 * c)) (g (14 + (4 * c + 1))) (g (14 + (4 * c + 2))) (g (14 + (4 * c + 3))) := fun c hc => by
  obtain ⟨a1, a2, a3, a4, a5, a6, a7, a8⟩ := h.2.2.2.2 c hc
  have e0 : g (14 + 4 * c) = nI (cF c) := a1
  have e1 : g (14 + (4 * c + 1)) = nI (cT c) := a2
  have e2 : g (14 + (4 * c + 2)) = nI (cS c) := a3
  have e3 : g (14 + (4 * c + 3)) = nI (cL c) := a4
  unfold cOK
  rw [e0, e1, e2, e3, nI_ti (by omega), nI_ti (by omega), nI_ti (by omega), nI_ti (by omega)]
  omega
theorem QA.mk {I : wI} {p : Nat} {g : Nat → Int32} {n : Nat} (h1 : I p 0 = nI n) (h2 : g 0 = nI n) (h3 : n ≤ 6) (h4 : ∀ j, j < 24 → I (p + 1) j = g (14 + j)) (h5 : ∀ c, c < n → cOK (g (14 + 4 * c)) (g (14 + (4 * c + 1))) (g (14 + (4 * c + 2))) (g (14 + (4 * c + 3)))) : ∃ cF cT cS cL, QA I p g n cF cT cS cL := by
  refine ⟨fun c => (g (14 + 4 * c)).toNatClampNeg, fun c => (g (14 + (4 * c + 1))).toNatClampNeg, fun c => (g (14 + (4 * c + 2))).toNatClampNeg, fun c => (g (14 + (4 * c + 3))).toNatClampNeg, h1, h2, h3, h4, fun c hc => ?_⟩
  obtain ⟨a1, a2, a3, a4, a5, a6, a7⟩ := h5 c hc
  have k : ∀ x : Int32, ((x.toNatClampNeg : Nat) : Int) = (x.toInt.toNat : Int) := fun x => rfl
  have k0 := k (g (14 + 4 * c))
  have k1 := k (g (14 + (4 * c + 1)))
  have k2 := k (g (14 + (4 * c + 2)))
  have k3 := k (g (14 + (4 * c + 3)))
  refine ⟨nI_of_nn a1, nI_of_nn (x := g (14 + (4 * c + 1))) (by omega), nI_of_nn (x := g (14 + (4 * c + 2))) a4, nI_of_nn (x := g (14 + (4 * c + 3))) a6, ?_, ?_, ?_, ?_⟩
  · dsimp only; omega
  · dsimp only; omega
  · dsimp only; omega
  · dsimp only; omega
theorem upd_n {f : Nat → Int32} {j q : Nat} {x : Int32} (h : q ≠ j) : upd f j x q = f q := by unfold upd; exact if_neg h
theorem upd_y {f : Nat → Int32} {j : Nat} {x : Int32} : upd f j x j = x := by unfold upd; exact if_pos rfl
theorem rs_ok (tp : Nat → Int32) (had n : Nat) (F : Nat → Int32) (h : ∀ c, c < n → cOK (F (4 * c)) (F (4 * c + 1)) (F (4 * c + 2)) (F (4 * c + 3))) : ∀ m c, c < (rs tp had n F m).1 → cOK ((rs tp had n F m).2.1 (4 * c)) ((rs tp had n F m).2.1 (4 * c + 1)) ((rs tp had n F m).2.1 (4 * c + 2)) ((rs tp had n F m).2.1 (4 * c + 3))
  | 0 => h
  | m + 1 => fun c hc => by
    have ih := rs_ok tp had n F h m
    have e : rs tp had n F (m + 1) = rst tp had (4 * m) (rs tp had n F m) := rfl
    rw [e] at hc ⊢
    unfold rst at hc ⊢
    by_cases z : 4 * m + 3 < had ∧ (rs tp had n F m).1 < 6 ∧ cOK (tp (4 * m)) (tp (4 * m + 1)) (tp (4 * m + 2)) (tp (4 * m + 3))
    · rw [if_pos z] at hc ⊢
      dsimp only at hc ⊢
      by_cases ec : c = (rs tp had n F m).1
      · subst ec
        (repeat (first | rw [upd_y] | rw [upd_n (by omega)]))
        exact z.2.2
      · have hc2 : c < (rs tp had n F m).1 := by omega
        (repeat (first | rw [upd_n (by omega)]))
        exact ih c hc2
    · rw [if_neg z] at hc ⊢
      exact ih c hc
set_option maxHeartbeats 2000000 in
theorem p_row {I : wI} {L : wL} {R : wR} {dy : cH} (h : REL I L R dy)  : PR kdI m11_row m12_row 0 0 [] I L R dy := by
  obtain ⟨tp, t, hc, hm⟩ := h.2.2.1
  obtain ⟨⟨n, cF, cT, cS, cL, hA⟩, ⟨tm, hB⟩, ⟨nl, Tf, Cf, hC, hF⟩, ⟨nh, Th, Ch, hD⟩, ⟨np, lo, wi, hE⟩, ⟨ns, ss, sc, hS⟩, hT⟩ := id h.1
  by_cases ht : t = 0
  · subst ht
    refine PR.E (I1 := uI (uI I 55 4 (I 55 4 + 1)) 0 14 (-6)) (I2 := uI (uI (uI (uI (uI (uI I 55 4 (I 55 4 + 1)) 0 14 (-6)) 74 0 0) 74 8 0) 74 1 (-6)) 75 6 ((uI (uI I 55 4 (I 55 4 + 1)) 0 14 (-6)) 75 6 + 1)) ⟨_, rfl⟩ (fun _ _ => r11_row_no hc.2.1 (by decide)) (fun _ _ => r12_row_no (I := uI (uI I 55 4 (I 55 4 + 1)) 0 14 (-6)) hm.2.1 (by decide)) ?_
    have z := h.no (i := 4) (k := 6) (s := -6) (by decide)
    refine z.f0 (fun k hk => ?_) (fun j hj => ?_) rfl rfl (fun _ _ => rfl)
    · by_cases e75 : k = 75
      · subst e75; rfl
      · have h74 : k ≠ 74 := nin hk (by decide)
        rw [uI_n e75, uI_n h74, uI_n h74, uI_n h74, uI_n e75, uI_n h74, uI_n h74]
    · by_cases e8 : j = 8
      · subst e8; exact hm.2.1.symm
      · have hcs : j = 1 ∨ j = 6 ∨ j = 13 ∨ j = 15 ∨ j = 57 ∨ j = 58 := by
          simp only [ob74, List.mem_cons, List.not_mem_nil, or_false] at hj; omega
        rcases hcs with rfl | rfl | rfl | rfl | rfl | rfl <;> rfl
  · have ht4 := hc.1
    have hn6 := hA.2.2.1
    have hrs := rs_ok (fun q => nI (tp q)) t n (fun j => I 76 (14 + j)) hA.ok ((t + 3) / 4)
    have hle := (rs_le (fun q => nI (tp q)) t n (fun j => I 76 (14 + j)) hn6 ((t + 3) / 4)).1
    refine PR.X (α := wI) (β := wI) (fI := fun y => y) (fL := fun _ => L) (fR := fun _ => R) (gI := fun _ z => z) (gL := fun _ _ => L) (gR := fun _ _ => R) ⟨_, rfl⟩ (fun _ _ => r11_row_ok t hc.2.1 ht4 (fun q => nI (tp q)) hc.2.2.1 n hA.1 hn6 (fun j => I 76 (14 + j)) (by omega) hA.2.2.2.1 (by decide)) (fun y hy _ _ => r12_row_ok (I := y) t (by rw [hy.1 74 (by decide) (by decide) (by decide) (by decide)]; exact hm.2.1) (by omega) ht4 (fun q => nI (tp q)) (by rw [hy.1 79 (by decide) (by decide) (by decide) (by decide)]; exact hm.2.2.1) n (by rw [hy.1 76 (by decide) (by decide) (by decide) (by decide)]; exact hA.2.1) hn6 (fun j => I 76 (14 + j)) (by rw [hy.1 76 (by decide) (by decide) (by decide) (by decide)]; exact fun _ _ => rfl) (by decide)) (fun y z hy hz => ?_)
    obtain ⟨y1, y2, y3, y4, y5, y6, y7, y8, y9⟩ := hy
    obtain ⟨z1, z2, z3, z4, z5, z6, z7, z8⟩ := hz
    have e : ∀ q, q ≠ 0 → q ≠ 1 → q ≠ 2 → q ≠ 12 → q ≠ 74 → q ≠ 76 → z q = I q := fun q a b c e f g => (z1 q f g).trans (y1 q a b c e)
    have e76 : ∀ j, j ≠ 0 → (j < 14 ∨ 38 ≤ j) → z 76 j = I 76 j := fun j a b => (z3 j a b).trans (by rw [y1 76 (by decide) (by decide) (by decide) (by decide)])
    have e74 : ∀ j, j ≠ 0 → j ≠ 1 → j ≠ 6 → j ≠ 8 → z 74 j = I 74 j := fun j a b c f => (z2 j a b c f).trans (by rw [y1 74 (by decide) (by decide) (by decide) (by decide)])
    have f0 : z 0 = y 0 := z1 0 (by decide) (by decide)
    have f1 : z 1 = y 1 := z1 1 (by decide) (by decide)
    have f2 : z 2 = y 2 := z1 2 (by decide) (by decide)
    have f12 : z 12 = y 12 := z1 12 (by decide) (by decide)
    have hA2 : ∃ cF cT cS cL, QA z 1 (z 76) (rs (fun q => nI (tp q)) t n (fun j => I 76 (14 + j)) ((t + 3) / 4)).1 cF cT cS cL := by
      refine QA.mk (by rw [f1]; exact y5) z4 hle (fun j hj => ?_) (fun c hcc => ?_)
      · show z 2 j = _
        rw [f2, z5 j hj]; exact y6 j hj
      · have h6 : c < 6 := by omega
        rw [z5 (4 * c) (by omega), z5 (4 * c + 1) (by omega), z5 (4 * c + 2) (by omega), z5 (4 * c + 3) (by omega)]
        exact hrs c hcc
    have g1 : ∀ j, j ≠ 0 → z 1 j = I 1 j := fun j a => by rw [f1]; exact y3 j a
    obtain ⟨h1, h2, h3, h4, h5, h6, h7, h8, h9⟩ := h
    have x2 := h2.fr (dz := []) (I2 := z) (R2 := R) (e 11 (by decide) (by decide) (by decide) (by decide) (by decide) (by decide)) (e 78 (by decide) (by decide) (by decide) (by decide) (by decide) (by decide)) (e 77 (by decide) (by decide) (by decide) (by decide) (by decide) (by decide)) (fun q a b => e q (by omega) (by omega) (by omega) (by omega) (by omega) (by omega)) (fun _ _ _ => rfl)
    rw [List.append_nil] at x2
    refine ⟨⟨⟨_, hA2⟩, ⟨tm, hB.cg (p := 1) (fun j _ => by rw [e 3 (by decide) (by decide) (by decide) (by decide) (by decide) (by decide)]) (fun j a b => e76 j (by omega) (by omega))⟩, ⟨nl, Tf, Cf, hC.c0 (g1 3 (by decide)) (e76 1 (by decide) (by decide)) (fun j a b => e76 j (by omega) (by omega)), hF.cg (g1 5 (by decide)) (e76 5 (by decide) (by decide))⟩, ⟨nh, Th, Ch, hD.c0 (g1 6 (by decide)) (e76 2 (by decide) (by decide)) (fun j a b => e76 j (by omega) (by omega))⟩, ⟨np, lo, wi, hE.cg (p := 1) (g1 8 (by decide)) (fun j _ => ⟨by rw [e 6 (by decide) (by decide) (by decide) (by decide) (by decide) (by decide)], by rw [e 7 (by decide) (by decide) (by decide) (by decide) (by decide) (by decide)]⟩) (fun j a => e76 j (by omega) (by omega))⟩, ⟨ns, ss, sc, hS.cg (p := 1) (g1 11 (by decide)) (fun j _ => ⟨by rw [e 8 (by decide) (by decide) (by decide) (by decide) (by decide) (by decide)], by rw [e 9 (by decide) (by decide) (by decide) (by decide) (by decide) (by decide)]⟩) (fun j a => e76 j (by omega) (by omega))⟩, hT⟩, x2, ?_, h4.fr (e 55 (by decide) (by decide) (by decide) (by decide) (by decide) (by decide)) (e 75 (by decide) (by decide) (by decide) (by decide) (by decide) (by decide)), h5.fr (e74 15 (by decide) (by decide) (by decide) (by decide)) rfl rfl, h6.fr (fun q a b => e q (by omega) (by omega) (by omega) (by omega) (by omega) (by omega)) (e 101 (by decide) (by decide) (by decide) (by decide) (by decide) (by decide)) (e 102 (by decide) (by decide) (by decide) (by decide) (by decide) (by decide)) (e74 57 (by decide) (by decide) (by decide) (by decide)) (e74 58 (by decide) (by decide) (by decide) (by decide)), ?_, ?_, ?_⟩
    · exact ⟨tp, 0, ⟨by decide, by rw [f12]; exact y8, by rw [e 13 (by decide) (by decide) (by decide) (by decide) (by decide) (by decide)]; exact hc.2.2.1, hc.2.2.2⟩, ⟨by decide, z7, by rw [e 79 (by decide) (by decide) (by decide) (by decide) (by decide) (by decide)]; exact hm.2.2.1, hm.2.2.2⟩⟩
    · rw [f0, y9, z8]
    · rw [f0, y2 15 (by decide) (by decide), e74 13 (by decide) (by decide) (by decide) (by decide)]; exact h8
    · rw [f0, y7, z6]
set_option maxHeartbeats 1000000 in
theorem p_drawn {I : wI} {L : wL} {R : wR} {dy : cH} (h : REL I L R dy) (c : Int32) (w : Int32) : PR kdI m11_drawn m12_drawn 0 0 [.int c, .int w] I L R dy := by
  have hD := h.2.2.2.2.2.1
  rcases hD with ⟨d1, d2⟩ | ⟨d1, d2, n, hn6, d3, d4, d5, d6⟩
  · exact PR.E0 ⟨_, rfl⟩ h (fun _ _ => r11_drawn_no false (by rw [d1]; rfl) c w (fun z => absurd z.1 (by decide)) (by decide)) (fun _ _ => r12_drawn_no false (by rw [d2]; rfl) c w (fun z => absurd z.1 (by decide)) (by decide))
  · by_cases hw : 0 ≤ w.toInt ∧ w.toInt ≤ 3
    · obtain ⟨w, rfl, hww⟩ := nI_ex hw.1
      by_cases h3 : w = 3
      · subst h3
        by_cases hc : 0 ≤ c.toInt ∧ c.toInt < 12
        · obtain ⟨j, rfl, hj⟩ := nI_ex hc.1
          exact PR.E0 ⟨_, rfl⟩ h (fun _ _ => r11_drawn_s d1 j (by omega) (by decide)) (fun _ _ => by rw [d5 j (by omega)]; exact r12_drawn_s d2 j (by omega) (by decide))
        · exact PR.E0 ⟨_, rfl⟩ h (fun _ _ => r11_drawn_sn d1 c hc (by decide)) (fun _ _ => r12_drawn_sn d2 c hc (by decide))
      · by_cases hc : 0 ≤ c.toInt ∧ c.toInt < n
        · obtain ⟨c, rfl, hcc⟩ := nI_ex hc.1
          obtain ⟨q1, q2, q3⟩ := d6 c (by omega)
          have hcs : w = 0 ∨ w = 1 ∨ w = 2 := by omega
          rcases hcs with rfl | rfl | rfl
          · exact PR.E0 ⟨_, rfl⟩ h (fun _ _ => r11_drawn_c0 d1 n d3 hn6 c (by omega) (by decide)) (fun _ _ => by rw [q1]; exact r12_drawn_c d2 n d4 hn6 c (by omega) 0 (by decide) (by decide))
          · exact PR.E0 ⟨_, rfl⟩ h (fun _ _ => r11_drawn_c1 d1 n d3 hn6 c (by omega) (by decide)) (fun _ _ => by rw [q2]; exact r12_drawn_c d2 n d4 hn6 c (by omega) 1 (by decide) (by decide))
          · exact PR.E0 ⟨_, rfl⟩ h (fun _ _ => r11_drawn_c2 d1 n d3 hn6 c (by omega) (by decide)) (fun _ _ => by rw [q3]; exact r12_drawn_c d2 n d4 hn6 c (by omega) 2 (by decide) (by decide))
        · have hcs : w = 0 ∨ w = 1 ∨ w = 2 := by omega
          rcases hcs with rfl | rfl | rfl
          · exact PR.E0 ⟨_, rfl⟩ h (fun _ _ => r11_drawn_n0 d1 n d3 hn6 c hc (by decide)) (fun _ _ => r12_drawn_cn d2 n d4 hn6 c hc 0 (by decide) (by decide))
          · exact PR.E0 ⟨_, rfl⟩ h (fun _ _ => r11_drawn_n1 d1 n d3 hn6 c hc (by decide)) (fun _ _ => r12_drawn_cn d2 n d4 hn6 c hc 1 (by decide) (by decide))
          · exact PR.E0 ⟨_, rfl⟩ h (fun _ _ => r11_drawn_n2 d1 n d3 hn6 c hc (by decide)) (fun _ _ => r12_drawn_cn d2 n d4 hn6 c hc 2 (by decide) (by decide))
    · exact PR.E0 ⟨_, rfl⟩ h (fun _ _ => r11_drawn_no true (by rw [d1]; rfl) c w (fun z => hw z.2) (by decide)) (fun _ _ => r12_drawn_no true (by rw [d2]; rfl) c w (fun z => hw z.2) (by decide))
/-- a question of the game -/
theorem PR.G {mc mm : MI} {as : List Value} {I : wI} {L : wL} {R : wR} {dy : cH} {v : Value} (hk : kdL v) (h : REL I L R dy) (h1 : ∀ (l : Launch) (K : cK), CX l K mc 90 (.ref 0 :: as) (hp I L R dy) (α := wI × wL) (fun x => FK [52] [51] I L x.1 x.2) (fun _ => v) (fun x => hp x.1 x.2 R dy)) (h2 : ∀ (I1 : wI) (L1 : wL), I1 76 = I 76 → ∀ (l : Launch) (K : cK), CX l K mm 90 (.ref 74 :: as) (hp I1 L1 R dy) (α := wL) (fun x => FR [] [0] [] [51, 52] I1 L1 (uI I1 74 0 0) x) (fun _ => v) (fun x => hp (uI I1 74 0 0) x R dy)) : PR kdL mc mm 0 0 as I L R dy :=
  PR.Q (α := wI × wL) (β := wL) (P2 := fun y x => FR [] [0] [] [51, 52] y.1 y.2 (uI y.1 74 0 0) x) (gI := fun y _ => uI y.1 74 0 0) (gL := fun _ x => x) (gR := fun _ _ => R) hk h h1 (fun y hy => by
    obtain ⟨a, b, c, e⟩ := fk_ob hy (by decide) (by decide) (by decide) (by decide)
    exact ⟨a, b, c, e, fun _ _ => rfl⟩) (fun y e hr l K => h2 y.1 y.2 e l K) (fun y z hz => by
    obtain ⟨a, b, c, e⟩ := fr_ob hz (by decide) (by decide) (by decide) (by decide)
    exact ⟨a, b, c, e, fun _ _ => rfl⟩)
set_option maxHeartbeats 1000000 in
theorem p_game {I : wI} {L : wL} {R : wR} {dy : cH} (h : REL I L R dy) (t : Int32) (w : Int32) : PR kdL m11_game m12_game 0 0 [.int t, .int w] I L R dy := by
  obtain ⟨n, lo, wi, hPc, hP⟩ := h.pl
  by_cases hb : 0 ≤ t.toInt ∧ t.toInt ≤ 99 ∧ 0 < n ∧ 0 ≤ w.toInt ∧ w.toInt ≤ 2 + 2 * n
  · obtain ⟨t, rfl, ht⟩ := nI_ex hb.1
    obtain ⟨w, rfl, hw⟩ := nI_ex hb.2.2.2.1
    have hn0 : 0 < n := hb.2.2.1
    have hD0 : 0 < (gd lo wi n (gfi lo wi n 100 (gmi lo n))) := gd_ps hn0 (fun p hp => ⟨(hPc.2.2 p hp).2.2.1, (hPc.2.2 p hp).2.2.2⟩)
    by_cases h2 : w ≤ 2
    · have hcs : w = 0 ∨ w = 1 ∨ w = 2 := by omega
      by_cases hpay : t * (gd lo wi n (gfi lo wi n 100 (gmi lo n))) ≤ (gu lo wi n (gfi lo wi n 100 (gmi lo n)))
      · rcases hcs with rfl | rfl | rfl
        · exact PR.G ⟨_, rfl⟩ h (fun _ _ => r11_game_0y n lo wi hPc hn0 t (by omega) hpay (by decide)) (fun I1 L1 e _ _ => r12_game_0y n lo wi (hP.of e) hn0 t (by omega) hpay (by decide))
        · exact PR.G ⟨_, rfl⟩ h (fun _ _ => r11_game_1y n lo wi hPc hn0 t (by omega) hpay (by decide)) (fun I1 L1 e _ _ => r12_game_1y n lo wi (hP.of e) hn0 t (by omega) hpay (by decide))
        · exact PR.G ⟨_, rfl⟩ h (fun _ _ => r11_game_2y n lo wi hPc hn0 t (by omega) hpay (by decide)) (fun I1 L1 e _ _ => r12_game_2y n lo wi (hP.of e) hn0 t (by omega) hpay (by decide))
      · rcases hcs with rfl | rfl | rfl
        · exact PR.G ⟨_, rfl⟩ h (fun _ _ => r11_game_0n n lo wi hPc hn0 t (by omega) hpay (by decide)) (fun I1 L1 e _ _ => r12_game_0n n lo wi (hP.of e) hn0 t (by omega) hpay (by decide))
        · exact PR.G ⟨_, rfl⟩ h (fun _ _ => r11_game_1n n lo wi hPc hn0 t (by omega) hpay (by decide)) (fun I1 L1 e _ _ => r12_game_1n n lo wi (hP.of e) hn0 t (by omega) hpay (by decide))
        · exact PR.G ⟨_, rfl⟩ h (fun _ _ => r11_game_2n n lo wi hPc hn0 t (by omega) hpay (by decide)) (fun I1 L1 e _ _ => r12_game_2n n lo wi (hP.of e) hn0 t (by omega) hpay (by decide))
    · obtain ⟨p, hp, hpn⟩ : ∃ p, (w = 3 + 2 * p + 0 ∨ w = 3 + 2 * p + 1) ∧ p < n := ⟨(w - 3) / 2, by omega, by omega⟩
      rcases hp with hp | hp
      · exact PR.G ⟨_, rfl⟩ h (fun _ _ => r11_game_3a n lo wi hPc hn0 t (by omega) p w hpn hp (by decide)) (fun I1 L1 e _ _ => r12_game_3a n lo wi (hP.of e) hn0 t (by omega) p w hpn hp hD0 (by decide))
      · exact PR.G ⟨_, rfl⟩ h (fun _ _ => r11_game_3b n lo wi hPc hn0 t (by omega) p w hpn hp (by decide)) (fun I1 L1 e _ _ => r12_game_3b n lo wi (hP.of e) hn0 t (by omega) p w hpn hp hD0 (by decide))
  · exact PR.E0 ⟨_, rfl⟩ h (fun _ _ => r11_game_no n lo wi hPc t w hb (by decide)) (fun _ _ => r12_game_no n lo wi hP t w hb (by decide))
/-- by how many cells -/
def PP (kd : Value → Prop) (mc mm : MI) (as : List Value) (I : wI) (L : wL) (R : wR) (dy : cH) : Prop := ∃ kc ks, kc ≤ 7 ∧ ks ≤ 855 ∧ PR kd mc mm kc ks as I L R dy
theorem PR.pp {kd : Value → Prop} {mc mm : MI} {as : List Value} {I : wI} {L : wL} {R : wR} {dy : cH} (h : PR kd mc mm 0 0 as I L R dy) : PP kd mc mm as I L R dy := ⟨0, 0, by decide, by decide, h⟩
theorem PR.ch {as : List Value} {I : wI} {L : wL} {R : wR} {dy : cH} {x : Int32} (h : REL I L R dy) (h1 : ∀ (l : Launch) (K : cK), CC l K m11_chalk 90 1 12 (.ref 0 :: as) (hp I L R dy) (fun r h1 => ∃ B, r = some (.int x) ∧ h1 = hp I L R (hA12 dy B))) (h2 : ∀ (l : Launch) (K : cK) (dy2 : cH), CE l K m12_chalk 90 (.ref 74 :: as) (hp I L R dy2) (.int x) (hp (uI I 74 0 0) L R dy2)) : PP kdI m11_chalk m12_chalk as I L R dy := ⟨1, 12, by decide, by decide, fun l K => CC.mono (h1 l K) (fun r h1 q => by
  obtain ⟨B, rfl, rfl⟩ := q
  refine ⟨_, I, L, R, [.inl (0, 12, .inl B)], ⟨x, rfl⟩, rfl, rfl, CC.mono (h2 l K _) (fun r2 h3 q2 => ?_)⟩
  obtain ⟨rfl, rfl⟩ := q2
  exact ⟨rfl, _, _, _, rfl, h.fr (fun k hk => uI_n (nin hk (by decide))) (fun j hj => uI_sn (nin hj (by decide))) rfl rfl (fun _ _ => rfl)⟩)⟩
set_option maxHeartbeats 400000 in
theorem p_chalk {I : wI} {L : wL} {R : wR} {dy : cH} (h : REL I L R dy) (a b c e : Int32) : PP kdI m11_chalk m12_chalk [.int a, .int b, .int c, .int e] I L R dy := by
  by_cases hb : 0 ≤ a.toInt ∧ a.toInt ≤ 4095 ∧ 0 ≤ b.toInt ∧ b.toInt ≤ 4095 ∧ 1 ≤ c.toInt ∧ c.toInt ≤ 12 ∧ 0 ≤ e.toInt ∧ e.toInt ≤ 2
  · obtain ⟨a, rfl, ha⟩ := nI_ex hb.1
    obtain ⟨b, rfl, hbb⟩ := nI_ex hb.2.2.1
    obtain ⟨c, rfl, hc⟩ := nI_ex (x := c) (by omega)
    obtain ⟨e, rfl, he⟩ := nI_ex hb.2.2.2.2.2.2.1
    have hcs : e = 0 ∨ e = 1 ∨ e = 2 := by omega
    rcases hcs with rfl | rfl | rfl
    · exact (PR.E0 ⟨_, rfl⟩ h (fun _ _ => r11_chalk_0 a b c (by omega) (by omega) (by omega) (by omega) (by decide)) (fun _ _ => r12_chalk_0 a b c (by omega) (by omega) (by omega) (by omega) (by decide))).pp
    · exact PR.ch h (fun _ _ => r11_chalk_1 a b c (by omega) (by omega) (by omega) (by omega) (by decide)) (fun _ _ _ => r12_chalk_1 a b c (by omega) (by omega) (by omega) (by omega) (by decide))
    · exact PR.ch h (fun _ _ => r11_chalk_2 a b c (by omega) (by omega) (by omega) (by omega) (by decide)) (fun _ _ _ => r12_chalk_2 a b c (by omega) (by omega) (by omega) (by omega) (by decide))
  · exact (PR.E0 ⟨_, rfl⟩ h (fun _ _ => r11_chalk_no a b c e hb (by decide)) (fun _ _ => r12_chalk_no a b c e hb (by decide))).pp
