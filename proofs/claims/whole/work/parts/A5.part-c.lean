def stF (I : wI) (k : Nat) : Nat := (I 19 k).toNatClampNeg
def wiF (I : wI) (k : Nat) : Nat := (I 20 k).toNatClampNeg
/-- the reading, at a token -/
def RSt (I : wI) (tp : Nat → Nat) (t : Nat) (lw : Bool) (b pa br f : Nat) : Prop := TPc I tp t ∧ TKc I tp t f ∧ I 14 1 = (if lw = true then 1 else 0) ∧ I 14 2 = nI pa ∧ I 14 3 = nI br ∧ I 14 10 = nI b ∧ I 14 4 = -1
/-- what reading may change -/
def FRd (I I2 : wI) : Prop := (∀ k, k ≠ 12 → k ≠ 14 → k ≠ 19 → k ≠ 20 → I2 k = I k) ∧ I2 12 1 = I 12 1 ∧ I2 14 1 = I 14 1 ∧ I2 14 5 = I 14 5
theorem FRd.rf {I : wI} : FRd I I := ⟨fun _ _ _ _ _ => rfl, rfl, rfl, rfl⟩
theorem FRd.tr {I I2 I3 : wI} (h : FRd I I2) (h2 : FRd I2 I3) : FRd I I3 := ⟨fun k a b c e => (h2.1 k a b c e).trans (h.1 k a b c e), h2.2.1.trans h.2.1, h2.2.2.1.trans h.2.2.1, h2.2.2.2.trans h.2.2.2⟩
theorem FRd.tk {I I2 : wI} (h : FTk I I2) : FRd I I2 := ⟨fun k a _ _ _ => h.1 k a, h.2, by rw [h.1 14 (by decide)], by rw [h.1 14 (by decide)]⟩
theorem FRd.f {I : wI} {j : Nat} {x : Int32} (h1 : 1 ≠ j) (h5 : 5 ≠ j) : FRd I (uI I 14 j x) := ⟨fun k _ b _ _ => uI_n b, by rw [uI_n (by decide)], uI_sf h1, uI_sf h5⟩
theorem FRd.s {I : wI} {j : Nat} {x : Int32} : FRd I (uI I 19 j x) := ⟨fun k _ _ b _ => uI_n b, by rw [uI_n (by decide)], by rw [uI_n (by decide)], by rw [uI_n (by decide)]⟩
theorem FRd.w {I : wI} {j : Nat} {x : Int32} : FRd I (uI I 20 j x) := ⟨fun k _ _ _ b => uI_n b, by rw [uI_n (by decide)], by rw [uI_n (by decide)], by rw [uI_n (by decide)]⟩
def EQs (I I2 : wI) (b : Nat) : Prop := ∀ k, k < b → I2 19 k = I 19 k ∧ I2 20 k = I 20 k
theorem EQs.rf {I : wI} {b : Nat} : EQs I I b := fun _ _ => ⟨rfl, rfl⟩
theorem EQs.tr {I I2 I3 : wI} {b : Nat} (h : EQs I I2 b) (h2 : EQs I2 I3 b) : EQs I I3 b := fun k hk => ⟨(h2 k hk).1.trans (h k hk).1, (h2 k hk).2.trans (h k hk).2⟩
theorem EQs.dn {I I2 : wI} {b c : Nat} (h : EQs I I2 b) (hc : c ≤ b) : EQs I I2 c := fun k hk => h k (by omega)
theorem EQs.tk {I I2 : wI} {b : Nat} (h : FTk I I2) : EQs I I2 b := fun k _ => ⟨by rw [h.1 19 (by decide)], by rw [h.1 20 (by decide)]⟩
/-- a step that can be reckoned -/
def OKk (I : wI) (k : Nat) : Prop := I 19 k = nI (stF I k) ∧ I 20 k = nI (wiF I k) ∧ vst (stF I) (wiF I) k ∧ (29 ≤ cop (stF I) (wiF I) k → k < wiF I k)
theorem OKk.of {I I2 : wI} {k : Nat} (h : OKk I k) (e1 : I2 19 k = I 19 k) (e2 : I2 20 k = I 20 k) : OKk I2 k := by
  have s1 : stF I2 k = stF I k := by unfold stF; rw [e1]
  have s2 : wiF I2 k = wiF I k := by unfold wiF; rw [e2]
  have c : cop (stF I2) (wiF I2) k = cop (stF I) (wiF I) k := by unfold cop; simp only [s1, s2]
  exact ⟨by rw [e1, s1]; exact h.1, by rw [e2, s2]; exact h.2.1, by have h3 := h.2.2.1; unfold vst at h3 ⊢; rw [s1, s2]; exact h3, fun z => by rw [s2]; exact h.2.2.2 (by rw [c] at z; exact z)⟩
def SCI (I : wI) (a b : Nat) (v : Den) (dp : Nat) : Prop := SC (cop (stF I) (wiF I)) (carg (stF I) (wiF I)) a b v dp
theorem SCI.of {I I2 : wI} {a b : Nat} {v : Den} {dp : Nat} (h : SCI I a b v dp) (e : ∀ k, a ≤ k → k < b → I2 19 k = I 19 k ∧ I2 20 k = I 20 k) : SCI I2 a b v dp := by
  refine SC.cg h (fun k h1 h2 => ?_)
  obtain ⟨q1, q2⟩ := e k h1 h2
  have s1 : stF I2 k = stF I k := by unfold stF; rw [q1]
  have s2 : wiF I2 k = wiF I k := by unfold wiF; rw [q2]
  exact ⟨by unfold cop; simp only [s1, s2], by unfold carg; simp only [s1, s2]⟩
/-- what reading a part of a text leaves -/
def RP (I : wI) (tp : Nat → Nat) (t : Nat) (lw : Bool) (b br f dp : Nat) (r : Res) (x : wI × Bool) : Prop := match r with
  | .inl e => x.2 = false ∧ FRd I x.1 ∧ x.1 14 4 = nI e
  | .inr (f2, pa2, v2) => x.2 = true ∧ FRd I x.1 ∧ EQs I x.1 b ∧ pa2 ≤ 50 ∧ f < f2 ∧ f2 ≤ t ∧ ∃ b2, RSt x.1 tp t lw b2 pa2 br f2 ∧ b < b2 ∧ b2 + f ≤ b + f2 ∧ (∀ k, b ≤ k → k < b2 → OKk x.1 k) ∧ SCI x.1 b b2 v2 dp
def dpP (br : Nat) : Nat := 1 + 2 * (8 - br)
theorem RSt.le {I : wI} {tp : Nat → Nat} {t : Nat} {lw : Bool} {b pa br f : Nat} (h : RSt I tp t lw b pa br f) : f ≤ t ∧ t ≤ 400 := ⟨h.2.1.1, h.1.1⟩
theorem RSt.adv {I I2 : wI} {tp : Nat → Nat} {t : Nat} {lw : Bool} {b pa br f f2 : Nat} (h : RSt I tp t lw b pa br f) (hF : FTk I I2) (hK : TKc I2 tp t f2) : RSt I2 tp t lw b pa br f2 := by
  obtain ⟨h1, h2, h3, h4, h5, h6⟩ := h
  have e := hF.1 14 (by decide)
  exact ⟨hF.tp h1, hK, by rw [e]; exact h3, by rw [e]; exact h4, by rw [e]; exact h5, by rw [e]; exact h6⟩
theorem r8_next {l : Launch} {K : cK} {d : Nat} {I : wI} {L : wL} {R : wR} {dy : cH} (tp : Nat → Nat) (t : Nat) (lw : Bool) (b pa br f : Nat) (hS : RSt I tp t lw b pa br f) (hd : 1 ≤ d) : CW l K m8_advance d [.ref 12] (hp I L R dy) (α := wI) (fun x => FTk I x ∧ RSt x tp t lw b pa br (nxt tp t f)) (fun x => hp x L R dy) := by
  have h := r8_advance (l := l) (K := K) (d := d) (I := I) (L := L) (R := R) (dy := dy) tp t hS.1 (tE tp t f) hS.2.1.2.2.1 (tE_le hS.2.1.1).2.1 hd
  exact CC.mono h (fun r h1 q => by
    obtain ⟨x, ⟨q1, q2⟩, q3, q4⟩ := q
    exact ⟨x, ⟨q1, hS.adv q1 q2⟩, q3, q4⟩)
/-- one step more, the token left behind -/
theorem RP_leaf {I I2 : wI} {tp : Nat → Nat} {t : Nat} {lw : Bool} {b pa br f st wi : Nat} (hS : RSt I tp t lw b pa br f) (hbf : b ≤ f) (hp5 : pa < 50) (hkd : kd tp t f ≠ 0) (hst : st ≤ 1) (hwi : wi ≤ 1000) (hw7 : st = 1 → wi < 7)
    (hF : FTk (uI (uI (uI (uI I 14 2 (nI (pa + 1))) 19 b (nI st)) 20 b (nI wi)) 14 10 (nI (b + 1))) I2) (h2 : RSt I2 tp t lw (b + 1) (pa + 1) br (nxt tp t f)) : RP I tp t lw b br f (dpP br) (.inr (nxt tp t f, pa + 1, if st = 0 then (fun _ => some (lN wi)) else (fun env => some (env (wi + 1))))) (I2, true) := by
  have hn := nxt_le (tp := tp) hS.2.1.1
  have hn3 := hn.2.2 hkd
  have e19 : I2 19 b = nI st := by rw [hF.1 19 (by decide), uI_n (by decide), uI_n (by decide), uI_ss]
  have e20 : I2 20 b = nI wi := by rw [hF.1 20 (by decide), uI_n (by decide), uI_ss]
  have s1 : stF I2 b = st := by unfold stF; rw [e19, nI_clamp (by omega)]
  have s2 : wiF I2 b = wi := by unfold wiF; rw [e20, nI_clamp (by omega)]
  have hop : cop (stF I2) (wiF I2) b = if st = 0 then 0 else wi + 1 := by
    unfold cop; rw [s1, s2]
    by_cases z : st = 0
    · rw [if_pos z, if_pos z]
    · rw [if_neg z, if_neg z, if_pos (by omega)]
  refine ⟨rfl, (((FRd.f (by decide) (by decide)).tr FRd.s).tr FRd.w).tr ((FRd.f (by decide) (by decide)).tr (FRd.tk hF)), fun k hk => ⟨?_, ?_⟩, by omega, hn3, hn.2.1, b + 1, h2, by omega, by omega, fun k h3 h4 => ?_, ?_⟩
  · show I2 19 k = I 19 k
    rw [hF.1 19 (by decide), uI_n (by decide), uI_n (by decide), uI_sn (by omega), uI_n (by decide)]
  · show I2 20 k = I 20 k
    rw [hF.1 20 (by decide), uI_n (by decide), uI_sn (by omega), uI_n (by decide), uI_n (by decide)]
  · obtain rfl : k = b := by omega
    show OKk I2 k
    refine ⟨by rw [e19, s1], by rw [e20, s2], ?_, fun z => ?_⟩
    · unfold vst
      rw [s1, s2]
      rcases (by omega : st = 0 ∨ st = 1) with z | z
      · exact ⟨Or.inl z, by omega⟩
      · exact ⟨Or.inr (Or.inl ⟨z, hw7 z⟩), by omega⟩
    · rw [hop] at z
      split at z
      · omega
      · next q => have := hw7 (by omega); omega
  · have h5 : cop (stF I2) (wiF I2) b ≤ 12 := by
      rw [hop]
      split
      · omega
      · next q => have := hw7 (by omega); omega
    have h6 := SC.leaf (op := cop (stF I2) (wiF I2)) (arg := carg (stF I2) (wiF I2)) h5
    have h7 : (fun env : Nat → Int64 => some (if cop (stF I2) (wiF I2) b = 0 then lN (carg (stF I2) (wiF I2) b) else env (cop (stF I2) (wiF I2) b))) = (if st = 0 then (fun _ => some (lN wi)) else (fun env => some (env (wi + 1)))) := by
      rw [hop]
      by_cases z : st = 0
      · rw [if_pos z, if_pos z]
        funext env
        rw [if_pos rfl]
        unfold carg
        rw [s1, s2, if_neg (by omega)]
      · rw [if_neg z, if_neg z]
        funext env
        rw [if_neg (by omega)]
    rw [h7] at h6
    exact h6.mono (by unfold dpP; omega)
