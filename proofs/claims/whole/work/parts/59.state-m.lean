/-- what lies upon the pile from N on, brackets too -/
def PQ (I : wI) : Nat → List (Nat × Nat) → Prop
  | _, [] => True
  | N, (o, j) :: Y => I 83 N = nI o ∧ I 84 N = nI j ∧ 20 ≤ o ∧ o ≤ 32 ∧ j < 400 ∧ PQ I (N + 1) Y
theorem PQ.app {I : wI} : ∀ (X : List (Nat × Nat)) {Y : List (Nat × Nat)} {N : Nat}, PQ I N (X ++ Y) ↔ PQ I N X ∧ PQ I (N + X.length) Y
  | [], Y, N => by show PQ I N Y ↔ True ∧ PQ I (N + 0) Y; rw [Nat.add_zero]; exact ⟨fun h => ⟨trivial, h⟩, fun h => h.2⟩
  | (o, j) :: X, Y, N => by
    show (_ ∧ _ ∧ _ ∧ _ ∧ _ ∧ PQ I (N + 1) (X ++ Y)) ↔ (_ ∧ _ ∧ _ ∧ _ ∧ _ ∧ PQ I (N + 1) X) ∧ PQ I (N + (X.length + 1)) Y
    rw [PQ.app X, show N + (X.length + 1) = N + 1 + X.length by omega]
    constructor
    · rintro ⟨a, b, c, d, e, f, g⟩; exact ⟨⟨a, b, c, d, e, f⟩, g⟩
    · rintro ⟨⟨a, b, c, d, e, f⟩, g⟩; exact ⟨a, b, c, d, e, f, g⟩
theorem PQ.cg {I I2 : wI} : ∀ (Y : List (Nat × Nat)) {N : Nat}, (∀ q, N ≤ q → q < N + Y.length → I2 83 q = I 83 q ∧ I2 84 q = I 84 q) → PQ I N Y → PQ I2 N Y
  | [], _, _, _ => trivial
  | (o2, j2) :: Y, N, hc, h => by
    obtain ⟨a, b, c, d, e, f⟩ := h
    obtain ⟨c1, c2⟩ := hc N (Nat.le_refl _) (by simp only [List.length_cons]; omega)
    exact ⟨c1.trans a, c2.trans b, c, d, e, PQ.cg Y (fun q q1 q2 => hc q (by omega) (by simp only [List.length_cons]; omega)) f⟩
theorem bnd1 {o : Nat} (h : 1 ≤ bnd o) : o ≤ 30 := by unfold bnd at h; split at h <;> omega
theorem PQ.pe {I : wI} : ∀ (Y : List (Nat × Nat)) {N : Nat}, PQ I N Y → BG 1 Y → PE I N Y
  | [], _, _, _ => trivial
  | (o, j) :: Y, N, ⟨a, b, c, _, e, f⟩, ⟨h1, h2⟩ => ⟨a, b, c, bnd1 h1, e, PQ.pe Y f h2⟩
/-- at a place of the pile -/
theorem PQ.at {I : wI} : ∀ (X : List (Nat × Nat)) {N : Nat}, PQ I N X → ∀ q, q < X.length → ∃ o j, X[q]? = some (o, j) ∧ I 83 (N + q) = nI o ∧ I 84 (N + q) = nI j ∧ 20 ≤ o ∧ o ≤ 32 ∧ j < 400
  | [], _, _, q, hq => absurd hq (by simp)
  | (o, j) :: X, N, ⟨a, b, c, d, e, f⟩, 0, _ => ⟨o, j, rfl, a, b, c, d, e⟩
  | (o, j) :: X, N, ⟨a, b, c, d, e, f⟩, q + 1, hq => by
    obtain ⟨o2, j2, h1, h2⟩ := PQ.at X f q (by simp only [List.length_cons] at hq; omega)
    rw [show N + 1 + q = N + (q + 1) by omega] at h2
    exact ⟨o2, j2, h1, h2⟩
theorem PQ.pv {I : wI} {X : List (Nat × Nat)} (h : PQ I 0 X) : PV I X.length := PV.mk (fun q hq => by
  obtain ⟨o, j, _, h2⟩ := PQ.at X h q hq
  rw [Nat.zero_add] at h2
  exact ⟨o, j, h2⟩)
theorem PQ.pf {I : wI} {X : List (Nat × Nat)} (h : PQ I 0 X) {q o j : Nat} (hq : X[q]? = some (o, j)) : pF I q = o := by
  obtain ⟨hl, hx⟩ := List.getElem?_eq_some_iff.mp hq
  obtain ⟨o2, j2, h1, h2, _, h4, h5, _⟩ := PQ.at X h q hl
  rw [hq] at h1
  obtain ⟨rfl, rfl⟩ : o = o2 ∧ j = j2 := by injection h1 with h1; injection h1 with a b; exact ⟨a, b⟩
  rw [Nat.zero_add] at h2
  unfold pF; rw [h2]; exact nI_tc (by omega)
/-- the innermost bracket; whether a comparison stands -/
def ibX (X : List (Nat × Nat)) : Nat := X.foldl (fun s p => if 31 ≤ p.1 then p.1 else s) 0
def icX (X : List (Nat × Nat)) : Bool := X.foldl (fun s p => if 20 ≤ p.1 ∧ p.1 ≤ 24 then s else decide (25 ≤ p.1 ∧ p.1 ≤ 27)) false
theorem ibX_snoc (X : List (Nat × Nat)) (p : Nat × Nat) : ibX (X ++ [p]) = if 31 ≤ p.1 then p.1 else ibX X := by unfold ibX; rw [List.foldl_append]; rfl
theorem icX_snoc (X : List (Nat × Nat)) (p : Nat × Nat) : icX (X ++ [p]) = if 20 ≤ p.1 ∧ p.1 ≤ 24 then icX X else decide (25 ≤ p.1 ∧ p.1 ≤ 27) := by unfold icX; rw [List.foldl_append]; rfl
theorem ib_X {I : wI} : ∀ (n : Nat) (X : List (Nat × Nat)), X.length = n → PQ I 0 X → ib (pF I) X.length = ibX X ∧ ic (pF I) X.length = icX X
  | 0, X, hn, h => by
    obtain rfl := List.eq_nil_of_length_eq_zero hn
    exact ⟨rfl, rfl⟩
  | n + 1, X, hn, h => by
    rcases List.eq_nil_or_concat X with rfl | ⟨Z, ⟨o, j⟩, rfl⟩
    · cases hn
    simp only [List.concat_eq_append] at *
    simp only [List.length_append, List.length_cons, List.length_nil, Nat.zero_add] at hn ⊢
    have hz := ib_X n Z (by omega) ((PQ.app Z).1 h).1
    have e : pF I Z.length = o := PQ.pf h (j := j) (by simp)
    rw [ibX_snoc, icX_snoc, ← hz.1, ← hz.2]
    constructor
    · show (if 31 ≤ pF I Z.length then pF I Z.length else _) = _; rw [e]
    · show (if 20 ≤ pF I Z.length ∧ pF I Z.length ≤ 24 then _ else decide (25 ≤ pF I Z.length ∧ pF I Z.length ≤ 27)) = _; rw [e]
theorem ibX_BG (X : List (Nat × Nat)) : ∀ (n : Nat) (Y : List (Nat × Nat)), Y.length = n → BG 1 Y → ibX (X ++ Y) = ibX X
  | 0, Y, hn, _ => by obtain rfl := List.eq_nil_of_length_eq_zero hn; rw [List.append_nil]
  | n + 1, Y, hn, h => by
    rcases List.eq_nil_or_concat Y with rfl | ⟨Z, ⟨o, j⟩, rfl⟩
    · cases hn
    simp only [List.concat_eq_append] at *
    simp only [List.length_append, List.length_cons, List.length_nil, Nat.zero_add] at hn
    obtain ⟨h1, h2⟩ := (BG.app Z).1 h
    have := bnd1 h2
    rw [← List.append_assoc, ibX_snoc, if_neg (by show ¬ 31 ≤ o; omega)]
    exact ibX_BG X n Z (by omega) h1
theorem bnd5 {o : Nat} (h : 5 ≤ bnd o) (h20 : 20 ≤ o) : o ≤ 24 := by unfold bnd at h; split at h <;> (try split at h) <;> (try split at h) <;> (try split at h) <;> (try split at h) <;> omega
theorem icX_BG (X : List (Nat × Nat)) : ∀ (n : Nat) (Y : List (Nat × Nat)), Y.length = n → BG 5 Y → (∀ p ∈ Y, 20 ≤ p.1) → icX (X ++ Y) = icX X
  | 0, Y, hn, _, _ => by obtain rfl := List.eq_nil_of_length_eq_zero hn; rw [List.append_nil]
  | n + 1, Y, hn, h, hg => by
    rcases List.eq_nil_or_concat Y with rfl | ⟨Z, ⟨o, j⟩, rfl⟩
    · cases hn
    simp only [List.concat_eq_append] at *
    simp only [List.length_append, List.length_cons, List.length_nil, Nat.zero_add] at hn
    obtain ⟨h1, h2⟩ := (BG.app Z).1 h
    have h3 : 20 ≤ o := hg (o, j) (by simp)
    have := bnd5 h2 h3
    rw [← List.append_assoc, icX_snoc, if_pos ⟨h3, this⟩]
    exact icX_BG X n Z (by omega) h1 (fun p hp => hg p (by simp [hp]))
/-- the top of the pile binds less -/
def TB (X : List (Nat × Nat)) (r : Nat) : Prop := X = [] ∨ ∃ Z o j, X = Z ++ [(o, j)] ∧ bnd o < r
theorem TB.mono {X : List (Nat × Nat)} {a b : Nat} (h : TB X a) (hab : a ≤ b) : TB X b := by
  rcases h with h | ⟨Z, o, j, h1, h2⟩
  · exact Or.inl h
  · exact Or.inr ⟨Z, o, j, h1, by omega⟩
theorem TB.bl {I : wI} {X : List (Nat × Nat)} {r : Nat} (h : TB X r) (hq : PQ I 0 X) : BL I X.length r := by
  rcases h with rfl | ⟨Z, o, j, rfl, h2⟩
  · exact Or.inl rfl
  · obtain ⟨_, q1, _, q3, q4, _⟩ := (PQ.app Z).1 hq
    refine Or.inr ⟨o, ?_, q3, q4, h2⟩
    rw [List.length_append, show Z.length + [(o, j)].length - 1 = 0 + Z.length by simp]
    exact q1
theorem TB.ic {X : List (Nat × Nat)} (h : TB X 4) (hg : ∀ p ∈ X, 20 ≤ p.1) : icX X = false := by
  rcases h with rfl | ⟨Z, o, j, rfl, h2⟩
  · rfl
  · have h3 : 20 ≤ o := hg (o, j) (by simp)
    have h4 : 28 ≤ o := by
      unfold bnd at h2
      by_cases e : 28 ≤ o
      · exact e
      · rw [if_neg (by omega), if_neg (by omega), if_neg (by omega), if_neg (by omega)] at h2
        split at h2 <;> (try split at h2) <;> omega
    rw [icX_snoc, if_neg (by show ¬ (20 ≤ o ∧ o ≤ 24); omega)]
    exact decide_eq_false (by show ¬ (25 ≤ o ∧ o ≤ 27); omega)
theorem PQ.ge {I : wI} : ∀ (X : List (Nat × Nat)) {N : Nat}, PQ I N X → ∀ p ∈ X, 20 ≤ p.1
  | [], _, _, p, hp => absurd hp (by simp)
  | (o, j) :: X, N, ⟨_, _, c, _, _, f⟩, p, hp => by
    rcases List.mem_cons.mp hp with rfl | hp
    · exact c
    · exact PQ.ge X f p hp
/-- the words, and the code -/
def WN (I : wI) (L : wL) (b : Nat) : Prop := (∀ k, k < 7 → L 85 k = lN (lws true k) ∧ L 86 k = lN (lws false k)) ∧ NN I b ∧ I 74 13 = -1
/-- a state of reading an expression -/
def PSt (I : wI) (L : wL) (tp : Nat → Nat) (t : Nat) (lw : Bool) (X : List (Nat × Nat)) (b pa br f : Nat) : Prop := TPm I tp t ∧ TKm I L tp t f ∧ WN I L b ∧ I 74 14 = 0 ∧ I 74 15 = (if lw = true then 0 else 1) ∧ I 74 18 = nI b ∧ I 74 21 = nI pa ∧ I 74 24 = nI X.length ∧ I 74 25 = nI br ∧ PQ I 0 X
/-- what reading may change -/
abbrev FP (I : wI) (L : wL) (I2 : wI) (L2 : wL) : Prop := FR [81, 82, 83, 84] [9, 10, 11, 13, 14, 18, 21, 24, 25] [] [12] I L I2 L2
/-- a bad text -/
def BSt (I : wI) (L : wL) (e : Nat) (x : wI × wL) : Prop := x.1 74 14 = 1 ∧ x.1 74 13 = nI e ∧ FP I L x.1 x.2 ∧ ∃ n b, x.1 74 24 = nI n ∧ x.1 74 18 = nI b ∧ b + n ≤ 400 ∧ PV x.1 n
theorem PSt.nx {I I2 : wI} {L L2 : wL} {tp : Nat → Nat} {t : Nat} {lw : Bool} {X : List (Nat × Nat)} {b pa br f f2 : Nat} (h : PSt I L tp t lw X b pa br f) (hF : FR [] [9, 10, 11] [] [12] I L I2 L2) (hK : TKm I2 L2 tp t f2) : PSt I2 L2 tp t lw X b pa br f2 := by
  obtain ⟨h1, h2, h3, h4, h5, h6, h7, h8, h9, h10⟩ := h
  obtain ⟨a, b0, c, e⟩ := hF
  refine ⟨⟨h1.1, (b0 8 (by decide)).trans h1.2.1, ?_, h1.2.2.2⟩, hK, ?_, (b0 14 (by decide)).trans h4, (b0 15 (by decide)).trans h5, (b0 18 (by decide)).trans h6, (b0 21 (by decide)).trans h7, (b0 24 (by decide)).trans h8, (b0 25 (by decide)).trans h9, ?_⟩
  · rw [a 79 (by decide) (by decide)]; exact h1.2.2.1
  · refine ⟨?_, h3.2.1.cg (a 81 (by decide) (by decide)) (a 82 (by decide) (by decide)), (b0 13 (by decide)).trans h3.2.2⟩
    rw [c 85 (by decide) (by decide), c 86 (by decide) (by decide)]; exact h3.1
  · exact PQ.cg X (fun q _ _ => by rw [a 83 (by decide) (by decide), a 84 (by decide) (by decide)]; exact ⟨rfl, rfl⟩) h10
theorem PSt.ps {I : wI} {L : wL} {tp : Nat → Nat} {t : Nat} {lw : Bool} {X : List (Nat × Nat)} {b pa br f o j : Nat} (h : PSt I L tp t lw X b pa br f) (h1 : 20 ≤ o) (h2 : o ≤ 32) (h3 : j < 400) : PSt (uI (uI (uI I 83 X.length (nI o)) 84 X.length (nI j)) 74 24 (nI (X.length + 1))) L tp t lw (X ++ [(o, j)]) b pa br f := by
  obtain ⟨g1, g2, g3, g4, g5, g6, g7, g8, g9, g10⟩ := h
  refine ⟨g1, g2, g3, g4, g5, g6, g7, ?_, g9, (PQ.app X).2 ⟨PQ.cg (I := I) X (fun q q1 q2 => ⟨?_, ?_⟩) g10, ?_, ?_, h1, h2, h3, trivial⟩⟩
  · rw [uI_ss]; simp
  · rw [uI_n (by decide), uI_n (by decide), uI_sn (by omega)]
  · rw [uI_n (by decide), uI_sn (by omega), uI_n (by decide)]
  · rw [uI_n (by decide), uI_n (by decide), Nat.zero_add, uI_ss]
  · rw [uI_n (by decide), Nat.zero_add, uI_ss]
theorem PSt.em {I : wI} {L : wL} {tp : Nat → Nat} {t : Nat} {lw : Bool} {X : List (Nat × Nat)} {b pa br f o g : Nat} (h : PSt I L tp t lw X b pa br f) (ho : o ≤ 30) (hg : g < 2147483648) : PSt (uI (uI (uI I 81 b (nI o)) 82 b (nI g)) 74 18 (nI (b + 1))) L tp t lw X (b + 1) pa br f := by
  obtain ⟨g1, g2, g3, g4, g5, g6, g7, g8, g9, g10⟩ := h
  exact ⟨g1, g2, ⟨g3.1, g3.2.1.em ho hg, g3.2.2⟩, g4, g5, uI_ss, g7, g8, g9, PQ.cg (I := I) X (fun q q1 q2 => ⟨rfl, rfl⟩) g10⟩
theorem PSt.br {I : wI} {L : wL} {tp : Nat → Nat} {t : Nat} {lw : Bool} {X : List (Nat × Nat)} {b pa br f br2 : Nat} (h : PSt I L tp t lw X b pa br f) : PSt (uI I 74 25 (nI br2)) L tp t lw X b pa br2 f := by
  obtain ⟨g1, g2, g3, g4, g5, g6, g7, g8, g9, g10⟩ := h
  exact ⟨g1, g2, g3, g4, g5, g6, g7, g8, uI_ss, PQ.cg (I := I) X (fun q q1 q2 => ⟨rfl, rfl⟩) g10⟩
theorem PSt.lf {I : wI} {L : wL} {tp : Nat → Nat} {t : Nat} {lw : Bool} {X : List (Nat × Nat)} {b pa br f p2 : Nat} (h : PSt I L tp t lw X b pa br f) : PSt (uI I 74 21 (nI p2)) L tp t lw X b p2 br f := by
  obtain ⟨g1, g2, g3, g4, g5, g6, g7, g8, g9, g10⟩ := h
  exact ⟨g1, g2, g3, g4, g5, g6, uI_ss, g8, g9, PQ.cg (I := I) X (fun q q1 q2 => ⟨rfl, rfl⟩) g10⟩
/-- the pile's top falls -/
theorem PSt.dn {I : wI} {L : wL} {tp : Nat → Nat} {t : Nat} {lw : Bool} {X : List (Nat × Nat)} {p : Nat × Nat} {b pa br f : Nat} (h : PSt I L tp t lw (X ++ [p]) b pa br f) : PSt (uI I 74 24 (nI X.length)) L tp t lw X b pa br f := by
  obtain ⟨g1, g2, g3, g4, g5, g6, g7, g8, g9, g10⟩ := h
  exact ⟨g1, g2, g3, g4, g5, g6, g7, uI_ss, g9, PQ.cg (I := I) X (fun q q1 q2 => ⟨rfl, rfl⟩) ((PQ.app X).1 g10).1⟩
/-- a settled pile -/
theorem PSt.st {I : wI} {L : wL} {tp : Nat → Nat} {t : Nat} {lw : Bool} {X Y : List (Nat × Nat)} {a b pa br f M : Nat} {v : Den} {x : wI × Nat} (h : PSt I L tp t lw (X ++ Y) b pa br f) (hS : ST I [] X.length a b v M x) : PSt x.1 L tp t lw X x.2 pa br f := by
  obtain ⟨g1, g2, g3, g4, g5, g6, g7, g8, g9, g10⟩ := h
  obtain ⟨s1, s2, s3, s4, s5, s6, s7, s8, s9⟩ := hS
  refine ⟨⟨g1.1, (s2 8 (by decide) (by decide)).trans g1.2.1, ?_, g1.2.2.2⟩, ⟨g2.1, (s2 9 (by decide) (by decide)).trans g2.2.1, (s2 10 (by decide) (by decide)).trans g2.2.2.1, (s2 11 (by decide) (by decide)).trans g2.2.2.2.1, g2.2.2.2.2⟩, ⟨g3.1, s9 g3.2.1, (s2 13 (by decide) (by decide)).trans g3.2.2⟩, (s2 14 (by decide) (by decide)).trans g4, (s2 15 (by decide) (by decide)).trans g5, s4, (s2 21 (by decide) (by decide)).trans g7, s3, (s2 25 (by decide) (by decide)).trans g9, ?_⟩
  · rw [s1 79 (by decide) (by decide) (by decide)]; exact g1.2.2.1
  · exact PQ.cg (I := I) X (fun q _ _ => by rw [s1 83 (by decide) (by decide) (by decide), s1 84 (by decide) (by decide) (by decide)]; exact ⟨rfl, rfl⟩) ((PQ.app X).1 g10).1
theorem ST.fp {I : wI} {L : wL} {Y : List (Nat × Nat)} {N a b M : Nat} {v : Den} {x : wI × Nat} (hS : ST I Y N a b v M x) : FP I L x.1 L :=
  ⟨fun k k1 k2 => hS.1 k (fun e => k1 (by subst e; decide)) (fun e => k1 (by subst e; decide)) k2, fun j j1 => hS.2.1 j (fun e => j1 (by subst e; decide)) (fun e => j1 (by subst e; decide)), fun _ _ _ => rfl, fun _ _ => rfl⟩
set_option maxHeartbeats 400000 in
theorem r12_partAtL {l : Launch} {K : cK} {d : Nat} {I : wI} {L : wL} {R : wR} {dy : cH} {Q : Option Value → cH → Prop} (tp : Nat → Nat) (t : Nat) (lw : Bool) (X : List (Nat × Nat)) (b pa br f : Nat) (hS : PSt I L tp t lw X b pa br f) (hd : 1 ≤ d)
    (kk : (7 ≤ 7) → GL l K m12_partAt d 0 0 37 [(0, .ref 74), (1, .int (ibI (wpa tp t f true (7))))] [] (hp I L R dy) Q) :
    ∀ (zn k : Nat) , k + zn = 7 → (k ≤ 7) → GL l K m12_partAt d 0 0 4 [(0, .ref 74), (1, .int (ibI (wpa tp t f true (k)))), (2, .int (nI (k)))] [] (hp I L R dy) Q := by
  intro zn
  induction zn with
  | zero =>
    intro k  hin hk
    obtain rfl : 7 = k := by omega
    refine g_iload_n d12_partAt_4 rfl ?_
    refine g_bipushv (nI 7) d12_partAt_5 rfl ?_
    refine g_ic_ge ((7 : Nat) : Int) (7) 37 (nI_ti (by omega)) (by decide) d12_partAt_7 rfl (fun _ => ?_) (fun c7 => absurd c7 (by omega))
    refine g_lo [(0, .ref 74), (1, .int (ibI (wpa tp t f true (7))))] ⟨rfl, rfl, trivial⟩ ?_
    exact kk  hk
  | succ zn ih =>
    intro k  hin hk
    by_cases e : iw tp t f (lws true k)
    · skip
      refine g_iload_n d12_partAt_4 rfl ?_
      refine g_bipushv (nI 7) d12_partAt_5 rfl ?_
      refine g_ic_ge ((k : Nat) : Int) (7) 37 (nI_ti (by omega)) (by decide) d12_partAt_7 rfl (fun c7 => absurd c7 (by omega)) (fun _ => ?_)
      refine g_aload_n d12_partAt_10 rfl ?_
      refine g_aload_n d12_partAt_11 rfl ?_
      refine g_get fl12_59 d12_partAt_12 f_74_26 ?_
      refine g_iload_n d12_partAt_15 rfl ?_
      refine g_laldN (k) d12_partAt_16 a_85 (rfl) (by omega) (by decide) ?_
      refine g_topL (lN (lws true k)) ((hS.2.2.1.1 k (by omega)).1) ?_
      refine g_EV1 vm12_isWord ml12_252 c_74 (r12_isWord tp t f hS.1 hS.2.1 (lws true k) (by rcases (by omega : k = 0 ∨ k = 1 ∨ k = 2 ∨ k = 3 ∨ k = 4 ∨ k = 5 ∨ k = 6) with e | e | e | e | e | e | e <;> subst e <;> decide) (Nat.le_refl 0)) (by omega) (Nat.le_of_ble_eq_true rfl) d12_partAt_17 ?_
      refine g_bz 29 d12_partAt_20 rfl (fun c20 => absurd (e) c20) (fun _ => ?_)
      refine g_iload_n d12_partAt_23 rfl ?_
      refine g_iconstv (nI 1) d12_partAt_24 rfl ?_
      refine g_iaddN d12_partAt_25 ?_
      refine g_goto 30 d12_partAt_26 rfl ?_
      refine g_istore_n d12_partAt_30 (by decide) ?_
      refine g_iincN d12_partAt_31 rfl (by decide) ?_
      refine g_goto 4 d12_partAt_34 rfl ?_
      refine g_lo [(0, .ref 74), (1, .int (ibI (wpa tp t f true (k + 1)))), (2, .int (nI (k + 1)))] ⟨rfl, by rw [show wpa tp t f true (k + 1) = k + 1 from if_pos e]; rfl, rfl, trivial⟩ ?_
      exact ih (k + 1) (by omega) (by omega)
    · skip
      refine g_iload_n d12_partAt_4 rfl ?_
      refine g_bipushv (nI 7) d12_partAt_5 rfl ?_
      refine g_ic_ge ((k : Nat) : Int) (7) 37 (nI_ti (by omega)) (by decide) d12_partAt_7 rfl (fun c7 => absurd c7 (by omega)) (fun _ => ?_)
      refine g_aload_n d12_partAt_10 rfl ?_
      refine g_aload_n d12_partAt_11 rfl ?_
      refine g_get fl12_59 d12_partAt_12 f_74_26 ?_
      refine g_iload_n d12_partAt_15 rfl ?_
      refine g_laldN (k) d12_partAt_16 a_85 (rfl) (by omega) (by decide) ?_
      refine g_topL (lN (lws true k)) ((hS.2.2.1.1 k (by omega)).1) ?_
      refine g_EV1 vm12_isWord ml12_252 c_74 (r12_isWord tp t f hS.1 hS.2.1 (lws true k) (by rcases (by omega : k = 0 ∨ k = 1 ∨ k = 2 ∨ k = 3 ∨ k = 4 ∨ k = 5 ∨ k = 6) with e | e | e | e | e | e | e <;> subst e <;> decide) (Nat.le_refl 0)) (by omega) (Nat.le_of_ble_eq_true rfl) d12_partAt_17 ?_
      refine g_bz 29 d12_partAt_20 rfl (fun _ => ?_) (fun c20 => absurd c20 (e))
      refine g_iload_n d12_partAt_29 rfl ?_
      refine g_istore_n d12_partAt_30 (by decide) ?_
      refine g_iincN d12_partAt_31 rfl (by decide) ?_
      refine g_goto 4 d12_partAt_34 rfl ?_
      refine g_lo [(0, .ref 74), (1, .int (ibI (wpa tp t f true (k + 1)))), (2, .int (nI (k + 1)))] ⟨rfl, by rw [show wpa tp t f true (k + 1) = wpa tp t f true k from if_neg e]; rfl, rfl, trivial⟩ ?_
      exact ih (k + 1) (by omega) (by omega)
set_option maxHeartbeats 200000 in
theorem r12_partAt {l : Launch} {K : cK} {d : Nat} {I : wI} {L : wL} {R : wR} {dy : cH} (tp : Nat → Nat) (t : Nat) (lw : Bool) (X : List (Nat × Nat)) (b pa br f : Nat) (hS : PSt I L tp t lw X b pa br f) (hd : 1 ≤ d) : CE l K m12_partAt d [.ref 74] (hp I L R dy) (.int (ibI (wpa tp t f true 7))) (hp I L R dy) := by
  refine CC.of ok12_partAt (Nat.le_of_ble_eq_true rfl) ?_
  refine g_iconstv ((-1 : Int32)) d12_partAt_0 rfl ?_
  refine g_istore_n d12_partAt_1 (by decide) ?_
  refine g_iconstv (nI 0) d12_partAt_2 rfl ?_
  refine g_istore_n d12_partAt_3 (by decide) ?_
  refine g_lo [(0, .ref 74), (1, .int (ibI (wpa tp t f true 0))), (2, .int (nI (0)))] ⟨rfl, rfl, rfl, trivial⟩ ?_
  refine r12_partAtL tp t lw X b pa br f hS (by omega) (fun _ => ?_) 7 0 (by omega) (by omega)
  refine g_iload_n d12_partAt_37 rfl ?_
  exact g_iret rfl d12_partAt_38 (⟨rfl, rfl⟩)
set_option maxHeartbeats 400000 in
theorem r12_orderPartAtL {l : Launch} {K : cK} {d : Nat} {I : wI} {L : wL} {R : wR} {dy : cH} {Q : Option Value → cH → Prop} (tp : Nat → Nat) (t : Nat) (lw : Bool) (X : List (Nat × Nat)) (b pa br f : Nat) (hS : PSt I L tp t lw X b pa br f) (hd : 1 ≤ d)
    (kk : (7 ≤ 7) → GL l K m12_orderPartAt d 0 0 37 [(0, .ref 74), (1, .int (ibI (wpa tp t f false (7))))] [] (hp I L R dy) Q) :
    ∀ (zn k : Nat) , k + zn = 7 → (k ≤ 7) → GL l K m12_orderPartAt d 0 0 4 [(0, .ref 74), (1, .int (ibI (wpa tp t f false (k)))), (2, .int (nI (k)))] [] (hp I L R dy) Q := by
  intro zn
  induction zn with
  | zero =>
    intro k  hin hk
    obtain rfl : 7 = k := by omega
    refine g_iload_n d12_orderPartAt_4 rfl ?_
    refine g_bipushv (nI 7) d12_orderPartAt_5 rfl ?_
    refine g_ic_ge ((7 : Nat) : Int) (7) 37 (nI_ti (by omega)) (by decide) d12_orderPartAt_7 rfl (fun _ => ?_) (fun c7 => absurd c7 (by omega))
    refine g_lo [(0, .ref 74), (1, .int (ibI (wpa tp t f false (7))))] ⟨rfl, rfl, trivial⟩ ?_
    exact kk  hk
  | succ zn ih =>
    intro k  hin hk
    by_cases e : iw tp t f (lws false k)
    · skip
      refine g_iload_n d12_orderPartAt_4 rfl ?_
      refine g_bipushv (nI 7) d12_orderPartAt_5 rfl ?_
      refine g_ic_ge ((k : Nat) : Int) (7) 37 (nI_ti (by omega)) (by decide) d12_orderPartAt_7 rfl (fun c7 => absurd c7 (by omega)) (fun _ => ?_)
      refine g_aload_n d12_orderPartAt_10 rfl ?_
      refine g_aload_n d12_orderPartAt_11 rfl ?_
      refine g_get fl12_71 d12_orderPartAt_12 f_74_27 ?_
      refine g_iload_n d12_orderPartAt_15 rfl ?_
      refine g_laldN (k) d12_orderPartAt_16 a_86 (rfl) (by omega) (by decide) ?_
      refine g_topL (lN (lws false k)) ((hS.2.2.1.1 k (by omega)).2) ?_
      refine g_EV1 vm12_isWord ml12_252 c_74 (r12_isWord tp t f hS.1 hS.2.1 (lws false k) (by rcases (by omega : k = 0 ∨ k = 1 ∨ k = 2 ∨ k = 3 ∨ k = 4 ∨ k = 5 ∨ k = 6) with e | e | e | e | e | e | e <;> subst e <;> decide) (Nat.le_refl 0)) (by omega) (Nat.le_of_ble_eq_true rfl) d12_orderPartAt_17 ?_
      refine g_bz 29 d12_orderPartAt_20 rfl (fun c20 => absurd (e) c20) (fun _ => ?_)
      refine g_iload_n d12_orderPartAt_23 rfl ?_
      refine g_iconstv (nI 1) d12_orderPartAt_24 rfl ?_
      refine g_iaddN d12_orderPartAt_25 ?_
      refine g_goto 30 d12_orderPartAt_26 rfl ?_
      refine g_istore_n d12_orderPartAt_30 (by decide) ?_
      refine g_iincN d12_orderPartAt_31 rfl (by decide) ?_
      refine g_goto 4 d12_orderPartAt_34 rfl ?_
      refine g_lo [(0, .ref 74), (1, .int (ibI (wpa tp t f false (k + 1)))), (2, .int (nI (k + 1)))] ⟨rfl, by rw [show wpa tp t f false (k + 1) = k + 1 from if_pos e]; rfl, rfl, trivial⟩ ?_
      exact ih (k + 1) (by omega) (by omega)
    · skip
      refine g_iload_n d12_orderPartAt_4 rfl ?_
      refine g_bipushv (nI 7) d12_orderPartAt_5 rfl ?_
      refine g_ic_ge ((k : Nat) : Int) (7) 37 (nI_ti (by omega)) (by decide) d12_orderPartAt_7 rfl (fun c7 => absurd c7 (by omega)) (fun _ => ?_)
      refine g_aload_n d12_orderPartAt_10 rfl ?_
      refine g_aload_n d12_orderPartAt_11 rfl ?_
      refine g_get fl12_71 d12_orderPartAt_12 f_74_27 ?_
      refine g_iload_n d12_orderPartAt_15 rfl ?_
      refine g_laldN (k) d12_orderPartAt_16 a_86 (rfl) (by omega) (by decide) ?_
      refine g_topL (lN (lws false k)) ((hS.2.2.1.1 k (by omega)).2) ?_
      refine g_EV1 vm12_isWord ml12_252 c_74 (r12_isWord tp t f hS.1 hS.2.1 (lws false k) (by rcases (by omega : k = 0 ∨ k = 1 ∨ k = 2 ∨ k = 3 ∨ k = 4 ∨ k = 5 ∨ k = 6) with e | e | e | e | e | e | e <;> subst e <;> decide) (Nat.le_refl 0)) (by omega) (Nat.le_of_ble_eq_true rfl) d12_orderPartAt_17 ?_
      refine g_bz 29 d12_orderPartAt_20 rfl (fun _ => ?_) (fun c20 => absurd c20 (e))
      refine g_iload_n d12_orderPartAt_29 rfl ?_
      refine g_istore_n d12_orderPartAt_30 (by decide) ?_
      refine g_iincN d12_orderPartAt_31 rfl (by decide) ?_
      refine g_goto 4 d12_orderPartAt_34 rfl ?_
      refine g_lo [(0, .ref 74), (1, .int (ibI (wpa tp t f false (k + 1)))), (2, .int (nI (k + 1)))] ⟨rfl, by rw [show wpa tp t f false (k + 1) = wpa tp t f false k from if_neg e]; rfl, rfl, trivial⟩ ?_
      exact ih (k + 1) (by omega) (by omega)
set_option maxHeartbeats 200000 in
theorem r12_orderPartAt {l : Launch} {K : cK} {d : Nat} {I : wI} {L : wL} {R : wR} {dy : cH} (tp : Nat → Nat) (t : Nat) (lw : Bool) (X : List (Nat × Nat)) (b pa br f : Nat) (hS : PSt I L tp t lw X b pa br f) (hd : 1 ≤ d) : CE l K m12_orderPartAt d [.ref 74] (hp I L R dy) (.int (ibI (wpa tp t f false 7))) (hp I L R dy) := by
  refine CC.of ok12_orderPartAt (Nat.le_of_ble_eq_true rfl) ?_
  refine g_iconstv ((-1 : Int32)) d12_orderPartAt_0 rfl ?_
  refine g_istore_n d12_orderPartAt_1 (by decide) ?_
  refine g_iconstv (nI 0) d12_orderPartAt_2 rfl ?_
  refine g_istore_n d12_orderPartAt_3 (by decide) ?_
  refine g_lo [(0, .ref 74), (1, .int (ibI (wpa tp t f false 0))), (2, .int (nI (0)))] ⟨rfl, rfl, rfl, trivial⟩ ?_
  refine r12_orderPartAtL tp t lw X b pa br f hS (by omega) (fun _ => ?_) 7 0 (by omega) (by omega)
  refine g_iload_n d12_orderPartAt_37 rfl ?_
  exact g_iret rfl d12_orderPartAt_38 (⟨rfl, rfl⟩)
theorem wpa_le (tp : Nat → Nat) (t f : Nat) (lw : Bool) : ∀ k, wpa tp t f lw k ≤ k
  | 0 => Nat.le_refl _
  | k + 1 => by
    have := wpa_le tp t f lw k
    by_cases e : iw tp t f (lws lw k)
    · rw [show wpa tp t f lw (k + 1) = k + 1 from if_pos e]; exact Nat.le_refl _
    · rw [show wpa tp t f lw (k + 1) = wpa tp t f lw k from if_neg e]; omega
set_option maxHeartbeats 400000 in
theorem r12_open_ok {l : Launch} {K : cK} {d : Nat} {I : wI} {L : wL} {R : wR} {dy : cH} (tp : Nat → Nat) (t : Nat) (lw : Bool) (X : List (Nat × Nat)) (b pa br f : Nat) (hS : PSt I L tp t lw X b pa br f) (hB : b + X.length ≤ f) (o : Nat) (ho : o = 31 ∨ o = 32) (hk0 : kd tp t f ≠ 0) (hbr : br < 8) (hd : 3 ≤ d) : CW l K m12_openBracket d [.ref 74, .int (nI o)] (hp I L R dy) (α := wI × wL) (fun x => PSt x.1 x.2 tp t lw (X ++ [(o, 0)]) b pa (br + 1) (nxt tp t f) ∧ FP I L x.1 x.2 ∧ ∀ q, x.1 81 q = I 81 q ∧ x.1 82 q = I 82 q) (fun x => hp x.1 x.2 R dy) := by
  obtain ⟨g1, g2, g3, g4, g5, g6, g7, g8, g9, g10⟩ := id hS
  have hnx := nxt_le (tp := tp) g2.1
  have ht4 := g1.1
  have hft := g2.1
  have hte := (tE_le (tp := tp) g2.1).1
  refine CC.of ok12_openBracket (Nat.le_of_ble_eq_true rfl) ?_
  refine g_aload_n d12_openBracket_0 rfl ?_
  refine g_aload_n d12_openBracket_1 rfl ?_
  refine g_get fl12_256 d12_openBracket_2 f_74_25 ?_
  refine g_topI (nI (br)) (g9) ?_
  refine g_bipushv (nI 8) d12_openBracket_5 rfl ?_
  refine g_ic_ge ((br : Nat) : Int) (8) 14 (nI_ti (by omega)) (by decide) d12_openBracket_7 rfl (fun c7 => absurd c7 (by omega)) (fun _ => ?_)
  refine g_iconstv (nI 1) d12_openBracket_10 rfl ?_
  refine g_goto 15 d12_openBracket_11 rfl ?_
  refine g_WV1 vm12_must ml12_227 c_74 (r12_must_ok tp t f hS.1 hS.2.1 hS.2.2.2.1 (Nat.le_refl 2)) (by omega) (Nat.le_of_ble_eq_true rfl) d12_openBracket_15 (fun x hx => ?_)
  obtain ⟨I2, L2⟩ := x
  obtain ⟨hF, hK⟩ := hx
  dsimp only at hF hK ⊢
  have hS2 := hS.nx hF hK
  obtain ⟨z1, z2, z3, z4, z5, z6, z7, z8, z9, z10⟩ := id hS2
  refine g_aload_n d12_openBracket_18 rfl ?_
  refine g_get fl12_192 d12_openBracket_19 f_74_14 ?_
  refine g_topI ((0 : Int32)) (z4) ?_
  refine g_iz_ne (0) 41 (by decide) d12_openBracket_22 rfl (fun c22 => absurd c22 (by decide)) (fun _ => ?_)
  refine g_aload_n d12_openBracket_25 rfl ?_
  refine g_dup d12_openBracket_26 rfl ?_
  refine g_get fl12_256 d12_openBracket_27 f_74_25 ?_
  refine g_topI (nI (br)) (z9) ?_
  refine g_iconstv (nI 1) d12_openBracket_30 rfl ?_
  refine g_iaddN d12_openBracket_31 ?_
  refine g_putIh _ fl12_256 d12_openBracket_32 f_74_25 s_74_25 ?_
  refine g_aload_n d12_openBracket_35 rfl ?_
  refine g_iload_n d12_openBracket_36 rfl ?_
  refine g_iconstv (nI 0) d12_openBracket_37 rfl ?_
  refine g_VV2 vm12_push ml12_259 c_74 (r12_push (I := uI I2 74 25 (nI (br + 1))) X.length (by exact z8) (by have := hnx.2.2 hk0; omega) (nI o) (nI 0) (Nat.le_refl 0)) (by omega) (Nat.le_of_ble_eq_true rfl) d12_openBracket_38 ?_
  exact g_vret rfl d12_openBracket_41 (⟨(uI (uI (uI (uI I2 74 25 (nI (br + 1))) 83 X.length (nI o)) 84 X.length (nI 0)) 74 24 (nI (X.length + 1)), L2), ⟨(hS2.br (br2 := br + 1)).ps (by omega) (by omega) (by omega), ((hF.up (by decide) (by decide) (by decide) (by decide)).uf (by decide)).ui (by decide) (by decide) |>.ui (by decide) (by decide) |>.uf (by decide), fun q => ⟨congrFun (hF.1 81 (by decide) (by decide)) q, congrFun (hF.1 82 (by decide) (by decide)) q⟩⟩, rfl, rfl⟩)
set_option maxHeartbeats 200000 in
theorem r12_open_no {l : Launch} {K : cK} {d : Nat} {I : wI} {L : wL} {R : wR} {dy : cH} (tp : Nat → Nat) (t : Nat) (lw : Bool) (X : List (Nat × Nat)) (b pa br f : Nat) (hS : PSt I L tp t lw X b pa br f) (hB : b + X.length ≤ f) (o : Nat) (hbr : ¬ br < 8) (hb8 : br ≤ 8) (hd : 3 ≤ d) : CW l K m12_openBracket d [.ref 74, .int (nI o)] (hp I L R dy) (α := wI × wL) (BSt I L f) (fun x => hp x.1 x.2 R dy) := by
  obtain ⟨g1, g2, g3, g4, g5, g6, g7, g8, g9, g10⟩ := id hS
  have hnx := nxt_le (tp := tp) g2.1
  have ht4 := g1.1
  have hft := g2.1
  have hte := (tE_le (tp := tp) g2.1).1
  refine CC.of ok12_openBracket (Nat.le_of_ble_eq_true rfl) ?_
  refine g_aload_n d12_openBracket_0 rfl ?_
  refine g_aload_n d12_openBracket_1 rfl ?_
  refine g_get fl12_256 d12_openBracket_2 f_74_25 ?_
  refine g_topI (nI (br)) (g9) ?_
  refine g_bipushv (nI 8) d12_openBracket_5 rfl ?_
  refine g_ic_ge ((br : Nat) : Int) (8) 14 (nI_ti (by omega)) (by decide) d12_openBracket_7 rfl (fun _ => ?_) (fun c7 => absurd c7 (by omega))
  refine g_iconstv (nI 0) d12_openBracket_14 rfl ?_
  refine g_VV1 vm12_must ml12_227 c_74 (r12_must_no tp t f hS.1 hS.2.1 hS.2.2.2.1 (Nat.le_refl 2)) (by omega) (Nat.le_of_ble_eq_true rfl) d12_openBracket_15 ?_
  refine g_aload_n d12_openBracket_18 rfl ?_
  refine g_get fl12_192 d12_openBracket_19 f_74_14 ?_
  refine g_topI ((1 : Int32)) (rfl) ?_
  refine g_iz_ne (1) 41 (by decide) d12_openBracket_22 rfl (fun _ => ?_) (fun c22 => absurd c22 (by decide))
  exact g_vret rfl d12_openBracket_41 (⟨(uI (uI I 74 14 1) 74 13 (nI f), L), ⟨rfl, rfl, (FR.rf.uf (by decide)).uf (by decide), X.length, b, g8, g6, by omega, fun q hq => PQ.pv g10 q hq⟩, rfl, rfl⟩)
set_option maxHeartbeats 400000 in
theorem r12_leaf_ok {l : Launch} {K : cK} {d : Nat} {I : wI} {L : wL} {R : wR} {dy : cH} (tp : Nat → Nat) (t : Nat) (lw : Bool) (X : List (Nat × Nat)) (b pa br f : Nat) (hS : PSt I L tp t lw X b pa br f) (hB : b + X.length ≤ f) (hk0 : kd tp t f ≠ 0) (o g : Nat) (ho : o ≤ 30) (hg : g < 2147483648) (hpa : pa < 50) (hd : 3 ≤ d) : CW l K m12_leaf d [.ref 74, .int (nI 1), .int (nI o), .int (nI g)] (hp I L R dy) (α := wI × wL) (fun x => PSt x.1 x.2 tp t lw X (b + 1) (pa + 1) br (nxt tp t f) ∧ FP I L x.1 x.2 ∧ (∀ q, q ≠ b → x.1 81 q = I 81 q ∧ x.1 82 q = I 82 q) ∧ x.1 81 b = nI o ∧ x.1 82 b = nI g) (fun x => hp x.1 x.2 R dy) := by
  obtain ⟨g1, g2, g3, g4, g5, g6, g7, g8, g9, g10⟩ := id hS
  have hnx := nxt_le (tp := tp) g2.1
  have ht4 := g1.1
  have hft := g2.1
  have hte := (tE_le (tp := tp) g2.1).1
  refine CC.of ok12_leaf (Nat.le_of_ble_eq_true rfl) ?_
  refine g_aload_n d12_leaf_0 rfl ?_
  refine g_iload_n d12_leaf_1 rfl ?_
  refine g_iz_eq (1) 18 (by decide) d12_leaf_2 rfl (fun c2 => absurd c2 (by decide)) (fun _ => ?_)
  refine g_aload_n d12_leaf_5 rfl ?_
  refine g_get fl12_262 d12_leaf_6 f_74_21 ?_
  refine g_topI (nI (pa)) (g7) ?_
  refine g_bipushv (nI 50) d12_leaf_9 rfl ?_
  refine g_ic_ge ((pa : Nat) : Int) (50) 18 (nI_ti (by omega)) (by decide) d12_leaf_11 rfl (fun c11 => absurd c11 (by omega)) (fun _ => ?_)
  refine g_iconstv (nI 1) d12_leaf_14 rfl ?_
  refine g_goto 19 d12_leaf_15 rfl ?_
  refine g_WV1 vm12_must ml12_227 c_74 (r12_must_ok tp t f hS.1 hS.2.1 hS.2.2.2.1 (Nat.le_refl 2)) (by omega) (Nat.le_of_ble_eq_true rfl) d12_leaf_19 (fun x hx => ?_)
  obtain ⟨I2, L2⟩ := x
  obtain ⟨hF, hK⟩ := hx
  dsimp only at hF hK ⊢
  have hS2 := hS.nx hF hK
  obtain ⟨z1, z2, z3, z4, z5, z6, z7, z8, z9, z10⟩ := id hS2
  refine g_aload_n d12_leaf_22 rfl ?_
  refine g_get fl12_192 d12_leaf_23 f_74_14 ?_
  refine g_topI ((0 : Int32)) (z4) ?_
  refine g_iz_ne (0) 45 (by decide) d12_leaf_26 rfl (fun c26 => absurd c26 (by decide)) (fun _ => ?_)
  refine g_aload_n d12_leaf_29 rfl ?_
  refine g_iload_n d12_leaf_30 rfl ?_
  refine g_iload_n d12_leaf_31 rfl ?_
  refine g_VV2 vm12_emit ml12_240 c_74 (r12_emit (I := I2) b (by exact z6) (by have := hnx.2.2 hk0; omega) (nI o) (nI g) (Nat.le_refl 0)) (by omega) (Nat.le_of_ble_eq_true rfl) d12_leaf_32 ?_
  refine g_aload_n d12_leaf_35 rfl ?_
  refine g_dup d12_leaf_36 rfl ?_
  refine g_get fl12_262 d12_leaf_37 f_74_21 ?_
  refine g_topI (nI (pa)) (z7) ?_
  refine g_iconstv (nI 1) d12_leaf_40 rfl ?_
  refine g_iaddN d12_leaf_41 ?_
  refine g_putIh _ fl12_262 d12_leaf_42 f_74_21 s_74_21 ?_
  refine g_vret rfl d12_leaf_45 (⟨(uI (uI (uI (uI I2 81 b (nI o)) 82 b (nI g)) 74 18 (nI (b + 1))) 74 21 (nI (pa + 1)), L2), ⟨(hS2.em (o := o) (g := g) ho hg).lf, ((((hF.up (by decide) (by decide) (by decide) (by decide)).ui (by decide) (by decide)).ui (by decide) (by decide)).uf (by decide)).uf (by decide), fun q hq => ⟨?_, ?_⟩, ?_, ?_⟩, rfl, rfl⟩)
  · show uI (uI (uI (uI I2 81 b (nI o)) 82 b (nI g)) 74 18 (nI (b + 1))) 74 21 (nI (pa + 1)) 81 q = _
    rw [uI_n (by decide), uI_n (by decide), uI_n (by decide), uI_sn hq]; exact congrFun (hF.1 81 (by decide) (by decide)) q
  · show uI (uI (uI (uI I2 81 b (nI o)) 82 b (nI g)) 74 18 (nI (b + 1))) 74 21 (nI (pa + 1)) 82 q = _
    rw [uI_n (by decide), uI_n (by decide), uI_sn hq, uI_n (by decide)]; exact congrFun (hF.1 82 (by decide) (by decide)) q
  · show uI (uI (uI (uI I2 81 b (nI o)) 82 b (nI g)) 74 18 (nI (b + 1))) 74 21 (nI (pa + 1)) 81 b = _
    rw [uI_n (by decide), uI_n (by decide), uI_n (by decide), uI_ss]
  · show uI (uI (uI (uI I2 81 b (nI o)) 82 b (nI g)) 74 18 (nI (b + 1))) 74 21 (nI (pa + 1)) 82 b = _
    rw [uI_n (by decide), uI_n (by decide), uI_ss]
set_option maxHeartbeats 200000 in
theorem r12_leaf_no0 {l : Launch} {K : cK} {d : Nat} {I : wI} {L : wL} {R : wR} {dy : cH} (tp : Nat → Nat) (t : Nat) (lw : Bool) (X : List (Nat × Nat)) (b pa br f : Nat) (hS : PSt I L tp t lw X b pa br f) (hB : b + X.length ≤ f) (o g : Int32) (hd : 3 ≤ d) : CW l K m12_leaf d [.ref 74, .int (nI 0), .int o, .int g] (hp I L R dy) (α := wI × wL) (BSt I L f) (fun x => hp x.1 x.2 R dy) := by
  obtain ⟨g1, g2, g3, g4, g5, g6, g7, g8, g9, g10⟩ := id hS
  have hnx := nxt_le (tp := tp) g2.1
  have ht4 := g1.1
  have hft := g2.1
  have hte := (tE_le (tp := tp) g2.1).1
  refine CC.of ok12_leaf (Nat.le_of_ble_eq_true rfl) ?_
  refine g_aload_n d12_leaf_0 rfl ?_
  refine g_iload_n d12_leaf_1 rfl ?_
  refine g_iz_eq (0) 18 (by decide) d12_leaf_2 rfl (fun _ => ?_) (fun c2 => absurd c2 (by decide))
  refine g_iconstv (nI 0) d12_leaf_18 rfl ?_
  refine g_VV1 vm12_must ml12_227 c_74 (r12_must_no tp t f hS.1 hS.2.1 hS.2.2.2.1 (Nat.le_refl 2)) (by omega) (Nat.le_of_ble_eq_true rfl) d12_leaf_19 ?_
  refine g_aload_n d12_leaf_22 rfl ?_
  refine g_get fl12_192 d12_leaf_23 f_74_14 ?_
  refine g_topI ((1 : Int32)) (rfl) ?_
  refine g_iz_ne (1) 45 (by decide) d12_leaf_26 rfl (fun _ => ?_) (fun c26 => absurd c26 (by decide))
  exact g_vret rfl d12_leaf_45 (⟨(uI (uI I 74 14 1) 74 13 (nI f), L), ⟨rfl, rfl, (FR.rf.uf (by decide)).uf (by decide), X.length, b, g8, g6, by omega, fun q hq => PQ.pv g10 q hq⟩, rfl, rfl⟩)
set_option maxHeartbeats 200000 in
theorem r12_leaf_no1 {l : Launch} {K : cK} {d : Nat} {I : wI} {L : wL} {R : wR} {dy : cH} (tp : Nat → Nat) (t : Nat) (lw : Bool) (X : List (Nat × Nat)) (b pa br f : Nat) (hS : PSt I L tp t lw X b pa br f) (hB : b + X.length ≤ f) (o g : Int32) (hpa : ¬ pa < 50) (hp5 : pa ≤ 50) (hd : 3 ≤ d) : CW l K m12_leaf d [.ref 74, .int (nI 1), .int o, .int g] (hp I L R dy) (α := wI × wL) (BSt I L f) (fun x => hp x.1 x.2 R dy) := by
  obtain ⟨g1, g2, g3, g4, g5, g6, g7, g8, g9, g10⟩ := id hS
  have hnx := nxt_le (tp := tp) g2.1
  have ht4 := g1.1
  have hft := g2.1
  have hte := (tE_le (tp := tp) g2.1).1
  refine CC.of ok12_leaf (Nat.le_of_ble_eq_true rfl) ?_
  refine g_aload_n d12_leaf_0 rfl ?_
  refine g_iload_n d12_leaf_1 rfl ?_
  refine g_iz_eq (1) 18 (by decide) d12_leaf_2 rfl (fun c2 => absurd c2 (by decide)) (fun _ => ?_)
  refine g_aload_n d12_leaf_5 rfl ?_
  refine g_get fl12_262 d12_leaf_6 f_74_21 ?_
  refine g_topI (nI (pa)) (g7) ?_
  refine g_bipushv (nI 50) d12_leaf_9 rfl ?_
  refine g_ic_ge ((pa : Nat) : Int) (50) 18 (nI_ti (by omega)) (by decide) d12_leaf_11 rfl (fun _ => ?_) (fun c11 => absurd c11 (by omega))
  refine g_iconstv (nI 0) d12_leaf_18 rfl ?_
  refine g_VV1 vm12_must ml12_227 c_74 (r12_must_no tp t f hS.1 hS.2.1 hS.2.2.2.1 (Nat.le_refl 2)) (by omega) (Nat.le_of_ble_eq_true rfl) d12_leaf_19 ?_
  refine g_aload_n d12_leaf_22 rfl ?_
  refine g_get fl12_192 d12_leaf_23 f_74_14 ?_
  refine g_topI ((1 : Int32)) (rfl) ?_
  refine g_iz_ne (1) 45 (by decide) d12_leaf_26 rfl (fun _ => ?_) (fun c26 => absurd c26 (by decide))
  exact g_vret rfl d12_leaf_45 (⟨(uI (uI I 74 14 1) 74 13 (nI f), L), ⟨rfl, rfl, (FR.rf.uf (by decide)).uf (by decide), X.length, b, g8, g6, by omega, fun q hq => PQ.pv g10 q hq⟩, rfl, rfl⟩)
