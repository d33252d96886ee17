theorem fa_mono (v w : Nat → Nat) (N : Nat) (h : ∀ n, n ≤ N → v n ≤ w n) : (fa v N).1 ≤ (fa w N).1 := by
  have h1 := (fa_at w N).1
  have h2 := (fa_le w N).2.1
  have h3 := (fa_at v N).2 _ h2
  have h4 := h _ h2
  omega
theorem fa_cg (v w : Nat → Nat) : ∀ N, (∀ n, n ≤ N → v n = w n) → fa v N = fa w N
  | 0, h => by show (v 0, 0, 1) = (w 0, 0, 1); rw [h 0 (Nat.le_refl _)]
  | N + 1, h => by
    have ih := fa_cg v w N (fun n hn => h n (by omega))
    show (if v (N + 1) < (fa v N).1 then (v (N + 1), N + 1, 1) else if v (N + 1) = (fa v N).1 then ((fa v N).1, (fa v N).2.1, (fa v N).2.2 + 1) else fa v N) = _
    rw [ih, h (N + 1) (Nat.le_refl _)]; rfl
theorem fa_sc (v : Nat → Nat) (E : Nat) (hE : 0 < E) : ∀ N, (fa (fun n => E * v n) N).1 = E * (fa v N).1 ∧ (fa (fun n => E * v n) N).2.1 = (fa v N).2.1
  | 0 => ⟨rfl, rfl⟩
  | N + 1 => by
    obtain ⟨h1, h2⟩ := fa_sc v E hE N
    have hlt : E * v (N + 1) < E * (fa v N).1 ↔ v (N + 1) < (fa v N).1 := Nat.mul_lt_mul_left hE
    have heq : E * v (N + 1) = E * (fa v N).1 ↔ v (N + 1) = (fa v N).1 := Nat.mul_left_cancel_iff hE
    have e1 : fa (fun n => E * v n) (N + 1) = if E * v (N + 1) < (fa (fun n => E * v n) N).1 then (E * v (N + 1), N + 1, 1) else if E * v (N + 1) = (fa (fun n => E * v n) N).1 then ((fa (fun n => E * v n) N).1, (fa (fun n => E * v n) N).2.1, (fa (fun n => E * v n) N).2.2 + 1) else fa (fun n => E * v n) N := rfl
    have e2 : fa v (N + 1) = if v (N + 1) < (fa v N).1 then (v (N + 1), N + 1, 1) else if v (N + 1) = (fa v N).1 then ((fa v N).1, (fa v N).2.1, (fa v N).2.2 + 1) else fa v N := rfl
    rw [e1, e2, h1]
    by_cases a : v (N + 1) < (fa v N).1
    · rw [if_pos a, if_pos (hlt.2 a)]; exact ⟨rfl, rfl⟩
    · rw [if_neg a, if_neg (fun z => a (hlt.1 z))]
      by_cases b : v (N + 1) = (fa v N).1
      · rw [if_pos b, if_pos (heq.2 b)]; exact ⟨rfl, h2⟩
      · rw [if_neg b, if_neg (fun z => b (heq.1 z))]; exact ⟨h1, h2⟩
theorem les_0 : les 0 = 0 := rfl
theorem les_mono {a b : Nat} (h : a ≤ b) : les a ≤ les b := by unfold les; omega
theorem pdb_mono2 {per a b n : Nat} (h : a ≤ b) : pdb per a n ≤ pdb per b n := by unfold pdb; omega
theorem rD_zero (coin per fr ti fl : Nat) (wn : Bool) (cm fn : Nat → Nat → Nat) (sb : Nat → Nat → Bool) : ∀ m k left, m ≤ 12 → m ≤ left → rD coin per fr ti fl wn cm fn sb m k left = 0
  | 0, _, _, _, _ => rfl
  | m + 1, k, left, h1, h2 => by
    show (fa _ 12).1 = 0
    refine fa_zero _ ?_ 12
    have e : pdb per left 0 = min 12 left := by unfold pdb; rw [Nat.zero_mul]; rfl
    unfold rc1 ifc
    rw [e, if_pos (Or.inl (by omega)), rD_zero coin per fr ti fl wn cm fn sb m _ _ (by omega) (by unfold les; omega), rD_zero coin per fr ti fl wn cm fn sb m _ _ (by omega) (by unfold les; omega)]
    unfold prc
    simp
/-- if he comes: the less, the more is paid -/
theorem ifc_mono {coin per fl : Nat} {wn : Bool} {w f : Nat} {sb : Bool} {nx : Nat → Nat} (h1 : ∀ a b, a ≤ b → nx b ≤ nx a) (h2 : nx 0 ≤ w * (coin + fl) + nx (les per)) {p q : Nat} (h : p ≤ q) : ifc coin per fl wn w f sb nx q ≤ ifc coin per fl wn w f sb nx p := by
  unfold ifc
  by_cases a : 0 < p ∨ sb = true
  · rw [if_pos a, if_pos (a.imp (fun z => by omega) id)]
    exact h1 _ _ (les_mono h)
  · rw [if_neg a]
    by_cases b : 0 < q ∨ sb = true
    · rw [if_pos b]
      have := h1 0 (les q) (Nat.zero_le _)
      split <;> omega
    · rw [if_neg b]; exact Nat.le_refl _
theorem nx_ifc {coin per fl : Nat} {wn : Bool} {w f : Nat} {sb : Bool} {nx : Nat → Nat} (h1 : ∀ a b, a ≤ b → nx b ≤ nx a) (h2 : nx 0 ≤ w * (coin + fl) + nx (les per)) {p q : Nat} (h : p ≤ q) : nx (les q) ≤ ifc coin per fl wn w f sb nx p := by
  unfold ifc
  by_cases a : 0 < p ∨ sb = true
  · rw [if_pos a]; exact h1 _ _ (les_mono h)
  · rw [if_neg a]
    have := h1 0 (les q) (Nat.zero_le _)
    split <;> omega
theorem pdb_one {per n : Nat} (hp : 1 ≤ per) (hn : n ≤ 12) : pdb per (les per) n ≤ pdb per 0 (min 12 (n + 1)) ∧ 0 < pdb per 0 (min 12 (n + 1)) := by
  unfold pdb les
  by_cases h : n = 12
  · subst h
    have : 12 ≤ 12 * per := Nat.le_mul_of_pos_right 12 hp
    rw [show min 12 (12 + 1) = 12 by omega]; omega
  · rw [show min 12 (n + 1) = n + 1 by omega, Nat.succ_mul]; omega
theorem rD_V (coin per fr ti fl : Nat) (wn : Bool) (cm fn : Nat → Nat → Nat) (sb : Nat → Nat → Bool) (hp : 1 ≤ per) : ∀ m, (∀ k a b, a ≤ b → rD coin per fr ti fl wn cm fn sb m k b ≤ rD coin per fr ti fl wn cm fn sb m k a) ∧ ∀ k, rD coin per fr ti fl wn cm fn sb m k 0 ≤ 10 ^ m * (coin + fl) + rD coin per fr ti fl wn cm fn sb m k (les per)
  | 0 => ⟨fun _ _ _ _ => Nat.le_refl _, fun _ => Nat.zero_le _⟩
  | m + 1 => by
    obtain ⟨i1, i2⟩ := rD_V coin per fr ti fl wn cm fn sb hp m
    refine ⟨fun k a b hab => ?_, fun k => ?_⟩
    · show (fa _ 12).1 ≤ (fa _ 12).1
      refine fa_mono _ _ 12 (fun n _ => ?_)
      have hpd := pdb_mono2 (per := per) (n := n) hab
      unfold rc1
      have e1 := ifc_mono (coin := coin) (per := per) (fl := fl) (wn := wn) (w := 10 ^ m) (f := fn (ti - m) k) (sb := sb (ti - m) k) (i1 1) (i2 1) hpd
      have e2 := i1 (lat k) _ _ (les_mono hpd)
      have e3 := Nat.mul_le_mul_left (cm (ti - m) k) e1
      have e4 := Nat.mul_le_mul_left (10 - cm (ti - m) k) e2
      omega
    · have hj := (fa_at (rc1 coin per fr fl wn (10 ^ m) (cm (ti - m) k) (fn (ti - m) k) (sb (ti - m) k) (rD coin per fr ti fl wn cm fn sb m) (ti - m) k (les per)) 12).1
      have hj2 := (fa_le (rc1 coin per fr fl wn (10 ^ m) (cm (ti - m) k) (fn (ti - m) k) (sb (ti - m) k) (rD coin per fr ti fl wn cm fn sb m) (ti - m) k (les per)) 12).2.1
      show (fa _ 12).1 ≤ 10 ^ (m + 1) * (coin + fl) + (fa _ 12).1
      rw [← hj]
      generalize (fa (rc1 coin per fr fl wn (10 ^ m) (cm (ti - m) k) (fn (ti - m) k) (sb (ti - m) k) (rD coin per fr ti fl wn cm fn sb m) (ti - m) k (les per)) 12).2.1 = n at hj2 ⊢
      have h0 := (fa_at (rc1 coin per fr fl wn (10 ^ m) (cm (ti - m) k) (fn (ti - m) k) (sb (ti - m) k) (rD coin per fr ti fl wn cm fn sb m) (ti - m) k 0) 12).2 (min 12 (n + 1)) (by omega)
      refine Nat.le_trans h0 ?_
      obtain ⟨p1, p2⟩ := pdb_one hp hj2
      unfold rc1
      have e1 := nx_ifc (coin := coin) (per := per) (fl := fl) (wn := wn) (w := 10 ^ m) (f := fn (ti - m) k) (sb := sb (ti - m) k) (i1 1) (i2 1) p1
      have e0 : ifc coin per fl wn (10 ^ m) (fn (ti - m) k) (sb (ti - m) k) (rD coin per fr ti fl wn cm fn sb m 1) (pdb per 0 (min 12 (n + 1))) = rD coin per fr ti fl wn cm fn sb m 1 (les (pdb per 0 (min 12 (n + 1)))) := by unfold ifc; rw [if_pos (Or.inl p2)]
      have e2 := i1 (lat k) _ _ (les_mono p1)
      have e3 := Nat.mul_le_mul_left (cm (ti - m) k) e1
      have e4 := Nat.mul_le_mul_left (10 - cm (ti - m) k) e2
      have hc : min 12 (n + 1) * coin ≤ n * coin + coin := by rw [← Nat.succ_mul]; exact Nat.mul_le_mul_right coin (by omega)
      have e5 : prc coin fr fl (ti - m) (min 12 (n + 1)) ≤ (coin + fl) + prc coin fr fl (ti - m) n := by
        unfold prc
        split <;> omega
      have e6 := Nat.mul_le_mul_left (10 * 10 ^ m) e5
      rw [Nat.mul_add] at e6
      rw [e0, Nat.pow_succ, Nat.mul_comm (10 ^ m) 10]
      omega
/-- more coins than to the end: none of them is better -/
theorem rc1_stop (coin per fr ti fl : Nat) (wn : Bool) (cm fn : Nat → Nat → Nat) (sb : Nat → Nat → Bool) {w c f : Nat} {b : Bool} {m s k left n : Nat} (hw : 0 < w) (hc : 1 ≤ coin) (hm : m ≤ 11) (hn : n ≤ 12) (h : m < pdb per left n) : fa (rc1 coin per fr fl wn w c f b (rD coin per fr ti fl wn cm fn sb m) s k left) 12 = fa (rc1 coin per fr fl wn w c f b (rD coin per fr ti fl wn cm fn sb m) s k left) n := by
  have hv : ∀ q, n ≤ q → rc1 coin per fr fl wn w c f b (rD coin per fr ti fl wn cm fn sb m) s k left q = 10 * w * prc coin fr fl s q := fun q hq => by
    have := pdb_mono (per := per) (left := left) hq
    unfold rc1 ifc
    rw [if_pos (Or.inl (by omega)), rD_zero coin per fr ti fl wn cm fn sb m _ _ (by omega) (by unfold les; omega), rD_zero coin per fr ti fl wn cm fn sb m _ _ (by omega) (by unfold les; omega)]; simp
  have z := fa_stop (rc1 coin per fr fl wn w c f b (rD coin per fr ti fl wn cm fn sb m) s k left) n (12 - n) (fun q a b' => by
    have h1 := (fa_at (rc1 coin per fr fl wn w c f b (rD coin per fr ti fl wn cm fn sb m) s k left) n).2 n (Nat.le_refl _)
    have h2 := prc_lt (fr := fr) (fl := fl) (s := s) a hc
    rw [hv n (Nat.le_refl _)] at h1
    rw [hv q (by omega)]
    refine Nat.lt_of_le_of_lt h1 ?_
    exact Nat.mul_lt_mul_of_pos_left h2 (by omega))
  rw [show n + (12 - n) = 12 by omega] at z
  exact z
/-- what is spared is fined nothing: the class's way -/
def fnK (cm fn : Nat → Nat → Nat) (s k : Nat) : Nat := if cm s k = 0 then 0 else fn s k
def nSb : Nat → Nat → Bool := fun _ _ => false
theorem ifc_K {coin per fl : Nat} {wn : Bool} {w f : Nat} {nx : Nat → Nat} (h2 : nx 0 ≤ w * (coin + fl) + nx (les per)) {p : Nat} : ifc coin per fl wn w 0 false nx p = ifc coin per fl wn w f true nx p := by
  unfold ifc
  rw [if_pos (Or.inr rfl : 0 < p ∨ true = true)]
  by_cases a : 0 < p ∨ false = true
  · rw [if_pos a]
  · have p0 : p = 0 := by
      rcases Nat.eq_zero_or_pos p with z | z
      · exact z
      · exact absurd (Or.inl z) a
    subst p0
    rw [if_neg a, if_neg (by omega), Nat.mul_zero, Nat.zero_add]; rfl
theorem rc1_K (coin per fr ti fl : Nat) (wn : Bool) (cm fn : Nat → Nat → Nat) (sb : Nat → Nat → Bool) (hsb : ∀ s k, sb s k = true → fn s k = 0) (w : Nat) (nx : Nat → Nat → Nat) (h2 : nx 1 0 ≤ w * (coin + fl) + nx 1 (les per)) (s k left n : Nat) : rc1 coin per fr fl wn w (cm s k) (fnK cm fn s k) (nSb s k) nx s k left n = rc1 coin per fr fl wn w (cm s k) (fn s k) (sb s k) nx s k left n := by
  show rc1 coin per fr fl wn w (cm s k) (fnK cm fn s k) false nx s k left n = _
  unfold rc1 fnK
  by_cases h0 : cm s k = 0
  · rw [h0]; simp
  · rw [if_neg h0]
    cases hs : sb s k with
    | false => rfl
    | true => rw [hsb s k hs, ifc_K (f := 0) h2]
theorem rD_K (coin per fr ti fl : Nat) (wn : Bool) (cm fn : Nat → Nat → Nat) (sb : Nat → Nat → Bool) (hp : 1 ≤ per) (hsb : ∀ s k, sb s k = true → fn s k = 0) : ∀ m, rD coin per fr ti fl wn cm (fnK cm fn) nSb m = rD coin per fr ti fl wn cm fn sb m
  | 0 => rfl
  | m + 1 => by
    have ih := rD_K coin per fr ti fl wn cm fn sb hp hsb m
    funext k left
    show (fa _ 12).1 = (fa _ 12).1
    rw [ih, fa_cg _ _ 12 (fun n _ => rc1_K coin per fr ti fl wn cm fn sb hsb (10 ^ m) (rD coin per fr ti fl wn cm fn sb m) ((rD_V coin per fr ti fl wn cm fn sb hp m).2 1) (ti - m) k left n)]
theorem rB_K (coin per fr ti fl : Nat) (wn : Bool) (cm fn : Nat → Nat → Nat) (sb : Nat → Nat → Bool) (hp : 1 ≤ per) (hsb : ∀ s k, sb s k = true → fn s k = 0) (m k left : Nat) : rB2 coin per fr ti fl wn cm (fnK cm fn) nSb m k left = rB2 coin per fr ti fl wn cm fn sb m k left := by
  unfold rB2
  rw [rD_K coin per fr ti fl wn cm fn sb hp hsb m]
  rw [fa_cg _ _ 12 (fun n _ => rc1_K coin per fr ti fl wn cm fn sb hsb (10 ^ m) (rD coin per fr ti fl wn cm fn sb m) ((rD_V coin per fr ti fl wn cm fn sb hp m).2 1) (ti - m) k left n)]
theorem fnK_le {cm fn : Nat → Nat → Nat} (h : ∀ s k, fn s k ≤ 99) (s k : Nat) : fnK cm fn s k ≤ 99 := by unfold fnK; split; omega; exact h s k
