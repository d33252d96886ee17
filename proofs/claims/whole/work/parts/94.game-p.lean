/-- a set's product, upper and lower -/
def gsP (wi : Nat → Nat) (S : Nat → Bool) : Nat → Nat
  | 0 => 1
  | p + 1 => gsP wi S p * (if S p = true then wi p else 1)
def cup (lo wi : Nat → Nat) (S : Nat → Bool) (a : Nat) : Nat → Nat
  | 0 => a
  | p + 1 => cup lo wi S a p + (if S p = true then a / wi p * lo p else 0)
def cdn (wi : Nat → Nat) (S : Nat → Bool) (a : Nat) : Nat → Nat
  | 0 => 0
  | p + 1 => cdn wi S a p + (if S p = true then a / wi p else 0)
def gsU (lo wi : Nat → Nat) (n : Nat) (S : Nat → Bool) : Nat := cup lo wi S (gsP wi S n) n
def gsD (wi : Nat → Nat) (n : Nat) (S : Nat → Bool) : Nat := cdn wi S (gsP wi S n) n
theorem gsP_le {wi : Nat → Nat} {S : Nat → Bool} {n : Nat} (h : ∀ p, p < n → 1 ≤ wi p ∧ wi p ≤ 99) : ∀ p, p ≤ n → 1 ≤ gsP wi S p ∧ gsP wi S p ≤ 99 ^ p
  | 0, _ => ⟨Nat.le_refl _, Nat.le_refl _⟩
  | p + 1, hp => by
    obtain ⟨a, b⟩ := gsP_le h p (by omega)
    obtain ⟨c, e⟩ := h p (by omega)
    show 1 ≤ gsP wi S p * _ ∧ gsP wi S p * _ ≤ 99 ^ p * 99
    split
    · exact ⟨Nat.mul_pos a c, Nat.mul_le_mul b e⟩
    · exact ⟨Nat.mul_pos a (by decide), Nat.mul_le_mul b (by decide)⟩
theorem gsP_lt {wi : Nat → Nat} {S : Nat → Bool} {n : Nat} (hn : n ≤ 6) (h : ∀ p, p < n → 1 ≤ wi p ∧ wi p ≤ 99) {p : Nat} (hp : p ≤ n) : 1 ≤ gsP wi S p ∧ gsP wi S p ≤ 941480149401 := by
  obtain ⟨a, b⟩ := gsP_le (S := S) h p hp
  exact ⟨a, Nat.le_trans b (Nat.le_trans (Nat.pow_le_pow_right (by decide) (show p ≤ 6 by omega)) (by decide))⟩
theorem cup_le (lo wi : Nat → Nat) (S : Nat → Bool) (a : Nat) {n : Nat} (h : ∀ p, p < n → lo p ≤ 99) : ∀ p, p ≤ n → cup lo wi S a p ≤ a + p * (a * 99)
  | 0, _ => by show a ≤ _; omega
  | p + 1, hp => by
    have ih := cup_le lo wi S a h p (by omega)
    have b : a / wi p * lo p ≤ a * 99 := Nat.mul_le_mul (Nat.div_le_self _ _) (h p (by omega))
    show cup lo wi S a p + _ ≤ _
    rw [Nat.succ_mul]
    split <;> omega
theorem cdn_le (wi : Nat → Nat) (S : Nat → Bool) (a : Nat) : ∀ p, cdn wi S a p ≤ p * a
  | 0 => Nat.zero_le _
  | p + 1 => by
    have ih := cdn_le wi S a p
    have b : a / wi p ≤ a := Nat.div_le_self _ _
    show cdn wi S a p + _ ≤ _
    rw [Nat.succ_mul]
    split <;> omega
theorem gsP_div (wi : Nat → Nat) (S : Nat → Bool) {q : Nat} (hq : S q = true) : ∀ p, q < p → wi q ∣ gsP wi S p
  | 0, h => by omega
  | p + 1, h => by
    show wi q ∣ gsP wi S p * _
    by_cases e : q = p
    · subst e; rw [if_pos hq]; exact Nat.dvd_mul_left _ _
    · exact Nat.dvd_mul_right_of_dvd (gsP_div wi S hq p (by omega)) _
theorem cdn_pos {wi : Nat → Nat} {S : Nat → Bool} {a q : Nat} (hq : S q = true) (h1 : 1 ≤ wi q) (h2 : wi q ≤ a) : ∀ p, q < p → 0 < cdn wi S a p
  | 0, h => by omega
  | p + 1, h => by
    show 0 < cdn wi S a p + _
    by_cases e : q = p
    · subst e; rw [if_pos hq]; have := Nat.div_pos h2 h1; omega
    · have := cdn_pos hq h1 h2 p (by omega); omega
theorem gsP_g {lo wi : Nat → Nat} {S : Nat → Bool} {mo n : Nat} (h : ∀ p, p < n → (S p = true ↔ lo p ≤ mo)) : ∀ p, p ≤ n → gsP wi S p = gpr lo wi mo p
  | 0, _ => rfl
  | p + 1, hp => by
    show gsP wi S p * _ = gpr lo wi mo p * _
    rw [gsP_g h p (by omega)]
    by_cases e : lo p ≤ mo
    · rw [if_pos e, if_pos ((h p (by omega)).2 e)]
    · rw [if_neg e, if_neg (fun z => e ((h p (by omega)).1 z))]
theorem cup_g {lo wi : Nat → Nat} {S : Nat → Bool} {mo n : Nat} (a : Nat) (h : ∀ p, p < n → (S p = true ↔ lo p ≤ mo)) : ∀ p, p ≤ n → cup lo wi S a p = gup lo wi mo a p
  | 0, _ => rfl
  | p + 1, hp => by
    show cup lo wi S a p + _ = gup lo wi mo a p + _
    rw [cup_g a h p (by omega)]
    by_cases e : lo p ≤ mo
    · rw [if_pos e, if_pos ((h p (by omega)).2 e)]
    · rw [if_neg e, if_neg (fun z => e ((h p (by omega)).1 z))]
theorem cdn_g {lo wi : Nat → Nat} {S : Nat → Bool} {mo n : Nat} (a : Nat) (h : ∀ p, p < n → (S p = true ↔ lo p ≤ mo)) : ∀ p, p ≤ n → cdn wi S a p = gdn lo wi mo a p
  | 0, _ => rfl
  | p + 1, hp => by
    show cdn wi S a p + _ = gdn lo wi mo a p + _
    rw [cdn_g a h p (by omega)]
    by_cases e : lo p ≤ mo
    · rw [if_pos e, if_pos ((h p (by omega)).2 e)]
    · rw [if_neg e, if_neg (fun z => e ((h p (by omega)).1 z))]
theorem gsU_g {lo wi : Nat → Nat} {S : Nat → Bool} {mo n : Nat} (h : ∀ p, p < n → (S p = true ↔ lo p ≤ mo)) : gsU lo wi n S = gU lo wi n mo ∧ gsD wi n S = gD lo wi n mo := by
  unfold gsU gsD gU gD
  rw [gsP_g h n (Nat.le_refl n)]
  exact ⟨cup_g _ h n (Nat.le_refl n), cdn_g _ h n (Nat.le_refl n)⟩
/-- sums over the product of all widths -/
def gc (wi : Nat → Nat) (n p : Nat) : Nat := gsP wi (fun _ => true) n / wi p
def fF (lo wi : Nat → Nat) (n : Nat) (S : Nat → Bool) (x : Nat) : Nat → Int
  | 0 => 0
  | p + 1 => fF lo wi n S x p + (if S p = true then (gc wi n p : Int) * ((x : Int) - lo p) else 0)
def gG (lo wi : Nat → Nat) (n x : Nat) : Int := fF lo wi n (fun q => decide (lo q < x)) x n
theorem gsP_two (wi : Nat → Nat) (S : Nat → Bool) : ∀ p, gsP wi S p * gsP wi (fun q => !S q) p = gsP wi (fun _ => true) p
  | 0 => rfl
  | p + 1 => by
    show gsP wi S p * _ * (gsP wi (fun q => !S q) p * _) = gsP wi (fun _ => true) p * _
    rw [← gsP_two wi S p, if_pos rfl]
    cases h : S p
    · rw [if_neg (by decide), if_pos (show (!S p) = true by rw [h]; rfl), Nat.mul_one, Nat.mul_assoc]
    · rw [if_pos rfl, if_neg (show ¬ (!S p) = true by rw [h]; decide), Nat.mul_one, Nat.mul_right_comm]
theorem gc_eq {wi : Nat → Nat} {S : Nat → Bool} {n p : Nat} (hp : p < n) (hS : S p = true) (h1 : 1 ≤ wi p) : gsP wi S n / wi p * gsP wi (fun q => !S q) n = gc wi n p := by
  obtain ⟨t, ht⟩ := gsP_div wi S hS n hp
  unfold gc
  rw [← gsP_two wi S n, ht, Nat.mul_div_cancel_left t h1, Nat.mul_assoc, Nat.mul_div_cancel_left _ h1]
theorem fF_gsU {lo wi : Nat → Nat} {S : Nat → Bool} {n : Nat} (hw : ∀ p, p < n → 1 ≤ wi p) (x : Nat) : ∀ p, p ≤ n →
    (x : Int) * ((cdn wi S (gsP wi S n) p * gsP wi (fun q => !S q) n : Nat) : Int) - ((cup lo wi S (gsP wi S n) p * gsP wi (fun q => !S q) n : Nat) : Int) = fF lo wi n S x p - ((gsP wi (fun _ => true) n : Nat) : Int)
  | 0, _ => by
    show (x : Int) * (((0 : Nat) * _ : Nat) : Int) - ((gsP wi S n * _ : Nat) : Int) = 0 - _
    rw [gsP_two, Nat.zero_mul]; simp
  | p + 1, hp => by
    have ih := fF_gsU hw x (lo := lo) (S := S) p (by omega)
    show (x : Int) * (((cdn wi S (gsP wi S n) p + _) * _ : Nat) : Int) - (((cup lo wi S (gsP wi S n) p + _) * _ : Nat) : Int) = fF lo wi n S x p + _ - _
    cases h : S p
    · rw [if_neg (by decide), if_neg (by decide), if_neg (by decide), Nat.add_zero, Nat.add_zero, Int.add_zero]; exact ih
    · rw [if_pos rfl, if_pos rfl, if_pos rfl, Nat.add_mul, Nat.add_mul, Nat.mul_right_comm (_ / _) (lo p), gc_eq (by omega) h (hw p (by omega))]
      rw [Int.natCast_add, Int.natCast_add, Int.natCast_mul (gc wi n p), Int.mul_add, Int.mul_sub]
      have e : (x : Int) * (gc wi n p : Int) = (gc wi n p : Int) * x := Int.mul_comm _ _
      omega
theorem gsU_iff {lo wi : Nat → Nat} {S : Nat → Bool} {n : Nat} (hw : ∀ p, p < n → 1 ≤ wi p ∧ wi p ≤ 99) (x : Nat) : x * gsD wi n S < gsU lo wi n S ↔ fF lo wi n S x n < ((gsP wi (fun _ => true) n : Nat) : Int) := by
  have h := fF_gsU (lo := lo) (S := S) (fun p hp => (hw p hp).1) x n (Nat.le_refl n)
  have hB := (gsP_le (S := fun q => !S q) hw n (Nat.le_refl n)).1
  have h2 : x * gsD wi n S < gsU lo wi n S ↔ x * gsD wi n S * gsP wi (fun q => !S q) n < gsU lo wi n S * gsP wi (fun q => !S q) n := (Nat.mul_lt_mul_right hB).symm
  rw [h2, Nat.mul_assoc]
  rw [← Int.natCast_mul] at h
  unfold gsU gsD
  omega
theorem fF_le {lo wi : Nat → Nat} {n x y : Nat} {S T : Nat → Bool} {m : Nat} (h : ∀ p, p < m → (if S p = true then (gc wi n p : Int) * ((x : Int) - lo p) else 0) ≤ (if T p = true then (gc wi n p : Int) * ((y : Int) - lo p) else 0)) : ∀ p, p ≤ m → fF lo wi n S x p ≤ fF lo wi n T y p
  | 0, _ => Int.le_refl _
  | p + 1, hp => Int.add_le_add (fF_le h p (by omega)) (h p (by omega))
theorem gG_top {lo wi : Nat → Nat} {n : Nat} (S : Nat → Bool) (x : Nat) : fF lo wi n S x n ≤ gG lo wi n x := by
  refine fF_le (m := n) (fun p _ => ?_) n (Nat.le_refl n)
  have hc : (0 : Int) ≤ (gc wi n p : Int) := Int.natCast_nonneg _
  by_cases h : lo p < x
  · rw [if_pos (show decide (lo p < x) = true from decide_eq_true h)]
    have h2 : (0 : Int) ≤ (gc wi n p : Int) * ((x : Int) - lo p) := Int.mul_nonneg hc (by omega)
    split
    · exact Int.le_refl _
    · exact h2
  · rw [if_neg (show ¬ decide (lo p < x) = true by simpa using h)]
    have h2 : (gc wi n p : Int) * ((x : Int) - lo p) ≤ 0 := Int.mul_nonpos_of_nonneg_of_nonpos hc (by omega)
    split
    · exact h2
    · exact Int.le_refl _
theorem gG_mono {lo wi : Nat → Nat} {n x y : Nat} (hxy : x ≤ y) : gG lo wi n x ≤ gG lo wi n y := by
  refine fF_le (m := n) (fun p _ => ?_) n (Nat.le_refl n)
  have hc : (0 : Int) ≤ (gc wi n p : Int) := Int.natCast_nonneg _
  by_cases h : lo p < x
  · rw [if_pos (show decide (lo p < x) = true from decide_eq_true h), if_pos (show decide (lo p < y) = true from decide_eq_true (by omega))]
    exact Int.mul_le_mul_of_nonneg_left (by omega) hc
  · rw [if_neg (show ¬ decide (lo p < x) = true by simpa using h)]
    split
    · next h3 => have h4 : lo p < y := of_decide_eq_true h3; exact Int.mul_nonneg hc (by omega)
    · exact Int.le_refl _
theorem gG_at {lo wi : Nat → Nat} {n x : Nat} {S : Nat → Bool} (h1 : ∀ p, p < n → lo p < x → S p = true) (h2 : ∀ p, p < n → S p = true → lo p ≤ x) : fF lo wi n S x n = gG lo wi n x := by
  refine Int.le_antisymm (gG_top S x) (fF_le (m := n) (fun p hp => ?_) n (Nat.le_refl n))
  by_cases h : lo p < x
  · rw [if_pos (show decide (lo p < x) = true from decide_eq_true h), if_pos (h1 p hp h)]; exact Int.le_refl _
  · rw [if_neg (show ¬ decide (lo p < x) = true by simpa using h)]
    split
    · next h3 => have := h2 p hp h3; rw [show (x : Int) - lo p = 0 by omega, Int.mul_zero]; exact Int.le_refl _
    · exact Int.le_refl _
/-- the places that are looked at -/
def inG (lo wi : Nat → Nat) (n p : Nat) : Prop := gG lo wi n (lo p) < ((gsP wi (fun _ => true) n : Nat) : Int)
theorem gG_least {lo wi : Nat → Nat} {n : Nat} (hw : ∀ p, p < n → 1 ≤ wi p ∧ wi p ≤ 99) {p : Nat} (h : ∀ q, q < n → lo p ≤ lo q) : inG lo wi n p := by
  have h2 : gG lo wi n (lo p) ≤ fF lo wi n (fun _ => false) (lo p) n := by
    refine fF_le (m := n) (fun q hq => ?_) n (Nat.le_refl n)
    have := h q hq
    rw [if_neg (show ¬ decide (lo q < lo p) = true by simpa using this)]; exact Int.le_refl _
  have h3 : ∀ m, fF lo wi n (fun _ => false) (lo p) m = 0 := fun m => by
    induction m with
    | zero => rfl
    | succ m ih => show fF lo wi n (fun _ => false) (lo p) m + _ = 0; rw [ih]; rfl
  have h4 := (gsP_le (S := fun _ => true) hw n (Nat.le_refl n)).1
  rw [h3] at h2
  unfold inG; omega
theorem g_min_at (lo : Nat → Nat) : ∀ n, 0 < n → ∃ p, p < n ∧ ∀ q, q < n → lo p ≤ lo q
  | 0, h => by omega
  | n + 1, _ => by
    by_cases e : n = 0
    · subst e; exact ⟨0, by omega, fun q hq => by rw [show q = 0 by omega]; exact Nat.le_refl _⟩
    · obtain ⟨p, a, b⟩ := g_min_at lo n (by omega)
      by_cases c : lo n < lo p
      · exact ⟨n, by omega, fun q hq => by
          by_cases e2 : q = n
          · subst e2; exact Nat.le_refl _
          · have := b q (by omega); omega⟩
      · exact ⟨p, by omega, fun q hq => by
          by_cases e2 : q = n
          · subst e2; omega
          · exact b q (by omega)⟩
theorem g_max_at (lo : Nat → Nat) (S : Nat → Bool) : ∀ n, (∃ p, p < n ∧ S p = true) → ∃ p, p < n ∧ S p = true ∧ ∀ q, q < n → S q = true → lo q ≤ lo p
  | 0, h => by obtain ⟨p, a, _⟩ := h; omega
  | n + 1, h => by
    by_cases e : ∃ p, p < n ∧ S p = true
    · obtain ⟨p, a, b, c⟩ := g_max_at lo S n e
      by_cases c2 : S n = true ∧ lo p < lo n
      · exact ⟨n, by omega, c2.1, fun q hq hs => by
          by_cases e2 : q = n
          · subst e2; exact Nat.le_refl _
          · have := c q (by omega) hs; omega⟩
      · exact ⟨p, by omega, b, fun q hq hs => by
          by_cases e2 : q = n
          · subst e2; have : ¬ lo p < lo q := fun z => c2 ⟨hs, z⟩; omega
          · exact c q (by omega) hs⟩
    · obtain ⟨p, a, b⟩ := h
      have e3 : p = n := by
        by_cases e2 : p = n
        · exact e2
        · exact absurd ⟨p, by omega, b⟩ e
      subst e3
      exact ⟨p, by omega, b, fun q hq hs => by
        by_cases e2 : q = p
        · subst e2; exact Nat.le_refl _
        · exact absurd ⟨q, by omega, hs⟩ e⟩
/-- what the class's set keeps while places fall out -/
def cIn (lo wi : Nat → Nat) (n : Nat) (S : Nat → Bool) : Prop := (∀ p q, p < n → q < n → S p = true → lo q ≤ lo p → S q = true) ∧ ∀ p, p < n → inG lo wi n p → S p = true
def cNx (lo wi : Nat → Nat) (n : Nat) (S : Nat → Bool) (q : Nat) : Bool := S q && decide (lo q * gsD wi n S < gsU lo wi n S)
theorem cIn_0 {lo wi : Nat → Nat} {n : Nat} : cIn lo wi n (fun _ => true) := ⟨fun _ _ _ _ _ _ => rfl, fun _ _ _ => rfl⟩
theorem cIn_nx {lo wi : Nat → Nat} {n : Nat} {S : Nat → Bool} (hw : ∀ p, p < n → 1 ≤ wi p ∧ wi p ≤ 99) (h : cIn lo wi n S) : cIn lo wi n (cNx lo wi n S) := by
  refine ⟨fun p q hp hq hs hl => ?_, fun p hp hg => ?_⟩
  · unfold cNx at hs ⊢
    rw [Bool.and_eq_true, decide_eq_true_eq] at hs ⊢
    exact ⟨h.1 p q hp hq hs.1 hl, Nat.lt_of_le_of_lt (Nat.mul_le_mul_right _ hl) hs.2⟩
  · unfold cNx
    rw [Bool.and_eq_true, decide_eq_true_eq]
    exact ⟨h.2 p hp hg, (gsU_iff hw _).2 (Int.lt_of_le_of_lt (gG_top S _) hg)⟩
theorem cIn_end {lo wi : Nat → Nat} {n : Nat} {S : Nat → Bool} (hw : ∀ p, p < n → 1 ≤ wi p ∧ wi p ≤ 99) (h : cIn lo wi n S) (hs : ∀ p, p < n → S p = true → lo p * gsD wi n S < gsU lo wi n S) (p : Nat) (hp : p < n) : S p = true ↔ inG lo wi n p := by
  refine ⟨fun hS => ?_, h.2 p hp⟩
  obtain ⟨m, a, b, c⟩ := g_max_at lo S n ⟨p, hp, hS⟩
  have h1 := (gsU_iff hw (lo m)).1 (hs m a b)
  rw [gG_at (fun q hq hl => h.1 m q a hq b (by omega)) (fun q hq hq2 => c q hq hq2)] at h1
  exact Int.lt_of_le_of_lt (gG_mono (c p hp hS)) h1
def cCt (S : Nat → Bool) : Nat → Nat
  | 0 => 0
  | p + 1 => cCt S p + (if S p = true then 1 else 0)
theorem cCt_pos {S : Nat → Bool} {q : Nat} (hq : S q = true) : ∀ n, q < n → 0 < cCt S n
  | 0, h => by omega
  | n + 1, h => by
    show 0 < cCt S n + _
    by_cases e : q = n
    · subst e; rw [if_pos hq]; omega
    · have := cCt_pos hq n (by omega); omega
theorem cCt_le {S T : Nat → Bool} {n : Nat} (h : ∀ p, p < n → T p = true → S p = true) : ∀ m, m ≤ n → cCt T m ≤ cCt S m
  | 0, _ => Nat.le_refl _
  | m + 1, hm => by
    have ih := cCt_le h m (by omega)
    show cCt T m + _ ≤ cCt S m + _
    by_cases e : T m = true
    · rw [if_pos e, if_pos (h m (by omega) e)]; omega
    · rw [if_neg e]; omega
theorem cCt_lt {S T : Nat → Bool} {n q : Nat} (h : ∀ p, p < n → T p = true → S p = true) (hS : S q = true) (hT : T q = false) : ∀ m, m ≤ n → q < m → cCt T m < cCt S m
  | 0, _, b => by omega
  | m + 1, hm, b => by
    show cCt T m + _ < cCt S m + _
    by_cases e : q = m
    · subst e
      have ih := cCt_le h q (by omega)
      rw [if_pos hS, if_neg (by rw [hT]; decide)]; omega
    · have ih := cCt_lt h hS hT m (by omega) (by omega)
      by_cases e : T m = true
      · rw [if_pos e, if_pos (h m (by omega) e)]; omega
      · rw [if_neg e]; omega
theorem cCt_n (S : Nat → Bool) : ∀ n, cCt S n ≤ n
  | 0 => Nat.le_refl _
  | n + 1 => by have := cCt_n S n; show cCt S n + _ ≤ n + 1; split <;> omega
theorem g_red {x a b : Nat} (hb : 0 < b) : x * (b / Nat.gcd a b) < a / Nat.gcd a b ↔ x * b < a := by
  have hg : 0 < Nat.gcd a b := Nat.gcd_pos_of_pos_right a hb
  have ha : a = a / Nat.gcd a b * Nat.gcd a b := (Nat.div_mul_cancel (Nat.gcd_dvd_left a b)).symm
  have hb2 : b = b / Nat.gcd a b * Nat.gcd a b := (Nat.div_mul_cancel (Nat.gcd_dvd_right a b)).symm
  have h : x * b < a ↔ x * (b / Nat.gcd a b * Nat.gcd a b) < a / Nat.gcd a b * Nat.gcd a b := by rw [← ha, ← hb2]
  rw [h, ← Nat.mul_assoc]
  exact (Nat.mul_lt_mul_right hg).symm
theorem gmi_min (lo : Nat → Nat) : ∀ n p, p < n → gmi lo n ≤ lo p
  | 0, _, h => by omega
  | n + 1, p, h => by
    show (if lo n < gmi lo n then lo n else gmi lo n) ≤ lo p
    by_cases e : p = n
    · subst e; split <;> omega
    · have := gmi_min lo n p (by omega); split <;> omega
theorem gnx_min (lo : Nat → Nat) (mo : Nat) : ∀ n p, p < n → mo < lo p → gnx lo mo n ≤ lo p
  | 0, _, h, _ => by omega
  | n + 1, p, h, hm => by
    show (if mo < lo n ∧ lo n < gnx lo mo n then lo n else gnx lo mo n) ≤ lo p
    by_cases e : p = n
    · subst e; split <;> omega
    · have := gnx_min lo mo n p (by omega) hm; split <;> omega
theorem gD_pos {lo wi : Nat → Nat} {n mo q : Nat} (hw : ∀ p, p < n → 1 ≤ wi p ∧ wi p ≤ 99) (hq : q < n) (hm : lo q ≤ mo) : 0 < gD lo wi n mo :=
  gdn_pos hm (hw q hq).1 (Nat.le_of_dvd (gpr_le hw n (Nat.le_refl n)).1 (gpr_div lo wi mo hm n hq)) n hq
theorem gnx_iff {lo wi : Nat → Nat} {n mo q : Nat} (hw : ∀ p, p < n → 1 ≤ wi p ∧ wi p ≤ 99) (hq : q < n) (hm : lo q ≤ mo) (x : Nat) (h1 : ∀ p, p < n → lo p < x → lo p ≤ mo) (h2 : mo ≤ x) : x * gd lo wi n mo < gu lo wi n mo ↔ gG lo wi n x < ((gsP wi (fun _ => true) n : Nat) : Int) := by
  obtain ⟨e1, e2⟩ := gsU_g (lo := lo) (wi := wi) (mo := mo) (n := n) (S := fun p => decide (lo p ≤ mo)) (fun p _ => decide_eq_true_iff)
  unfold gd gu
  rw [g_red (gD_pos hw hq hm), ← e1, ← e2, gsU_iff hw, gG_at (fun p hp hl => decide_eq_true (h1 p hp hl)) (fun p hp hs => Nat.le_trans (of_decide_eq_true hs) h2)]
theorem gfi_in {lo wi : Nat → Nat} {n : Nat} (hw : ∀ p, p < n → 1 ≤ wi p ∧ wi p ≤ 99) (hl : ∀ p, p < n → lo p ≤ 98) (q : Nat) (hq : q < n) : ∀ f mo, 100 ≤ mo + f → lo q ≤ mo → (∀ p, p < n → lo p ≤ mo → inG lo wi n p) → ∀ p, p < n → (lo p ≤ gfi lo wi n f mo ↔ inG lo wi n p)
  | 0, mo, hf, _, h, p, hp => ⟨h p hp, fun _ => by have := hl p hp; show lo p ≤ mo; omega⟩
  | f + 1, mo, hf, hm, h, p, hp => by
    show lo p ≤ (if gnx lo mo n < 100 ∧ gnx lo mo n * gd lo wi n mo < gu lo wi n mo then gfi lo wi n f (gnx lo mo n) else mo) ↔ _
    have key : gnx lo mo n < 100 → (gnx lo mo n * gd lo wi n mo < gu lo wi n mo ↔ gG lo wi n (gnx lo mo n) < ((gsP wi (fun _ => true) n : Nat) : Int)) := fun h1 => by
      refine gnx_iff hw hq hm _ (fun r hr hlt => ?_) (by have := (gnx_at lo mo n h1).1; omega)
      by_cases e : lo r ≤ mo
      · exact e
      · have := gnx_min lo mo n r hr (by omega); omega
    by_cases c : gnx lo mo n < 100 ∧ gnx lo mo n * gd lo wi n mo < gu lo wi n mo
    · rw [if_pos c]
      have h1 := gnx_at lo mo n c.1
      have h2 := (key c.1).1 c.2
      refine gfi_in hw hl q hq f _ (by omega) (by omega) (fun r hr hlr => ?_) p hp
      by_cases e : lo r ≤ mo
      · exact h r hr e
      · exact Int.lt_of_le_of_lt (gG_mono hlr) h2
    · rw [if_neg c]
      refine ⟨h p hp, fun hg => ?_⟩
      by_cases e : lo p ≤ mo
      · exact e
      · exfalso
        have h1 := gnx_min lo mo n p hp (by omega)
        have h2 := hl p hp
        have h3 : gnx lo mo n < 100 := by omega
        refine c ⟨h3, (key h3).2 (Int.lt_of_le_of_lt (gG_mono h1) hg)⟩
theorem gfi_stop {lo wi : Nat → Nat} {n : Nat} (hl : ∀ p, p < n → lo p ≤ 98) : ∀ f mo, 100 ≤ mo + f → ∀ p, p < n → gfi lo wi n f mo < lo p → gu lo wi n (gfi lo wi n f mo) ≤ lo p * gd lo wi n (gfi lo wi n f mo)
  | 0, mo, hf, p, hp, h => by have := hl p hp; have h2 : mo < lo p := h; omega
  | f + 1, mo, hf, p, hp, h => by
    by_cases c : gnx lo mo n < 100 ∧ gnx lo mo n * gd lo wi n mo < gu lo wi n mo
    · have e : gfi lo wi n (f + 1) mo = gfi lo wi n f (gnx lo mo n) := if_pos c
      rw [e] at h ⊢
      have h1 := gnx_at lo mo n c.1
      exact gfi_stop hl f _ (by omega) p hp h
    · have e : gfi lo wi n (f + 1) mo = mo := if_neg c
      rw [e] at h ⊢
      have h1 := gnx_min lo mo n p hp h
      have h2 := hl p hp
      have h3 : ¬ gnx lo mo n * gd lo wi n mo < gu lo wi n mo := fun z => c ⟨by omega, z⟩
      have h4 : gnx lo mo n * gd lo wi n mo ≤ lo p * gd lo wi n mo := Nat.mul_le_mul_right _ h1
      omega
theorem gfi_end {lo wi : Nat → Nat} {n : Nat} (hn : 0 < n) (hw : ∀ p, p < n → 1 ≤ wi p ∧ wi p ≤ 99) (hl : ∀ p, p < n → lo p ≤ 98) (p : Nat) (hp : p < n) : lo p ≤ gfi lo wi n 100 (gmi lo n) ↔ inG lo wi n p := by
  obtain ⟨q, a, b⟩ := gmi_at lo n (fun r hr => by have := hl r hr; omega) hn
  refine gfi_in hw hl q a 100 _ (by omega) b (fun r hr hlr => gG_least hw (fun s hs => ?_)) p hp
  have := gmi_min lo n s hs
  omega
