theorem hdK_k {tp : Nat → Nat} {t f : Nat} {lw : Bool} (h : hdK tp t f lw ≠ 0) : kd tp t f = 1 := by
  by_cases hk : kd tp t f = 1
  · exact hk
  · exfalso; apply h
    have hi : ∀ w, ¬ iw tp t f w := fun w z => hk z.1
    unfold hdK
    rw [if_neg (hi _), if_neg (hi _), if_neg (hi _), if_neg (hi _)]
    split <;> rfl
/-- the verb that the class reads is the model's head -/
theorem wrd_v {tp : Nat → Nat} {t f : Nat} (lw : Bool) : wrd tp t f (if lw = true then 0 else 1) = (if hdK tp t f lw = 0 then none else some (hdK tp t f lw - 1)) := by
  cases lw
  · show wrd tp t f 1 = _
    rw [wrd_1]
    unfold hdK
    rw [if_neg (show ¬ false = true by decide)]
    by_cases h : iw tp t f 21252599
    · rw [if_pos h, if_pos h]; rfl
    · rw [if_neg h, if_neg h]; rfl
  · show wrd tp t f 0 = _
    rw [wrd_0]
    unfold hdK
    rw [if_pos rfl]
    by_cases h : iw tp t f 3650739
    · rw [if_pos h, if_pos h]; rfl
    · rw [if_neg h, if_neg h]
      by_cases h2 : iw tp t f 6600883
      · rw [if_pos h2, if_pos h2]; rfl
      · rw [if_neg h2, if_neg h2]
        by_cases h3 : iw tp t f 654362803
        · rw [if_pos h3, if_pos h3]; rfl
        · rw [if_neg h3, if_neg h3]; rfl
