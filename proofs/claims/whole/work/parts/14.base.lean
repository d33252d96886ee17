/-! small facts -/
theorem b01 (p : Prop) [Decidable p] : (if p then (1 : Int32) else 0) = 0 ∨ (if p then (1 : Int32) else 0) = 1 := by
  by_cases h : p <;> simp [h]
theorem b_z {p : Prop} [Decidable p] (h : (if p then (1 : Int32) else 0) = 0) : ¬ p := fun hp => by simp [hp] at h
theorem b_nz {p : Prop} [Decidable p] (h : ¬ (if p then (1 : Int32) else 0) = 0) : p := by
  by_cases hp : p
  · exact hp
  · simp [hp] at h
theorem b_t {p : Prop} [Decidable p] (h : p) : (if p then (1 : Int32) else 0) = 1 := by simp [h]
theorem b_f {p : Prop} [Decidable p] (h : ¬ p) : (if p then (1 : Int32) else 0) = 0 := by simp [h]
theorem b_same {p q : Prop} [Decidable p] [Decidable q] (h : p ↔ q) : (if p then (1 : Int32) else 0) = if q then 1 else 0 := by by_cases hp : p <;> simp [hp, ← h]
theorem l_eq (x y : Int64) : x = y ↔ x.toInt = y.toInt := ⟨fun h => by rw [h], fun h => Int64.toInt.inj h⟩
theorem l_lt (x y : Int64) : x < y ↔ x.toInt < y.toInt := Int64.lt_iff_toInt_lt
theorem l_le (x y : Int64) : x ≤ y ↔ x.toInt ≤ y.toInt := Int64.le_iff_toInt_le
theorem i_eq (x y : Int32) : x = y ↔ x.toInt = y.toInt := ⟨fun h => by rw [h], fun h => Int32.toInt.inj h⟩
theorem i_lt (x y : Int32) : x < y ↔ x.toInt < y.toInt := Int32.lt_iff_toInt_lt
theorem i_le (x y : Int32) : x ≤ y ↔ x.toInt ≤ y.toInt := Int32.le_iff_toInt_le
theorem lc_3 (x y : Int64) : (y < x ∧ lg_cmp x y = 1) ∨ (x = y ∧ lg_cmp x y = 0) ∨ (x < y ∧ lg_cmp x y = -1) := by
  by_cases h1 : y < x
  · exact Or.inl ⟨h1, by simp [lg_cmp, h1]⟩
  · by_cases h2 : x = y
    · exact Or.inr (Or.inl ⟨h2, by subst h2; simp [lg_cmp]⟩)
    · have h3 : x < y := by rw [l_lt] at h1 ⊢; rw [l_eq] at h2; omega
      exact Or.inr (Or.inr ⟨h3, by simp [lg_cmp, h1, h2]⟩)
theorem lc_lt {x y : Int64} : lg_cmp x y < 0 ↔ x < y := by
  rcases lc_3 x y with ⟨h, e⟩ | ⟨h, e⟩ | ⟨h, e⟩ <;> rw [e] <;> rw [l_lt] <;> (first | rw [l_lt] at h | rw [l_eq] at h) <;> constructor <;> intro q <;> first | omega | exact absurd q (by decide) | decide
theorem lc_gt {x y : Int64} : 0 < lg_cmp x y ↔ y < x := by
  rcases lc_3 x y with ⟨h, e⟩ | ⟨h, e⟩ | ⟨h, e⟩ <;> rw [e] <;> rw [l_lt] <;> (first | rw [l_lt] at h | rw [l_eq] at h) <;> constructor <;> intro q <;> first | omega | exact absurd q (by decide) | decide
theorem lc_eq {x y : Int64} : lg_cmp x y = 0 ↔ x = y := by
  rcases lc_3 x y with ⟨h, e⟩ | ⟨h, e⟩ | ⟨h, e⟩ <;> rw [e] <;> rw [l_eq] <;> (first | rw [l_lt] at h | rw [l_eq] at h) <;> constructor <;> intro q <;> first | omega | exact absurd q (by decide) | decide
theorem lc_ge {x y : Int64} : 0 ≤ lg_cmp x y ↔ y ≤ x := by
  rcases lc_3 x y with ⟨h, e⟩ | ⟨h, e⟩ | ⟨h, e⟩ <;> rw [e] <;> rw [l_le] <;> (first | rw [l_lt] at h | rw [l_eq] at h) <;> constructor <;> intro q <;> first | omega | exact absurd q (by decide) | decide
theorem lc_le {x y : Int64} : lg_cmp x y ≤ 0 ↔ x ≤ y := by
  rcases lc_3 x y with ⟨h, e⟩ | ⟨h, e⟩ | ⟨h, e⟩ <;> rw [e] <;> rw [l_le] <;> (first | rw [l_lt] at h | rw [l_eq] at h) <;> constructor <;> intro q <;> first | omega | exact absurd q (by decide) | decide
section RX
variable {l : Launch} {K : cK} {M : MI} {d kc ks pc n n2 : Nat} {lo : List (Nat × Value)} {st : List Value} {h : cH} {Q : Option Value → cH → Prop} {x y : Int64} {z : Int}
theorem g_lif_lt (t : Nat) (hd1 : dc M pc .lcmp 1 n) (hd : dc M n (.ifCond .lt z) 3 n2) (ht : (n : Int) + z = (t : Int)) (kt : x < y → GL l K M d kc ks t lo st h Q) (kf : ¬ x < y → GL l K M d kc ks n2 lo st h Q) : GL l K M d kc ks pc lo (.long y :: .long x :: st) h Q :=
  g_lcmp hd1 (g_if_lt t hd ht (fun q => kt (lc_lt.mp q)) (fun q => kf (fun w => q (lc_lt.mpr w))))
theorem g_lif_ge (t : Nat) (hd1 : dc M pc .lcmp 1 n) (hd : dc M n (.ifCond .ge z) 3 n2) (ht : (n : Int) + z = (t : Int)) (kt : y ≤ x → GL l K M d kc ks t lo st h Q) (kf : ¬ y ≤ x → GL l K M d kc ks n2 lo st h Q) : GL l K M d kc ks pc lo (.long y :: .long x :: st) h Q :=
  g_lcmp hd1 (g_if_ge t hd ht (fun q => kt (lc_ge.mp q)) (fun q => kf (fun w => q (lc_ge.mpr w))))
theorem g_lif_gt (t : Nat) (hd1 : dc M pc .lcmp 1 n) (hd : dc M n (.ifCond .gt z) 3 n2) (ht : (n : Int) + z = (t : Int)) (kt : y < x → GL l K M d kc ks t lo st h Q) (kf : ¬ y < x → GL l K M d kc ks n2 lo st h Q) : GL l K M d kc ks pc lo (.long y :: .long x :: st) h Q :=
  g_lcmp hd1 (g_if_gt t hd ht (fun q => kt (lc_gt.mp q)) (fun q => kf (fun w => q (lc_gt.mpr w))))
theorem g_lif_le (t : Nat) (hd1 : dc M pc .lcmp 1 n) (hd : dc M n (.ifCond .le z) 3 n2) (ht : (n : Int) + z = (t : Int)) (kt : x ≤ y → GL l K M d kc ks t lo st h Q) (kf : ¬ x ≤ y → GL l K M d kc ks n2 lo st h Q) : GL l K M d kc ks pc lo (.long y :: .long x :: st) h Q :=
  g_lcmp hd1 (g_if_le t hd ht (fun q => kt (lc_le.mp q)) (fun q => kf (fun w => q (lc_le.mpr w))))
theorem g_lif_eq (t : Nat) (hd1 : dc M pc .lcmp 1 n) (hd : dc M n (.ifCond .eq z) 3 n2) (ht : (n : Int) + z = (t : Int)) (kt : x = y → GL l K M d kc ks t lo st h Q) (kf : ¬ x = y → GL l K M d kc ks n2 lo st h Q) : GL l K M d kc ks pc lo (.long y :: .long x :: st) h Q :=
  g_lcmp hd1 (g_if_eq t hd ht (fun q => kt (lc_eq.mp q)) (fun q => kf (fun w => q (lc_eq.mpr w))))
theorem g_lif_ne (t : Nat) (hd1 : dc M pc .lcmp 1 n) (hd : dc M n (.ifCond .ne z) 3 n2) (ht : (n : Int) + z = (t : Int)) (kt : ¬ x = y → GL l K M d kc ks t lo st h Q) (kf : x = y → GL l K M d kc ks n2 lo st h Q) : GL l K M d kc ks pc lo (.long y :: .long x :: st) h Q :=
  g_lcmp hd1 (g_if_ne t hd ht (fun q => kt (fun w => q (lc_eq.mpr w))) (fun q => kf (lc_eq.mp q)))
/-- a branch on a truth value -/
theorem g_bz {p : Prop} [Decidable p] {z : Int} (t : Nat) (hd : dc M pc (.ifCond .eq z) 3 n) (ht : (pc : Int) + z = (t : Int)) (kt : ¬ p → GL l K M d kc ks t lo st h Q) (kf : p → GL l K M d kc ks n lo st h Q) : GL l K M d kc ks pc lo (.int (if p then 1 else 0) :: st) h Q :=
  g_if_eq t hd ht (fun q => kt (b_z q)) (fun q => kf (b_nz q))
theorem g_bnz {p : Prop} [Decidable p] {z : Int} (t : Nat) (hd : dc M pc (.ifCond .ne z) 3 n) (ht : (pc : Int) + z = (t : Int)) (kt : p → GL l K M d kc ks t lo st h Q) (kf : ¬ p → GL l K M d kc ks n lo st h Q) : GL l K M d kc ks pc lo (.int (if p then 1 else 0) :: st) h Q :=
  g_if_ne t hd ht (fun q => kt (b_nz q)) (fun q => kf (b_z q))
theorem g_ic_eq {x y : Int32} (a b : Int) (t : Nat) (hx : x.toInt = a) (hy : y.toInt = b) (hd : dc M pc (.if_icmp .eq z) 3 n) (ht : (pc : Int) + z = (t : Int)) (kt : a = b → GL l K M d kc ks t lo st h Q) (kf : ¬ (a = b) → GL l K M d kc ks n lo st h Q) : GL l K M d kc ks pc lo (.int y :: .int x :: st) h Q := by
  subst hx; subst hy
  exact g_icmp_eq t hd ht (fun q => kt (by rw [i_eq] at q; exact q)) (fun q => kf (by rw [i_eq] at q; exact q))
theorem g_iz_eq {x : Int32} (a : Int) (t : Nat) (hx : x.toInt = a) (hd : dc M pc (.ifCond .eq z) 3 n) (ht : (pc : Int) + z = (t : Int)) (kt : a = 0 → GL l K M d kc ks t lo st h Q) (kf : ¬ (a = 0) → GL l K M d kc ks n lo st h Q) : GL l K M d kc ks pc lo (.int x :: st) h Q := by
  subst hx
  exact g_if_eq t hd ht (fun q => kt (by rw [i_eq] at q; exact q)) (fun q => kf (by rw [i_eq] at q; exact q))
theorem g_lx_eq (a b : Int) (t : Nat) (hx : x.toInt = a) (hy : y.toInt = b) (hd1 : dc M pc .lcmp 1 n) (hd : dc M n (.ifCond .eq z) 3 n2) (ht : (n : Int) + z = (t : Int)) (kt : a = b → GL l K M d kc ks t lo st h Q) (kf : ¬ (a = b) → GL l K M d kc ks n2 lo st h Q) : GL l K M d kc ks pc lo (.long y :: .long x :: st) h Q := by
  subst hx; subst hy
  exact g_lif_eq t hd1 hd ht (fun q => kt (by rw [l_eq] at q; exact q)) (fun q => kf (by rw [l_eq] at q; exact q))
theorem g_ic_ne {x y : Int32} (a b : Int) (t : Nat) (hx : x.toInt = a) (hy : y.toInt = b) (hd : dc M pc (.if_icmp .ne z) 3 n) (ht : (pc : Int) + z = (t : Int)) (kt : ¬ a = b → GL l K M d kc ks t lo st h Q) (kf : a = b → GL l K M d kc ks n lo st h Q) : GL l K M d kc ks pc lo (.int y :: .int x :: st) h Q := by
  subst hx; subst hy
  exact g_icmp_ne t hd ht (fun q => kt (by rw [i_eq] at q; exact q)) (fun q => kf (by rw [i_eq] at q; exact q))
theorem g_iz_ne {x : Int32} (a : Int) (t : Nat) (hx : x.toInt = a) (hd : dc M pc (.ifCond .ne z) 3 n) (ht : (pc : Int) + z = (t : Int)) (kt : ¬ a = 0 → GL l K M d kc ks t lo st h Q) (kf : a = 0 → GL l K M d kc ks n lo st h Q) : GL l K M d kc ks pc lo (.int x :: st) h Q := by
  subst hx
  exact g_if_ne t hd ht (fun q => kt (by rw [i_eq] at q; exact q)) (fun q => kf (by rw [i_eq] at q; exact q))
theorem g_lx_ne (a b : Int) (t : Nat) (hx : x.toInt = a) (hy : y.toInt = b) (hd1 : dc M pc .lcmp 1 n) (hd : dc M n (.ifCond .ne z) 3 n2) (ht : (n : Int) + z = (t : Int)) (kt : ¬ a = b → GL l K M d kc ks t lo st h Q) (kf : a = b → GL l K M d kc ks n2 lo st h Q) : GL l K M d kc ks pc lo (.long y :: .long x :: st) h Q := by
  subst hx; subst hy
  exact g_lif_ne t hd1 hd ht (fun q => kt (by rw [l_eq] at q; exact q)) (fun q => kf (by rw [l_eq] at q; exact q))
theorem g_ic_lt {x y : Int32} (a b : Int) (t : Nat) (hx : x.toInt = a) (hy : y.toInt = b) (hd : dc M pc (.if_icmp .lt z) 3 n) (ht : (pc : Int) + z = (t : Int)) (kt : a < b → GL l K M d kc ks t lo st h Q) (kf : ¬ (a < b) → GL l K M d kc ks n lo st h Q) : GL l K M d kc ks pc lo (.int y :: .int x :: st) h Q := by
  subst hx; subst hy
  exact g_icmp_lt t hd ht (fun q => kt (by rw [i_lt] at q; exact q)) (fun q => kf (by rw [i_lt] at q; exact q))
theorem g_iz_lt {x : Int32} (a : Int) (t : Nat) (hx : x.toInt = a) (hd : dc M pc (.ifCond .lt z) 3 n) (ht : (pc : Int) + z = (t : Int)) (kt : a < 0 → GL l K M d kc ks t lo st h Q) (kf : ¬ (a < 0) → GL l K M d kc ks n lo st h Q) : GL l K M d kc ks pc lo (.int x :: st) h Q := by
  subst hx
  exact g_if_lt t hd ht (fun q => kt (by rw [i_lt] at q; exact q)) (fun q => kf (by rw [i_lt] at q; exact q))
theorem g_lx_lt (a b : Int) (t : Nat) (hx : x.toInt = a) (hy : y.toInt = b) (hd1 : dc M pc .lcmp 1 n) (hd : dc M n (.ifCond .lt z) 3 n2) (ht : (n : Int) + z = (t : Int)) (kt : a < b → GL l K M d kc ks t lo st h Q) (kf : ¬ (a < b) → GL l K M d kc ks n2 lo st h Q) : GL l K M d kc ks pc lo (.long y :: .long x :: st) h Q := by
  subst hx; subst hy
  exact g_lif_lt t hd1 hd ht (fun q => kt (by rw [l_lt] at q; exact q)) (fun q => kf (by rw [l_lt] at q; exact q))
theorem g_ic_ge {x y : Int32} (a b : Int) (t : Nat) (hx : x.toInt = a) (hy : y.toInt = b) (hd : dc M pc (.if_icmp .ge z) 3 n) (ht : (pc : Int) + z = (t : Int)) (kt : b ≤ a → GL l K M d kc ks t lo st h Q) (kf : ¬ (b ≤ a) → GL l K M d kc ks n lo st h Q) : GL l K M d kc ks pc lo (.int y :: .int x :: st) h Q := by
  subst hx; subst hy
  exact g_icmp_ge t hd ht (fun q => kt (by rw [i_le] at q; exact q)) (fun q => kf (by rw [i_le] at q; exact q))
theorem g_iz_ge {x : Int32} (a : Int) (t : Nat) (hx : x.toInt = a) (hd : dc M pc (.ifCond .ge z) 3 n) (ht : (pc : Int) + z = (t : Int)) (kt : 0 ≤ a → GL l K M d kc ks t lo st h Q) (kf : ¬ (0 ≤ a) → GL l K M d kc ks n lo st h Q) : GL l K M d kc ks pc lo (.int x :: st) h Q := by
  subst hx
  exact g_if_ge t hd ht (fun q => kt (by rw [i_le] at q; exact q)) (fun q => kf (by rw [i_le] at q; exact q))
theorem g_lx_ge (a b : Int) (t : Nat) (hx : x.toInt = a) (hy : y.toInt = b) (hd1 : dc M pc .lcmp 1 n) (hd : dc M n (.ifCond .ge z) 3 n2) (ht : (n : Int) + z = (t : Int)) (kt : b ≤ a → GL l K M d kc ks t lo st h Q) (kf : ¬ (b ≤ a) → GL l K M d kc ks n2 lo st h Q) : GL l K M d kc ks pc lo (.long y :: .long x :: st) h Q := by
  subst hx; subst hy
  exact g_lif_ge t hd1 hd ht (fun q => kt (by rw [l_le] at q; exact q)) (fun q => kf (by rw [l_le] at q; exact q))
theorem g_ic_gt {x y : Int32} (a b : Int) (t : Nat) (hx : x.toInt = a) (hy : y.toInt = b) (hd : dc M pc (.if_icmp .gt z) 3 n) (ht : (pc : Int) + z = (t : Int)) (kt : b < a → GL l K M d kc ks t lo st h Q) (kf : ¬ (b < a) → GL l K M d kc ks n lo st h Q) : GL l K M d kc ks pc lo (.int y :: .int x :: st) h Q := by
  subst hx; subst hy
  exact g_icmp_gt t hd ht (fun q => kt (by rw [i_lt] at q; exact q)) (fun q => kf (by rw [i_lt] at q; exact q))
theorem g_iz_gt {x : Int32} (a : Int) (t : Nat) (hx : x.toInt = a) (hd : dc M pc (.ifCond .gt z) 3 n) (ht : (pc : Int) + z = (t : Int)) (kt : 0 < a → GL l K M d kc ks t lo st h Q) (kf : ¬ (0 < a) → GL l K M d kc ks n lo st h Q) : GL l K M d kc ks pc lo (.int x :: st) h Q := by
  subst hx
  exact g_if_gt t hd ht (fun q => kt (by rw [i_lt] at q; exact q)) (fun q => kf (by rw [i_lt] at q; exact q))
theorem g_lx_gt (a b : Int) (t : Nat) (hx : x.toInt = a) (hy : y.toInt = b) (hd1 : dc M pc .lcmp 1 n) (hd : dc M n (.ifCond .gt z) 3 n2) (ht : (n : Int) + z = (t : Int)) (kt : b < a → GL l K M d kc ks t lo st h Q) (kf : ¬ (b < a) → GL l K M d kc ks n2 lo st h Q) : GL l K M d kc ks pc lo (.long y :: .long x :: st) h Q := by
  subst hx; subst hy
  exact g_lif_gt t hd1 hd ht (fun q => kt (by rw [l_lt] at q; exact q)) (fun q => kf (by rw [l_lt] at q; exact q))
theorem g_ic_le {x y : Int32} (a b : Int) (t : Nat) (hx : x.toInt = a) (hy : y.toInt = b) (hd : dc M pc (.if_icmp .le z) 3 n) (ht : (pc : Int) + z = (t : Int)) (kt : a ≤ b → GL l K M d kc ks t lo st h Q) (kf : ¬ (a ≤ b) → GL l K M d kc ks n lo st h Q) : GL l K M d kc ks pc lo (.int y :: .int x :: st) h Q := by
  subst hx; subst hy
  exact g_icmp_le t hd ht (fun q => kt (by rw [i_le] at q; exact q)) (fun q => kf (by rw [i_le] at q; exact q))
theorem g_iz_le {x : Int32} (a : Int) (t : Nat) (hx : x.toInt = a) (hd : dc M pc (.ifCond .le z) 3 n) (ht : (pc : Int) + z = (t : Int)) (kt : a ≤ 0 → GL l K M d kc ks t lo st h Q) (kf : ¬ (a ≤ 0) → GL l K M d kc ks n lo st h Q) : GL l K M d kc ks pc lo (.int x :: st) h Q := by
  subst hx
  exact g_if_le t hd ht (fun q => kt (by rw [i_le] at q; exact q)) (fun q => kf (by rw [i_le] at q; exact q))
theorem g_lx_le (a b : Int) (t : Nat) (hx : x.toInt = a) (hy : y.toInt = b) (hd1 : dc M pc .lcmp 1 n) (hd : dc M n (.ifCond .le z) 3 n2) (ht : (n : Int) + z = (t : Int)) (kt : a ≤ b → GL l K M d kc ks t lo st h Q) (kf : ¬ (a ≤ b) → GL l K M d kc ks n2 lo st h Q) : GL l K M d kc ks pc lo (.long y :: .long x :: st) h Q := by
  subst hx; subst hy
  exact g_lif_le t hd1 hd ht (fun q => kt (by rw [l_le] at q; exact q)) (fun q => kf (by rw [l_le] at q; exact q))
theorem g_iaddN {a b : Nat} (hd : dc M pc .iadd 1 n) (k : GL l K M d kc ks n lo (.int (nI (a + b)) :: st) h Q) : GL l K M d kc ks pc lo (.int (nI b) :: .int (nI a) :: st) h Q := g_iadd hd (by rw [nI_add]; exact k)
theorem g_imulN {a b : Nat} (hd : dc M pc .imul 1 n) (k : GL l K M d kc ks n lo (.int (nI (a * b)) :: st) h Q) : GL l K M d kc ks pc lo (.int (nI b) :: .int (nI a) :: st) h Q := g_imul hd (by rw [pk_mul]; exact k)
theorem g_isubN {a b : Nat} (hab : b ≤ a) (hd : dc M pc .isub 1 n) (k : GL l K M d kc ks n lo (.int (nI (a - b)) :: st) h Q) : GL l K M d kc ks pc lo (.int (nI b) :: .int (nI a) :: st) h Q := g_isub hd (by rw [pk_sub hab]; exact k)
theorem nI_inc (i : Nat) : nI i + Int32.ofInt 1 = nI (i + 1) := nI_1 i
theorem nI_dec {i : Nat} (h : 0 < i) : nI i + Int32.ofInt (-1) = nI (i - 1) := sb_m1 h
theorem g_iincN {z : Nat} {i : Nat} (hd : dc M pc (.iinc z 1) 3 n) (hv : lk lo z = some (.int (nI i))) (hi : z < M.2.2.1) (k : GL l K M d kc ks n ((z, .int (nI (i + 1))) :: lo) st h Q) : GL l K M d kc ks pc lo st h Q := g_iinc _ hd hv (nI_inc i) hi k
theorem g_idecN {z : Nat} {i : Nat} (h0 : 0 < i) (hd : dc M pc (.iinc z (-1)) 3 n) (hv : lk lo z = some (.int (nI i))) (hi : z < M.2.2.1) (k : GL l K M d kc ks n ((z, .int (nI (i - 1))) :: lo) st h Q) : GL l K M d kc ks pc lo st h Q := g_iinc _ hd hv (nI_dec h0) hi k
theorem g_i2lN {a : Nat} (ha : a < 2147483648) (hd : dc M pc .i2l 1 n) (k : GL l K M d kc ks n lo (.long (lN a) :: st) h Q) : GL l K M d kc ks pc lo (.int (nI a) :: st) h Q := g_i2l hd (by rw [nI_l ha]; exact k)
theorem i2l_int (x : Int32) : x.toInt64.toInt = x.toInt := Int32.toInt_toInt64 x
theorem nI_ti {n : Nat} (h : n < 2147483648) : (nI n).toInt = (n : Int) := nI_toInt h
theorem g_topI {y : Int32} (x : Int32) (e : y = x) (k : GL l K M d kc ks pc lo (.int x :: st) h Q) : GL l K M d kc ks pc lo (.int y :: st) h Q := by subst e; exact k
theorem g_topL {y : Int64} (x : Int64) (e : y = x) (k : GL l K M d kc ks pc lo (.long x :: st) h Q) : GL l K M d kc ks pc lo (.long y :: st) h Q := by subst e; exact k
theorem g_topV {y : Value} (x : Value) (e : y = x) (k : GL l K M d kc ks pc lo (x :: st) h Q) : GL l K M d kc ks pc lo (y :: st) h Q := by subst e; exact k
theorem g_cut {P : Prop} (hp : P) (k : P → GL l K M d kc ks pc lo st h Q) : GL l K M d kc ks pc lo st h Q := k hp
end RX
