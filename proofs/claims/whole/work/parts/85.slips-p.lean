/-- what the slips make of a slot: 0 he did not come, 1 he came, 2 any -/
def mS (ss sc : Nat → Nat) : Nat → Nat → Nat
  | 0, _ => 2
  | j + 1, s => if ss j = s then sc j else mS ss sc j s
/-- all slots differ -/
def dif (ss : Nat → Nat) (n : Nat) : Prop := ∀ i j, i < j → j < n → ss i ≠ ss j
theorem mS_n {ss sc : Nat → Nat} {s : Nat} : ∀ n, (∀ k, k < n → ss k ≠ s) → mS ss sc n s = 2
  | 0, _ => rfl
  | n + 1, h => by show (if ss n = s then sc n else mS ss sc n s) = 2; rw [if_neg (h n (by omega))]; exact mS_n n (fun k hk => h k (by omega))
theorem mS_y {ss sc : Nat → Nat} {s k : Nat} (hs : ss k = s) : ∀ n, k < n → dif ss n → mS ss sc n s = sc k
  | 0, h, _ => by omega
  | n + 1, h, hd => by
    show (if ss n = s then sc n else mS ss sc n s) = sc k
    by_cases e : k = n
    · subst e; rw [if_pos hs]
    · rw [if_neg (fun z => hd k n (by omega) (by omega) (hs.trans z.symm))]
      exact mS_y hs n (by omega) (fun i j a b => hd i j a (by omega))
theorem mS_le {ss sc : Nat → Nat} {s : Nat} : ∀ n, (∀ k, k < n → sc k ≤ 1) → mS ss sc n s ≤ 2
  | 0, _ => Nat.le_refl _
  | n + 1, h => by
    show (if ss n = s then sc n else mS ss sc n s) ≤ 2
    split
    · have := h n (by omega); omega
    · exact mS_le n (fun k hk => h k (by omega))
theorem sO_n {ss sc : Nat → Nat} {s : Nat} : ∀ m k, (∀ i, k ≤ i → i < k + m → ss i ≠ s) → sO ss sc s m k = 0
  | 0, _, _ => rfl
  | m + 1, k, h => by show (if ss k = s then sc k + 1 else sO ss sc s m (k + 1)) = 0; rw [if_neg (h k (by omega) (by omega))]; exact sO_n m (k + 1) (fun i a b => h i (by omega) (by omega))
theorem sO_y {ss sc : Nat → Nat} {s i n : Nat} (hs : ss i = s) (hi : i < n) (hd : dif ss n) : ∀ m k, k ≤ i → i < k + m → sO ss sc s m k = sc i + 1
  | 0, k, a, b => by omega
  | m + 1, k, a, b => by
    show (if ss k = s then sc k + 1 else sO ss sc s m (k + 1)) = sc i + 1
    by_cases e : k = i
    · subst e; rw [if_pos hs]
    · rw [if_neg (fun z => hd k i (by omega) hi (z.trans hs.symm))]
      exact sO_y hs hi hd m (k + 1) (by omega) (by omega)
theorem sO_mS {ss sc : Nat → Nat} {n : Nat} (hd : dif ss n) (hc : ∀ k, k < n → sc k ≤ 1) (s : Nat) : sO ss sc s n 0 = (if mS ss sc n s = 2 then 0 else mS ss sc n s + 1) := by
  by_cases h : ∃ k, k < n ∧ ss k = s
  · obtain ⟨k, hk, hs⟩ := h
    have := hc k hk
    rw [mS_y hs n hk hd, sO_y hs hk hd n 0 (by omega) (by omega), if_neg (by omega)]
  · have h2 : ∀ k, k < n → ss k ≠ s := fun k hk hs => h ⟨k, hk, hs⟩
    rw [mS_n n h2, sO_n n 0 (fun i _ b => h2 i (by omega)), if_pos rfl]
theorem php : ∀ N n (f : Nat → Nat), (∀ i, i < n → f i < N) → dif f n → n ≤ N
  | 0, n, f, h1, _ => by
    rcases Nat.eq_zero_or_pos n with z | z
    · omega
    · have := h1 0 z; omega
  | N + 1, n, f, h1, h2 => by
    by_cases h : ∃ i, i < n ∧ f i = N
    · obtain ⟨i, hi, he⟩ := h
      have h3 := php N (n - 1) (fun j => if j = i then f (n - 1) else f j) (fun j hj => by
        show (if j = i then f (n - 1) else f j) < N
        split
        · next e => have h4 := h1 (n - 1) (by omega); have h5 := h2 i (n - 1) (by omega) (by omega); omega
        · next e =>
          have h4 := h1 j (by omega)
          have h5 : f j ≠ N := fun z => by
            rcases Nat.lt_or_ge j i with q | q
            · exact h2 j i q hi (z.trans he.symm)
            · exact h2 i j (by omega) (by omega) (he.trans z.symm)
          omega) (fun a b hab hb => by
        show (if a = i then f (n - 1) else f a) ≠ (if b = i then f (n - 1) else f b)
        by_cases ea : a = i
        · rw [if_pos ea, if_neg (by omega)]; exact fun z => h2 b (n - 1) (by omega) (by omega) z.symm
        · rw [if_neg ea]
          by_cases eb : b = i
          · rw [if_pos eb]; exact h2 a (n - 1) (by omega) (by omega)
          · rw [if_neg eb]; exact h2 a b hab (by omega))
      omega
    · have h3 := php N n f (fun i hi => by have h4 := h1 i hi; have h5 : f i ≠ N := fun z => h ⟨i, hi, z⟩; omega) h2
      omega
/-- a new slip has room -/
theorem slip_room {ss sc : Nat → Nat} {n s : Nat} (hd : dif ss n) (hs : ∀ k, k < n → ss k < 12) (h12 : s < 12) (h0 : sO ss sc s n 0 = 0) : n < 12 := by
  have hne : ∀ k, k < n → ss k ≠ s := fun k hk z => by
    rw [sO_y z hk hd n 0 (by omega) (by omega)] at h0; omega
  have := php 12 (n + 1) (fun j => if j = n then s else ss j) (fun i hi => by
    show (if i = n then s else ss i) < 12
    split
    · exact h12
    · exact hs i (by omega)) (fun i j hij hj => by
    show (if i = n then s else ss i) ≠ (if j = n then s else ss j)
    rw [if_neg (by omega)]
    split
    · exact hne i (by omega)
    · exact hd i j hij (by omega))
  omega
theorem sq_sp {u v : Bool} {m : Nat} (h1 : u = true ↔ m ≠ 0) (h2 : v = true ↔ m ≠ 1) (cm Pp : Nat → Nat) : ∀ n j, sq u v cm Pp n j = sp m cm Pp n j
  | 0, _ => rfl
  | n + 1, j => by
    show sq u v cm Pp n j + (if j = 1 ∧ u = true then _ else 0) + (if j = lat (n + 1) ∧ v = true then _ else 0) = sp m cm Pp n j + (if j = 1 ∧ m ≠ 0 then _ else 0) + (if j = lat (n + 1) ∧ m ≠ 1 then _ else 0)
    rw [sq_sp h1 h2 cm Pp n j]
    by_cases a : m = 0
    · have hu : ¬ u = true := fun z => h1.1 z a
      have hv : v = true := h2.2 (by omega)
      simp [hu, hv, a]
    · by_cases b : m = 1
      · have hu : u = true := h1.2 a
        have hv : ¬ v = true := fun z => h2.1 z b
        simp [hu, hv, b]
      · simp [h1.2 a, h2.2 b, a, b]
theorem pq_pt {u v : Nat → Bool} {m : Nat → Nat} (cm : Nat → Nat → Nat) (s0 : Nat) : ∀ t, (∀ s, s < t → (u s = true ↔ m s ≠ 0) ∧ (v s = true ↔ m s ≠ 1)) → pq u v cm s0 t = pt m cm s0 t
  | 0, _ => rfl
  | t + 1, h => by
    funext j
    show sq (u t) (v t) (cm t) (pq u v cm s0 t) 12 j = sp (m t) (cm t) (pt m cm s0 t) 12 j
    rw [pq_pt cm s0 t (fun s hs => h s (by omega)), sq_sp (h t (by omega)).1 (h t (by omega)).2]
theorem sq_0 {u v : Bool} {cm Pp : Nat → Nat} (h : (u = false ∧ v = false) ∨ ∀ k, Pp k = 0) : ∀ n j, sq u v cm Pp n j = 0
  | 0, _ => rfl
  | n + 1, j => by
    show sq u v cm Pp n j + (if j = 1 ∧ u = true then _ else 0) + (if j = lat (n + 1) ∧ v = true then _ else 0) = 0
    rw [sq_0 h n j]
    rcases h with ⟨h1, h2⟩ | h
    · simp [h1, h2]
    · simp [h]
theorem pq_0 {u v : Nat → Bool} {s : Nat} (cm : Nat → Nat → Nat) (s0 : Nat) (h1 : u s = false) (h2 : v s = false) : ∀ m j, pq u v cm s0 (s + 1 + m) j = 0
  | 0, j => sq_0 (Or.inl ⟨h1, h2⟩) 12 j
  | m + 1, j => sq_0 (Or.inr (pq_0 cm s0 h1 h2 m)) 12 j
theorem sm_z {f : Nat → Nat} (h : ∀ j, f j = 0) : ∀ n, sm f n = 0
  | 0 => rfl
  | n + 1 => by show sm f n + f (n + 1) = 0; rw [sm_z h n, h]
theorem pt_cg {m m2 : Nat → Nat} (cm : Nat → Nat → Nat) (s0 : Nat) : ∀ t, (∀ s, s < t → m s = m2 s) → pt m cm s0 t = pt m2 cm s0 t
  | 0, _ => rfl
  | t + 1, h => by
    funext j
    show sp (m t) (cm t) (pt m cm s0 t) 12 j = sp (m2 t) (cm t) (pt m2 cm s0 t) 12 j
    rw [pt_cg cm s0 t (fun s hs => h s (by omega)), h t (by omega)]
theorem sp_free (cm Pp : Nat → Nat) (hc : ∀ k, cm k ≤ 10) (hP : ∀ k, Pp k = 10 * (Pp k / 10)) : ∀ k, k ≤ 12 → sm (sp 2 cm Pp k) 12 = sm Pp k
  | 0, _ => by simp [sm, sp]
  | k + 1, hk => by
    have h1 := sp_free cm Pp hc hP k (by omega)
    have h2 : sm (sp 2 cm Pp (k + 1)) 12 = sm (fun j => (sp 2 cm Pp k j + (if j = 1 then Pp (k + 1) / 10 * cm (k + 1) else 0)) + (if j = lat (k + 1) then Pp (k + 1) / 10 * (10 - cm (k + 1)) else 0)) 12 := by
      refine sm_cg _ _ 12 (fun j _ _ => ?_)
      show sp 2 cm Pp k j + (if j = 1 ∧ 2 ≠ 0 then _ else 0) + (if j = lat (k + 1) ∧ 2 ≠ 1 then _ else 0) = _
      simp
    obtain ⟨l1, l2⟩ := lat_le (k := k + 1) (by omega) (by omega)
    rw [h2, sm_add, sm_add, sm_one, sm_one, h1, if_pos (by omega), if_pos ⟨l1, l2⟩]
    have hc1 := hc (k + 1)
    have h3 : Pp (k + 1) / 10 * cm (k + 1) + Pp (k + 1) / 10 * (10 - cm (k + 1)) = Pp (k + 1) / 10 * 10 := by rw [← Nat.mul_add]; congr 1; omega
    have h4 := hP (k + 1)
    show _ = sm Pp k + Pp (k + 1)
    omega
theorem pt_free {m : Nat → Nat} {cm : Nat → Nat → Nat} {s0 a : Nat} (hc : ∀ s k, cm s k ≤ 10) : ∀ t, a + t ≤ 12 → (∀ s, a ≤ s → s < a + t → m s = 2) → sm (pt m cm s0 (a + t)) 12 = sm (pt m cm s0 a) 12
  | 0, _, _ => rfl
  | t + 1, h, hm => by
    show sm (sp (m (a + t)) (cm (a + t)) (pt m cm s0 (a + t)) 12) 12 = _
    rw [hm (a + t) (by omega) (by omega), sp_free _ _ (hc _) (fun k => pt_ten (by omega) k) 12 (Nat.le_refl _)]
    exact pt_free hc t (by omega) (fun s x y => hm s x (by omega))
theorem sp_came (cm Pp : Nat → Nat) : ∀ n j, sp 1 cm Pp n j = if j = 1 then sp 2 cm Pp n 1 else 0
  | 0, j => by show 0 = (if j = 1 then 0 else 0); split <;> rfl
  | n + 1, j => by
    have hl : lat (n + 1) ≠ 1 := by have := lat_2 (k := n + 1) (by omega); omega
    show sp 1 cm Pp n j + (if j = 1 ∧ 1 ≠ 0 then _ else 0) + (if j = lat (n + 1) ∧ 1 ≠ 1 then _ else 0) = (if j = 1 then sp 2 cm Pp n 1 + (if 1 = 1 ∧ 2 ≠ 0 then _ else 0) + (if 1 = lat (n + 1) ∧ 2 ≠ 1 then _ else 0) else 0)
    rw [sp_came cm Pp n j]
    by_cases e : j = 1
    · subst e
      have hl2 : ¬ 1 = lat (n + 1) := fun z => hl z.symm
      simp [hl2]
    · rw [if_neg e, if_neg e, if_neg (fun z => e z.1), if_neg (fun z => z.2 rfl)]
/-- the chance that he comes in a slot -/
theorem lik_0 {cm : Nat → Nat → Nat} {s0 sl : Nat} (hc : ∀ s k, cm s k ≤ 10) (hs : sl < 12) : sm (pt (fun s => if s = sl then 1 else 2) cm s0 12) 12 = pt fr2 cm s0 (sl + 1) 1 := by
  have h1 := pt_free (m := fun s => if s = sl then 1 else 2) (s0 := s0) (a := sl + 1) hc (12 - (sl + 1)) (by omega) (fun s a b => if_neg (by omega))
  rw [show sl + 1 + (12 - (sl + 1)) = 12 by omega] at h1
  rw [h1]
  have e1 : pt (fun s => if s = sl then 1 else 2) cm s0 (sl + 1) = fun j => if j = 1 then pt fr2 cm s0 (sl + 1) 1 else 0 := by
    funext j
    show sp (if sl = sl then 1 else 2) (cm sl) (pt (fun s => if s = sl then 1 else 2) cm s0 sl) 12 j = (if j = 1 then sp 2 (cm sl) (pt fr2 cm s0 sl) 12 1 else 0)
    rw [if_pos rfl, pt_cg (m2 := fr2) cm s0 sl (fun s h => if_neg (by omega)), sp_came]
  rw [e1, sm_one, if_pos (by omega)]
theorem sp_one {cm : Nat → Nat} {a b : Nat} (ha : 1 ≤ a) : ∀ n j, sp 0 cm (fun k => if k = a then b else 0) n j = if a ≤ n ∧ j = lat a then b / 10 * (10 - cm a) else 0
  | 0, j => by rw [if_neg (by omega)]; rfl
  | n + 1, j => by
    show sp 0 cm (fun k => if k = a then b else 0) n j + (if j = 1 ∧ 0 ≠ 0 then _ else 0) + (if j = lat (n + 1) ∧ 0 ≠ 1 then (if n + 1 = a then b else 0) / 10 * (10 - cm (n + 1)) else 0) = _
    rw [sp_one ha n j, if_neg (c := j = 1 ∧ 0 ≠ 0) (fun z => z.2 rfl)]
    by_cases e : n + 1 = a
    · subst e
      rw [if_neg (by omega), if_pos rfl]
      by_cases f : j = lat (n + 1)
      · rw [if_pos ⟨f, by decide⟩, if_pos ⟨Nat.le_refl _, f⟩]; omega
      · rw [if_neg (fun z => f z.1), if_neg (fun z => f z.2)]
    · rw [if_neg e]
      by_cases f : a ≤ n ∧ j = lat a
      · rw [if_pos f, if_pos (c := a ≤ n + 1 ∧ j = lat a) ⟨by omega, f.2⟩]; simp
      · rw [if_neg f, if_neg (c := a ≤ n + 1 ∧ j = lat a) (fun z => f ⟨by omega, z.2⟩)]; simp
theorem pt_nc {m : Nat → Nat} {cm : Nat → Nat → Nat} {s0 : Nat} (h1 : 1 ≤ s0) (h2 : s0 ≤ 12) : ∀ t, (∀ s, s < t → m s = 0) → pt m cm s0 t = fun j => if j = (nc cm s0 t).2 then (nc cm s0 t).1 else 0
  | 0, _ => rfl
  | t + 1, h => by
    obtain ⟨a, b, c⟩ := nc_le cm s0 h1 h2 t
    funext j
    show sp (m t) (cm t) (pt m cm s0 t) 12 j = (if j = lat (nc cm s0 t).2 then (nc cm s0 t).1 / 10 * (10 - cm t (nc cm s0 t).2) else 0)
    rw [h t (by omega), pt_nc h1 h2 t (fun s hs => h s (by omega)), sp_one b]
    by_cases f : j = lat (nc cm s0 t).2
    · rw [if_pos f, if_pos ⟨c, f⟩]
    · rw [if_neg f, if_neg (fun z => f z.2)]
/-- the chance that he has not come -/
theorem lik_1 {cm : Nat → Nat → Nat} {s0 sl : Nat} (hc : ∀ s k, cm s k ≤ 10) (h1 : 1 ≤ s0) (h2 : s0 ≤ 12) (hs : sl < 12) : sm (pt (fun s => if s ≤ sl then 0 else 2) cm s0 12) 12 = (nc cm s0 (sl + 1)).1 := by
  have e1 := pt_free (m := fun s => if s ≤ sl then 0 else 2) (s0 := s0) (a := sl + 1) hc (12 - (sl + 1)) (by omega) (fun s a b => if_neg (by omega))
  rw [show sl + 1 + (12 - (sl + 1)) = 12 by omega] at e1
  obtain ⟨a, b, c⟩ := nc_le cm s0 h1 h2 (sl + 1)
  rw [e1, pt_nc h1 h2 (sl + 1) (fun s hs => if_pos (by omega)), sm_one, if_pos ⟨b, c⟩]
