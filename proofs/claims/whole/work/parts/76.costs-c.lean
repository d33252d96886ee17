theorem mkI_dec {m : Nat} (h : m < 1000) : nI m + Int32.ofInt (-1) = mkI m := by
  cases m with
  | zero => decide
  | succ m => rw [mkI_s, nI_dec (by omega)]; rfl
def cpv (cm : Nat → Nat → Nat) (s0 s k : Nat) : Nat := pt fr2 cm s0 s k / 10 * cm s k
def tdv (cp : Nat → Nat → Nat) (sb : Nat → Nat → Bool) (fo : Nat → Nat → Option Nat) (s : Nat) : Nat → Nat := sm (fun k => if sb s k = true then 0 else (fo s k).elim 0 (fun t => cp s k * t))
def tav (cp : Nat → Nat → Nat) (sb : Nat → Nat → Bool) (fo : Nat → Nat → Option Nat) (s : Nat) : Nat → Nat := sm (fun k => if sb s k = true then 0 else (fo s k).elim (cp s k) (fun _ => 0))
/-- from a slot on to the last -/
def sD (f : Nat → Nat) (ti : Nat) : Nat → Nat
  | 0 => 0
  | j + 1 => sD f ti j + f (ti - j)
def tfv (f : Nat → Nat) (ti s : Nat) : Nat := sD f ti (ti + 1 - s)
theorem tfv_s {f : Nat → Nat} {ti s : Nat} (h : s ≤ ti) : tfv f ti s = tfv f ti (s + 1) + f s := by
  unfold tfv
  rw [show ti + 1 - s = (ti - s) + 1 by omega, show ti + 1 - (s + 1) = ti - s by omega]
  show sD f ti (ti - s) + f (ti - (ti - s)) = _
  rw [show ti - (ti - s) = s by omega]
theorem tfv_z {f : Nat → Nat} {ti s : Nat} (h : ti < s) : tfv f ti s = 0 := by unfold tfv; rw [show ti + 1 - s = 0 by omega]; rfl
theorem sm_cg (f g : Nat → Nat) : ∀ n, (∀ k, 1 ≤ k → k ≤ n → f k = g k) → sm f n = sm g n
  | 0, _ => rfl
  | n + 1, h => by show sm f n + f (n + 1) = sm g n + g (n + 1); rw [sm_cg f g n (fun k a b => h k a (by omega)), h (n + 1) (by omega) (by omega)]
theorem td_ta (cp : Nat → Nat → Nat) (sb : Nat → Nat → Bool) (fo : Nat → Nat → Option Nat) (s f n : Nat) : tdv cp sb fo s n + tav cp sb fo s n * f = sm (fun k => cp s k * (if sb s k = true then 0 else (fo s k).getD f)) n := by
  unfold tdv tav
  rw [← sm_mul, ← sm_add]
  refine sm_cg _ _ n (fun k _ _ => ?_)
  cases sb s k with
  | true => simp
  | false =>
    cases fo s k with
    | none => simp
    | some t => simp
theorem sI_sh (f : Nat → Nat) : ∀ m a, sI f a (m + 1) = f a + sI f (a + 1) m
  | 0, a => by show 0 + f (a + 0) = f a + 0; simp
  | m + 1, a => by
    show sI f a (m + 1) + f (a + (m + 1)) = f a + (sI f (a + 1) m + f (a + 1 + m))
    rw [sI_sh f m a, show a + (m + 1) = a + 1 + m by omega]; omega
theorem sD_sI (f : Nat → Nat) (ti : Nat) : ∀ j, j ≤ ti + 1 → sD f ti j = sI f (ti + 1 - j) j
  | 0, _ => rfl
  | j + 1, h => by
    show sD f ti j + f (ti - j) = _
    rw [sI_sh, sD_sI f ti j (by omega), show ti + 1 - (j + 1) = ti - j by omega, show ti + 1 - j = ti - j + 1 by omega]; omega
theorem sI_cut (mf : Nat → Nat) (pd fr : Nat) : ∀ m, sI (fun s => if pd ≤ s - fr then mf s else 0) fr m = sI mf (fr + pd) (m - pd)
  | 0 => by simp [sI]
  | m + 1 => by
    show sI _ fr m + (if pd ≤ fr + m - fr then mf (fr + m) else 0) = _
    rw [sI_cut mf pd fr m, show fr + m - fr = m by omega]
    by_cases h : pd ≤ m
    · rw [if_pos h, show m + 1 - pd = (m - pd) + 1 by omega]
      show _ = sI mf (fr + pd) (m - pd) + mf (fr + pd + (m - pd))
      rw [show fr + pd + (m - pd) = fr + m by omega]
    · rw [if_neg h, show m + 1 - pd = 0 by omega, show m - pd = 0 by omega]; rfl
theorem tfv_add (f g : Nat → Nat) (ti : Nat) (c : Nat) : ∀ j, sD (fun s => f s + g s * c) ti j = sD f ti j + sD g ti j * c
  | 0 => by simp [sD]
  | j + 1 => by
    show sD (fun s => f s + g s * c) ti j + (f (ti - j) + g (ti - j) * c) = sD f ti j + f (ti - j) + (sD g ti j + g (ti - j)) * c
    rw [tfv_add f g ti c j, Nat.add_mul]; omega
/-- what n coins cost at first, by what is told and what is asked -/
theorem co1_t {coin per fr ti : Nat} {td ta : Nat → Nat} {f n : Nat} (hf : fr ≤ ti) (ht : ti ≤ 11) : 1000000000000 * (n * coin) + tfv td ti (min 12 (fr + pdb per 0 n)) + tfv ta ti (min 12 (fr + pdb per 0 n)) * f = co1 coin per fr ti (fun s => td s + ta s * f) n := by
  unfold co1
  rw [sI_cut]
  have e : tfv td ti (min 12 (fr + pdb per 0 n)) + tfv ta ti (min 12 (fr + pdb per 0 n)) * f = sI (fun s => td s + ta s * f) (fr + pdb per 0 n) (ti + 1 - fr - pdb per 0 n) := by
    unfold tfv
    rw [← tfv_add]
    by_cases h : fr + pdb per 0 n ≤ ti
    · rw [Nat.min_eq_right (by omega), sD_sI _ _ _ (by omega), show ti + 1 - (ti + 1 - (fr + pdb per 0 n)) = fr + pdb per 0 n by omega, show ti + 1 - (fr + pdb per 0 n) = ti + 1 - fr - pdb per 0 n by omega]
    · rw [show ti + 1 - min 12 (fr + pdb per 0 n) = 0 by omega, show ti + 1 - fr - pdb per 0 n = 0 by omega]; rfl
  rw [Nat.add_assoc, e, Nat.mul_assoc]
theorem fa_at (v : Nat → Nat) : ∀ n, v (fa v n).2.1 = (fa v n).1 ∧ ∀ j, j ≤ n → (fa v n).1 ≤ v j
  | 0 => ⟨rfl, fun j hj => by rw [show j = 0 by omega]; exact Nat.le_refl _⟩
  | n + 1 => by
    obtain ⟨h1, h2⟩ := fa_at v n
    unfold fa
    by_cases a : v (n + 1) < (fa v n).1
    · rw [if_pos a]
      refine ⟨rfl, fun j hj => ?_⟩
      by_cases e : j = n + 1
      · rw [e]; exact Nat.le_refl _
      · have := h2 j (by omega); show v (n + 1) ≤ v j; omega
    · rw [if_neg a]
      by_cases b : v (n + 1) = (fa v n).1
      · rw [if_pos b]
        refine ⟨h1, fun j hj => ?_⟩
        by_cases e : j = n + 1
        · rw [e]; show (fa v n).1 ≤ _; omega
        · exact h2 j (by omega)
      · rw [if_neg b]
        refine ⟨h1, fun j hj => ?_⟩
        by_cases e : j = n + 1
        · rw [e]; omega
        · exact h2 j (by omega)
/-- how many of v 0 .. v (n - 1) are x -/
def cnt (v : Nat → Nat) (x : Nat) : Nat → Nat
  | 0 => 0
  | n + 1 => cnt v x n + (if v n = x then 1 else 0)
theorem cnt_0 (v : Nat → Nat) (x : Nat) : ∀ n, (∀ j, j < n → v j ≠ x) → cnt v x n = 0
  | 0, _ => rfl
  | n + 1, h => by show cnt v x n + _ = 0; rw [cnt_0 v x n (fun j hj => h j (by omega)), if_neg (h n (by omega))]
theorem cnt_le (v : Nat → Nat) (x : Nat) : ∀ n, cnt v x n ≤ n
  | 0 => Nat.le_refl _
  | n + 1 => by show cnt v x n + _ ≤ _; have := cnt_le v x n; split <;> omega
theorem fa_cnt (v : Nat → Nat) : ∀ n, cnt v (fa v n).1 (n + 1) = (fa v n).2.2
  | 0 => by show 0 + (if v 0 = v 0 then 1 else 0) = 1; rw [if_pos rfl]
  | n + 1 => by
    have ih := fa_cnt v n
    obtain ⟨h1, h2⟩ := fa_at v n
    show cnt v (fa v (n + 1)).1 (n + 1) + (if v (n + 1) = (fa v (n + 1)).1 then 1 else 0) = _
    unfold fa
    by_cases a : v (n + 1) < (fa v n).1
    · rw [if_pos a]
      show cnt v (v (n + 1)) (n + 1) + (if v (n + 1) = v (n + 1) then 1 else 0) = 1
      rw [if_pos rfl, cnt_0 v _ _ (fun j hj e => by have := h2 j (by omega); omega)]
    · rw [if_neg a]
      by_cases b : v (n + 1) = (fa v n).1
      · rw [if_pos b]
        show cnt v (fa v n).1 (n + 1) + (if v (n + 1) = (fa v n).1 then 1 else 0) = (fa v n).2.2 + 1
        rw [if_pos b, ih]
      · rw [if_neg b]
        show cnt v (fa v n).1 (n + 1) + (if v (n + 1) = (fa v n).1 then 1 else 0) = (fa v n).2.2
        rw [if_neg b, ih]; omega
/-- told and asked fines, from each slot on -/
def TFs (L : wL) (td ta : Nat → Nat) (fr ti : Nat) : Prop := ∀ s, fr ≤ s → s ≤ 12 → L 33 s = lN (tfv td ti s) ∧ L 34 s = lN (tfv ta ti s)
theorem TFs.of {L L2 : wL} {td ta : Nat → Nat} {fr ti : Nat} (h : TFs L td ta fr ti) (e1 : L2 33 = L 33) (e2 : L2 34 = L 34) : TFs L2 td ta fr ti := by unfold TFs; rw [e1, e2]; exact h
set_option maxHeartbeats 2000000 in
theorem r0_rf1 {l : Launch} {K : cK} {d : Nat} {I : wI} {L : wL} {R : wR} {dy : cH} {Q : Option Value → cH → Prop} (g : Nat → Int32) (wa : Int32) (lc : Option (List Cl)) (hL : LWc dy (R 21 1) lc) (s0 : Nat) (cm : Nat → Nat → Nat) (hcm : cm = cmR g wa (lfO lc)) (c fr ti se fl coin per fine : Nat) (s : Nat) (hs1 : fr ≤ s) (hs2 : s ≤ ti) (hd : 4 ≤ d)
    (kk : ∀ (I3 : wI) (L3 : wL), (FK [22, 23] [22, 24, 33, 34] I L I3 L3 ∧ WW I3 g wa ∧ STA I3 c fr ti se fl coin per fine ∧ SPD I3 L3 fr2 cm s0) ∧ (∀ q, s ≤ q → q ≤ 12 → L3 33 q = lN (tfv (fun s => tdv (cpv cm s0) (sbR g wa (lfO lc) c fr) (fun s k => fiO lc (ceR g wa c fr s k)) s 12) ti q) ∧ L3 34 q = lN (tfv (fun s => tav (cpv cm s0) (sbR g wa (lfO lc) c fr) (fun s k => fiO lc (ceR g wa c fr s k)) s 12) ti q)) → GL l K m0_reckonFines d 0 0 160 [(0, .ref 29), (1, .int (nI s))] [] (hp I3 L3 R dy) Q) :
    ∀ (n k : Nat) (I2 : wI) (L2 : wL), k + n = 12 → (FK [22, 23] [22, 24, 33, 34] I L I2 L2 ∧ WW I2 g wa ∧ STA I2 c fr ti se fl coin per fine ∧ SPD I2 L2 fr2 cm s0) ∧ (∀ q, s + 1 ≤ q → q ≤ 12 → L2 33 q = lN (tfv (fun s => tdv (cpv cm s0) (sbR g wa (lfO lc) c fr) (fun s k => fiO lc (ceR g wa c fr s k)) s 12) ti q) ∧ L2 34 q = lN (tfv (fun s => tav (cpv cm s0) (sbR g wa (lfO lc) c fr) (fun s k => fiO lc (ceR g wa c fr s k)) s 12) ti q)) ∧ L2 33 s = lN (tfv (fun s => tdv (cpv cm s0) (sbR g wa (lfO lc) c fr) (fun s k => fiO lc (ceR g wa c fr s k)) s 12) ti (s + 1) + tdv (cpv cm s0) (sbR g wa (lfO lc) c fr) (fun s k => fiO lc (ceR g wa c fr s k)) s k) ∧ L2 34 s = lN (tfv (fun s => tav (cpv cm s0) (sbR g wa (lfO lc) c fr) (fun s k => fiO lc (ceR g wa c fr s k)) s 12) ti (s + 1) + tav (cpv cm s0) (sbR g wa (lfO lc) c fr) (fun s k => fiO lc (ceR g wa c fr s k)) s k) → GL l K m0_reckonFines d 0 0 65 [(0, .ref 29), (1, .int (nI s)), (2, .int (nI (k + 1)))] [] (hp I2 L2 R dy) Q := by
  have hcm9 : ∀ s k, cm s k ≤ 10 := fun s k => by rw [hcm]; exact cmR_le g wa (lfO lc) s k
  intro n
  induction n with
  | zero =>
    intro k I2 L2 hk hI
    obtain rfl : k = 12 := by omega
    obtain ⟨⟨i1, i2, i3, i4⟩, i5, i6, i7⟩ := hI
    obtain ⟨u0, u1, u2, u3, u4, u5, u6, u7, u8, u9, u10, u11, u12, u13, u14, u15⟩ := id i3
    refine g_iload_n d0_reckonFines_65 rfl ?_
    refine g_bipushv (nI 12) d0_reckonFines_66 rfl ?_
    refine g_ic_gt (13) (12) 160 (by decide) (by decide) d0_reckonFines_68 rfl (fun _ => ?_) (fun c68 => absurd c68 (by decide))
    refine g_lo [(0, .ref 29), (1, .int (nI s))] ⟨rfl, rfl, trivial⟩ ?_
    exact kk I2 L2 ⟨⟨i1, i2, i3, i4⟩, fun q a b => if e : q = s then (by subst e; rw [tfv_s (f := (fun s => tdv (cpv cm s0) (sbR g wa (lfO lc) c fr) (fun s k => fiO lc (ceR g wa c fr s k)) s 12)) hs2, tfv_s (f := (fun s => tav (cpv cm s0) (sbR g wa (lfO lc) c fr) (fun s k => fiO lc (ceR g wa c fr s k)) s 12)) hs2]; exact ⟨i6, i7⟩) else i5 q (by omega) b⟩
  | succ n ih =>
    intro k I2 L2 hk hI
    obtain ⟨⟨i1, i2, i3, i4⟩, i5, i6, i7⟩ := hI
    obtain ⟨u0, u1, u2, u3, u4, u5, u6, u7, u8, u9, u10, u11, u12, u13, u14, u15⟩ := id i3
    have hP9 : pt fr2 cm s0 s (k + 1) ≤ 1000000000000 := pt_le fr2 cm s0 hcm9 (by omega) (by omega)
    have hcp : cpv cm s0 s (k + 1) ≤ 1000000000000 := Nat.le_trans (away_eq (pt_ten (by omega) (k + 1)) (hcm9 s (k + 1))).2 hP9
    have hd1 : tdv (cpv cm s0) (sbR g wa (lfO lc) c fr) (fun s k => fiO lc (ceR g wa c fr s k)) s (k + 1) = tdv (cpv cm s0) (sbR g wa (lfO lc) c fr) (fun s k => fiO lc (ceR g wa c fr s k)) s k + (if (sbR g wa (lfO lc) c fr) s (k + 1) = true then 0 else (fiO lc (ceR g wa c fr s (k + 1))).elim 0 (fun t => cpv cm s0 s (k + 1) * t)) := rfl
    have ha1 : tav (cpv cm s0) (sbR g wa (lfO lc) c fr) (fun s k => fiO lc (ceR g wa c fr s k)) s (k + 1) = tav (cpv cm s0) (sbR g wa (lfO lc) c fr) (fun s k => fiO lc (ceR g wa c fr s k)) s k + (if (sbR g wa (lfO lc) c fr) s (k + 1) = true then 0 else (fiO lc (ceR g wa c fr s (k + 1))).elim (cpv cm s0 s (k + 1)) (fun _ => 0)) := rfl
    by_cases h0 : cpv cm s0 s (k + 1) = 0
    · skip
      refine g_iload_n d0_reckonFines_65 rfl ?_
      refine g_bipushv (nI 12) d0_reckonFines_66 rfl ?_
      refine g_ic_gt (((k + 1) : Nat) : Int) (12) 160 (nI_ti (by omega)) (by decide) d0_reckonFines_68 rfl (fun c68 => absurd c68 (by omega)) (fun _ => ?_)
      refine g_aload_n d0_reckonFines_71 rfl ?_
      refine g_get fl0_38 d0_reckonFines_72 f_29_0 ?_
      refine g_iload_n d0_reckonFines_75 rfl ?_
      refine g_iload_n d0_reckonFines_76 rfl ?_
      refine g_EV2 vm10_cameParts ml0_61 c_21 (r10_came0 (I := I2) (L := L2) s (k + 1) (pt fr2 cm s0 s (k + 1)) (cm s (k + 1)) (by omega) (by omega) (i4.1 s (by omega) (k + 1) (by omega)) (by omega) (i4.2 s (by omega) (k + 1) (by omega) (by omega)) (hcm9 _ _) (Nat.le_refl 0)) (by omega) (Nat.le_of_ble_eq_true rfl) d0_reckonFines_77 ?_
      refine g_topL (lN ((cpv cm s0 s (k + 1)))) (rfl) ?_
      refine g_lstore_n d0_reckonFines_80 (by decide) ?_
      refine g_lload_n d0_reckonFines_81 rfl ?_
      refine g_lconstv (0) d0_reckonFines_82 rfl ?_
      refine g_lx_eq (((cpv cm s0 s (k + 1)) : Nat) : Int) (0) 154 (pk_lT (by omega)) (by decide) d0_reckonFines_83 d0_reckonFines_84 rfl (fun _ => ?_) (fun c83 => absurd c83 (by omega))
      refine g_iincN d0_reckonFines_154 rfl (by decide) ?_
      refine g_goto 65 d0_reckonFines_157 rfl ?_
      refine g_lo [(0, .ref 29), (1, .int (nI s)), (2, .int (nI (k + 1 + 1)))] ⟨rfl, rfl, rfl, trivial⟩ ?_
      refine ih (k + 1) I2 L2 (by omega) ⟨⟨i1, i2, i3, i4⟩, i5, ?_, ?_⟩
      · rw [hd1, h0, i6]; cases fiO lc (ceR g wa c fr s (k + 1)) <;> simp
      · rw [ha1, h0, i7]; cases fiO lc (ceR g wa c fr s (k + 1)) <;> simp
    · by_cases hsb : (sbR g wa (lfO lc) c fr) s (k + 1) = true
      · rw [if_pos hsb] at hd1 ha1
        refine g_iload_n d0_reckonFines_65 rfl ?_
        refine g_bipushv (nI 12) d0_reckonFines_66 rfl ?_
        refine g_ic_gt (((k + 1) : Nat) : Int) (12) 160 (nI_ti (by omega)) (by decide) d0_reckonFines_68 rfl (fun c68 => absurd c68 (by omega)) (fun _ => ?_)
        refine g_aload_n d0_reckonFines_71 rfl ?_
        refine g_get fl0_38 d0_reckonFines_72 f_29_0 ?_
        refine g_iload_n d0_reckonFines_75 rfl ?_
        refine g_iload_n d0_reckonFines_76 rfl ?_
        refine g_EV2 vm10_cameParts ml0_61 c_21 (r10_came0 (I := I2) (L := L2) s (k + 1) (pt fr2 cm s0 s (k + 1)) (cm s (k + 1)) (by omega) (by omega) (i4.1 s (by omega) (k + 1) (by omega)) (by omega) (i4.2 s (by omega) (k + 1) (by omega) (by omega)) (hcm9 _ _) (Nat.le_refl 0)) (by omega) (Nat.le_of_ble_eq_true rfl) d0_reckonFines_77 ?_
        refine g_topL (lN ((cpv cm s0 s (k + 1)))) (rfl) ?_
        refine g_lstore_n d0_reckonFines_80 (by decide) ?_
        refine g_lload_n d0_reckonFines_81 rfl ?_
        refine g_lconstv (0) d0_reckonFines_82 rfl ?_
        refine g_lx_eq (((cpv cm s0 s (k + 1)) : Nat) : Int) (0) 154 (pk_lT (by omega)) (by decide) d0_reckonFines_83 d0_reckonFines_84 rfl (fun c83 => absurd c83 (by omega)) (fun _ => ?_)
        refine g_aload_n d0_reckonFines_87 rfl ?_
        refine g_get fl0_38 d0_reckonFines_88 f_29_0 ?_
        refine g_iload_n d0_reckonFines_91 rfl ?_
        refine g_iload_n d0_reckonFines_92 rfl ?_
        refine g_aload_n d0_reckonFines_93 rfl ?_
        refine g_get fl0_42 d0_reckonFines_94 f_29_1 ?_
        refine g_XV3 vm10_sparesCar ml0_67 c_21 (r10_spares (I := I2) (L := L2) g wa i2 lc hL c fr ti se fl coin per fine i3 s (k + 1) hs1 (by omega) (by omega) (Nat.le_refl 3)) (by omega) (Nat.le_of_ble_eq_true rfl) d0_reckonFines_97 (fun x hx => ?_)
        obtain ⟨I4, L4⟩ := x
        obtain ⟨f1, w1⟩ := hx
        dsimp only at f1 w1 ⊢
        have z4 : STA I4 c fr ti se fl coin per fine := i3.of (f1.1 28 (by decide))
        have p4 : SPD I4 L4 fr2 cm s0 := i4.of (f1.1 26 (by decide)) (f1.2 27 (by decide))
        have e33 : L4 33 = L2 33 := f1.2 33 (by decide)
        have e34 : L4 34 = L2 34 := f1.2 34 (by decide)
        have g1 : FK [22, 23] [22, 24, 33, 34] I L I4 L4 := i1.tr (f1.up (by decide) (by decide))
        refine g_bz 106 d0_reckonFines_100 rfl (fun c100 => absurd (hsb) c100) (fun _ => ?_)
        refine g_goto 154 d0_reckonFines_103 rfl ?_
        refine g_iincN d0_reckonFines_154 rfl (by decide) ?_
        refine g_goto 65 d0_reckonFines_157 rfl ?_
        refine g_lo [(0, .ref 29), (1, .int (nI s)), (2, .int (nI (k + 1 + 1)))] ⟨rfl, rfl, rfl, trivial⟩ ?_
        refine ih (k + 1) I4 L4 (by omega) ⟨⟨g1, w1, z4, p4⟩, ?_, ?_, ?_⟩
        · rw [e33, e34]; exact i5
        · rw [hd1, e33]; exact i6
        · rw [ha1, e34]; exact i7
      · rw [if_neg hsb] at hd1 ha1
        cases hfo : fiO lc (ceR g wa c fr s (k + 1)) with
        | none =>
          rw [hfo] at hd1 ha1
          refine g_iload_n d0_reckonFines_65 rfl ?_
          refine g_bipushv (nI 12) d0_reckonFines_66 rfl ?_
          refine g_ic_gt (((k + 1) : Nat) : Int) (12) 160 (nI_ti (by omega)) (by decide) d0_reckonFines_68 rfl (fun c68 => absurd c68 (by omega)) (fun _ => ?_)
          refine g_aload_n d0_reckonFines_71 rfl ?_
          refine g_get fl0_38 d0_reckonFines_72 f_29_0 ?_
          refine g_iload_n d0_reckonFines_75 rfl ?_
          refine g_iload_n d0_reckonFines_76 rfl ?_
          refine g_EV2 vm10_cameParts ml0_61 c_21 (r10_came0 (I := I2) (L := L2) s (k + 1) (pt fr2 cm s0 s (k + 1)) (cm s (k + 1)) (by omega) (by omega) (i4.1 s (by omega) (k + 1) (by omega)) (by omega) (i4.2 s (by omega) (k + 1) (by omega) (by omega)) (hcm9 _ _) (Nat.le_refl 0)) (by omega) (Nat.le_of_ble_eq_true rfl) d0_reckonFines_77 ?_
          refine g_topL (lN ((cpv cm s0 s (k + 1)))) (rfl) ?_
          refine g_lstore_n d0_reckonFines_80 (by decide) ?_
          refine g_lload_n d0_reckonFines_81 rfl ?_
          refine g_lconstv (0) d0_reckonFines_82 rfl ?_
          refine g_lx_eq (((cpv cm s0 s (k + 1)) : Nat) : Int) (0) 154 (pk_lT (by omega)) (by decide) d0_reckonFines_83 d0_reckonFines_84 rfl (fun c83 => absurd c83 (by omega)) (fun _ => ?_)
          refine g_aload_n d0_reckonFines_87 rfl ?_
          refine g_get fl0_38 d0_reckonFines_88 f_29_0 ?_
          refine g_iload_n d0_reckonFines_91 rfl ?_
          refine g_iload_n d0_reckonFines_92 rfl ?_
          refine g_aload_n d0_reckonFines_93 rfl ?_
          refine g_get fl0_42 d0_reckonFines_94 f_29_1 ?_
          refine g_XV3 vm10_sparesCar ml0_67 c_21 (r10_spares (I := I2) (L := L2) g wa i2 lc hL c fr ti se fl coin per fine i3 s (k + 1) hs1 (by omega) (by omega) (Nat.le_refl 3)) (by omega) (Nat.le_of_ble_eq_true rfl) d0_reckonFines_97 (fun x hx => ?_)
          obtain ⟨I4, L4⟩ := x
          obtain ⟨f1, w1⟩ := hx
          dsimp only at f1 w1 ⊢
          have z4 : STA I4 c fr ti se fl coin per fine := i3.of (f1.1 28 (by decide))
          have p4 : SPD I4 L4 fr2 cm s0 := i4.of (f1.1 26 (by decide)) (f1.2 27 (by decide))
          have e33 : L4 33 = L2 33 := f1.2 33 (by decide)
          have e34 : L4 34 = L2 34 := f1.2 34 (by decide)
          have g1 : FK [22, 23] [22, 24, 33, 34] I L I4 L4 := i1.tr (f1.up (by decide) (by decide))
          refine g_bz 106 d0_reckonFines_100 rfl (fun _ => ?_) (fun c100 => absurd c100 (hsb))
          refine g_aload_n d0_reckonFines_106 rfl ?_
          refine g_get fl0_38 d0_reckonFines_107 f_29_0 ?_
          refine g_iload_n d0_reckonFines_110 rfl ?_
          refine g_iload_n d0_reckonFines_111 rfl ?_
          refine g_aload_n d0_reckonFines_112 rfl ?_
          refine g_get fl0_42 d0_reckonFines_113 f_29_1 ?_
          refine g_XV3 vm10_finesTold ml0_71 c_21 (r10_told (I := I4) (L := L4) g wa w1 lc hL c fr ti se fl coin per fine z4 s (k + 1) hs1 (by omega) (by omega) (Nat.le_refl 3)) (by omega) (Nat.le_of_ble_eq_true rfl) d0_reckonFines_116 (fun y hy => ?_)
          obtain ⟨I5, L5⟩ := y
          obtain ⟨f2, w2⟩ := hy
          dsimp only at f2 w2 ⊢
          rw [hfo]
          have z5 : STA I5 c fr ti se fl coin per fine := z4.of (f2.1 28 (by decide))
          have p5 : SPD I5 L5 fr2 cm s0 := p4.of (f2.1 26 (by decide)) (f2.2 27 (by decide))
          have e335 : L5 33 = L2 33 := (f2.2 33 (by decide)).trans e33
          have e345 : L5 34 = L2 34 := (f2.2 34 (by decide)).trans e34
          have g2 : FK [22, 23] [22, 24, 33, 34] I L I5 L5 := g1.tr (f2.up (by decide) (by decide))
          refine g_topI (-1) rfl ?_
          refine g_istore d0_reckonFines_119 (by decide) ?_
          refine g_iload d0_reckonFines_121 rfl ?_
          refine g_iconstv ((-1 : Int32)) d0_reckonFines_123 rfl ?_
          refine g_ic_ne (-1) (-1) 140 (by decide) (by decide) d0_reckonFines_124 rfl (fun c124 => absurd c124 (by decide)) (fun _ => ?_)
          refine g_aload_n d0_reckonFines_127 rfl ?_
          refine g_get fl0_22 d0_reckonFines_128 f_29_4 ?_
          refine g_iload_n d0_reckonFines_131 rfl ?_
          refine g_dup2 d0_reckonFines_132 rfl rfl ?_
          refine g_laldN (s) d0_reckonFines_133 a_34 (rfl) (by omega) (by decide) ?_
          refine g_topL (lN ((tfv (fun s => tav (cpv cm s0) (sbR g wa (lfO lc) c fr) (fun s k => fiO lc (ceR g wa c fr s k)) s 12) ti (s + 1) + tav (cpv cm s0) (sbR g wa (lfO lc) c fr) (fun s k => fiO lc (ceR g wa c fr s k)) s k))) (by rw [e345]; exact i7) ?_
          refine g_lload_n d0_reckonFines_134 rfl ?_
          refine g_ladd d0_reckonFines_135 ?_
          refine g_topL (lN ((tfv (fun s => tav (cpv cm s0) (sbR g wa (lfO lc) c fr) (fun s k => fiO lc (ceR g wa c fr s k)) s 12) ti (s + 1) + tav (cpv cm s0) (sbR g wa (lfO lc) c fr) (fun s k => fiO lc (ceR g wa c fr s k)) s k) + (cpv cm s0 s (k + 1)))) (lN_add _ _) ?_
          refine g_lastN (s) _ d0_reckonFines_136 a_34 (rfl) (by omega) (by decide) t_34 ?_
          refine g_goto 154 d0_reckonFines_137 rfl ?_
          refine g_iincN d0_reckonFines_154 rfl (by decide) ?_
          refine g_goto 65 d0_reckonFines_157 rfl ?_
          refine g_lo [(0, .ref 29), (1, .int (nI s)), (2, .int (nI (k + 1 + 1)))] ⟨rfl, rfl, rfl, trivial⟩ ?_
          refine ih (k + 1) I5 _ (by omega) ⟨⟨g2.ul (by decide), w2, z5, p5.of rfl (uL_n (by decide))⟩, fun q a b => ?_, ?_, ?_⟩
          · rw [uL_n (by decide), uL_sn (by omega), e335, e345]; exact i5 q a b
          · rw [uL_n (by decide), hd1, e335]; exact i6
          · rw [uL_ss, ha1, Nat.add_assoc]; rfl
        | some t =>
          rw [hfo] at hd1 ha1
          have ht9 : t ≤ 99 := fiO_le hfo
          refine g_iload_n d0_reckonFines_65 rfl ?_
          refine g_bipushv (nI 12) d0_reckonFines_66 rfl ?_
          refine g_ic_gt (((k + 1) : Nat) : Int) (12) 160 (nI_ti (by omega)) (by decide) d0_reckonFines_68 rfl (fun c68 => absurd c68 (by omega)) (fun _ => ?_)
          refine g_aload_n d0_reckonFines_71 rfl ?_
          refine g_get fl0_38 d0_reckonFines_72 f_29_0 ?_
          refine g_iload_n d0_reckonFines_75 rfl ?_
          refine g_iload_n d0_reckonFines_76 rfl ?_
          refine g_EV2 vm10_cameParts ml0_61 c_21 (r10_came0 (I := I2) (L := L2) s (k + 1) (pt fr2 cm s0 s (k + 1)) (cm s (k + 1)) (by omega) (by omega) (i4.1 s (by omega) (k + 1) (by omega)) (by omega) (i4.2 s (by omega) (k + 1) (by omega) (by omega)) (hcm9 _ _) (Nat.le_refl 0)) (by omega) (Nat.le_of_ble_eq_true rfl) d0_reckonFines_77 ?_
          refine g_topL (lN ((cpv cm s0 s (k + 1)))) (rfl) ?_
          refine g_lstore_n d0_reckonFines_80 (by decide) ?_
          refine g_lload_n d0_reckonFines_81 rfl ?_
          refine g_lconstv (0) d0_reckonFines_82 rfl ?_
          refine g_lx_eq (((cpv cm s0 s (k + 1)) : Nat) : Int) (0) 154 (pk_lT (by omega)) (by decide) d0_reckonFines_83 d0_reckonFines_84 rfl (fun c83 => absurd c83 (by omega)) (fun _ => ?_)
          refine g_aload_n d0_reckonFines_87 rfl ?_
          refine g_get fl0_38 d0_reckonFines_88 f_29_0 ?_
          refine g_iload_n d0_reckonFines_91 rfl ?_
          refine g_iload_n d0_reckonFines_92 rfl ?_
          refine g_aload_n d0_reckonFines_93 rfl ?_
          refine g_get fl0_42 d0_reckonFines_94 f_29_1 ?_
          refine g_XV3 vm10_sparesCar ml0_67 c_21 (r10_spares (I := I2) (L := L2) g wa i2 lc hL c fr ti se fl coin per fine i3 s (k + 1) hs1 (by omega) (by omega) (Nat.le_refl 3)) (by omega) (Nat.le_of_ble_eq_true rfl) d0_reckonFines_97 (fun x hx => ?_)
          obtain ⟨I4, L4⟩ := x
          obtain ⟨f1, w1⟩ := hx
          dsimp only at f1 w1 ⊢
          have z4 : STA I4 c fr ti se fl coin per fine := i3.of (f1.1 28 (by decide))
          have p4 : SPD I4 L4 fr2 cm s0 := i4.of (f1.1 26 (by decide)) (f1.2 27 (by decide))
          have e33 : L4 33 = L2 33 := f1.2 33 (by decide)
          have e34 : L4 34 = L2 34 := f1.2 34 (by decide)
          have g1 : FK [22, 23] [22, 24, 33, 34] I L I4 L4 := i1.tr (f1.up (by decide) (by decide))
          refine g_bz 106 d0_reckonFines_100 rfl (fun _ => ?_) (fun c100 => absurd c100 (hsb))
          refine g_aload_n d0_reckonFines_106 rfl ?_
          refine g_get fl0_38 d0_reckonFines_107 f_29_0 ?_
          refine g_iload_n d0_reckonFines_110 rfl ?_
          refine g_iload_n d0_reckonFines_111 rfl ?_
          refine g_aload_n d0_reckonFines_112 rfl ?_
          refine g_get fl0_42 d0_reckonFines_113 f_29_1 ?_
          refine g_XV3 vm10_finesTold ml0_71 c_21 (r10_told (I := I4) (L := L4) g wa w1 lc hL c fr ti se fl coin per fine z4 s (k + 1) hs1 (by omega) (by omega) (Nat.le_refl 3)) (by omega) (Nat.le_of_ble_eq_true rfl) d0_reckonFines_116 (fun y hy => ?_)
          obtain ⟨I5, L5⟩ := y
          obtain ⟨f2, w2⟩ := hy
          dsimp only at f2 w2 ⊢
          rw [hfo]
          have z5 : STA I5 c fr ti se fl coin per fine := z4.of (f2.1 28 (by decide))
          have p5 : SPD I5 L5 fr2 cm s0 := p4.of (f2.1 26 (by decide)) (f2.2 27 (by decide))
          have e335 : L5 33 = L2 33 := (f2.2 33 (by decide)).trans e33
          have e345 : L5 34 = L2 34 := (f2.2 34 (by decide)).trans e34
          have g2 : FK [22, 23] [22, 24, 33, 34] I L I5 L5 := g1.tr (f2.up (by decide) (by decide))
          refine g_topI (nI t) rfl ?_
          refine g_istore d0_reckonFines_119 (by decide) ?_
          refine g_iload d0_reckonFines_121 rfl ?_
          refine g_iconstv ((-1 : Int32)) d0_reckonFines_123 rfl ?_
          refine g_ic_ne ((t : Nat) : Int) (-1) 140 (nI_ti (by omega)) (by decide) d0_reckonFines_124 rfl (fun _ => ?_) (fun c124 => absurd c124 (by omega))
          refine g_aload_n d0_reckonFines_140 rfl ?_
          refine g_get fl0_18 d0_reckonFines_141 f_29_3 ?_
          refine g_iload_n d0_reckonFines_144 rfl ?_
          refine g_dup2 d0_reckonFines_145 rfl rfl ?_
          refine g_laldN (s) d0_reckonFines_146 a_33 (rfl) (by omega) (by decide) ?_
          refine g_topL (lN ((tfv (fun s => tdv (cpv cm s0) (sbR g wa (lfO lc) c fr) (fun s k => fiO lc (ceR g wa c fr s k)) s 12) ti (s + 1) + tdv (cpv cm s0) (sbR g wa (lfO lc) c fr) (fun s k => fiO lc (ceR g wa c fr s k)) s k))) (by rw [e335]; exact i6) ?_
          refine g_lload_n d0_reckonFines_147 rfl ?_
          refine g_iload d0_reckonFines_148 rfl ?_
          refine g_i2lN (by omega) d0_reckonFines_150 ?_
          refine g_lmul d0_reckonFines_151 ?_
          refine g_topL (lN ((cpv cm s0 s (k + 1)) * t)) (lN_mul _ _) ?_
          refine g_ladd d0_reckonFines_152 ?_
          refine g_topL (lN ((tfv (fun s => tdv (cpv cm s0) (sbR g wa (lfO lc) c fr) (fun s k => fiO lc (ceR g wa c fr s k)) s 12) ti (s + 1) + tdv (cpv cm s0) (sbR g wa (lfO lc) c fr) (fun s k => fiO lc (ceR g wa c fr s k)) s k) + ((cpv cm s0 s (k + 1)) * t))) (lN_add _ _) ?_
          refine g_lastN (s) _ d0_reckonFines_153 a_33 (rfl) (by omega) (by decide) t_33 ?_
          refine g_iincN d0_reckonFines_154 rfl (by decide) ?_
          refine g_goto 65 d0_reckonFines_157 rfl ?_
          refine g_lo [(0, .ref 29), (1, .int (nI s)), (2, .int (nI (k + 1 + 1)))] ⟨rfl, rfl, rfl, trivial⟩ ?_
          refine ih (k + 1) I5 _ (by omega) ⟨⟨g2.ul (by decide), w2, z5, p5.of rfl (uL_n (by decide))⟩, fun q a b => ?_, ?_, ?_⟩
          · rw [uL_sn (by omega), uL_n (by decide), e335, e345]; exact i5 q a b
          · rw [uL_ss, hd1, Nat.add_assoc]; rfl
          · rw [uL_n (by decide), ha1, e345]; exact i7
set_option maxHeartbeats 1000000 in
theorem r0_rf2 {l : Launch} {K : cK} {d : Nat} {I : wI} {L : wL} {R : wR} {dy : cH} {Q : Option Value → cH → Prop} (g : Nat → Int32) (wa : Int32) (lc : Option (List Cl)) (hL : LWc dy (R 21 1) lc) (s0 : Nat) (cm : Nat → Nat → Nat) (hcm : cm = cmR g wa (lfO lc)) (c fr ti se fl coin per fine : Nat) (hft : fr ≤ ti) (ht : ti ≤ 11) (hd : 4 ≤ d)
    (kk : ∀ (I3 : wI) (L3 : wL), (FK [22, 23] [22, 24, 33, 34] I L I3 L3 ∧ WW I3 g wa ∧ STA I3 c fr ti se fl coin per fine ∧ SPD I3 L3 fr2 cm s0) ∧ (∀ q, fr ≤ q → q ≤ 12 → L3 33 q = lN (tfv (fun s => tdv (cpv cm s0) (sbR g wa (lfO lc) c fr) (fun s k => fiO lc (ceR g wa c fr s k)) s 12) ti q) ∧ L3 34 q = lN (tfv (fun s => tav (cpv cm s0) (sbR g wa (lfO lc) c fr) (fun s k => fiO lc (ceR g wa c fr s k)) s 12) ti q)) → GL l K m0_reckonFines d 0 0 166 [(0, .ref 29)] [] (hp I3 L3 R dy) Q) :
    ∀ (n m : Nat) (I2 : wI) (L2 : wL), fr + n = m → m ≤ ti + 1 → (FK [22, 23] [22, 24, 33, 34] I L I2 L2 ∧ WW I2 g wa ∧ STA I2 c fr ti se fl coin per fine ∧ SPD I2 L2 fr2 cm s0) ∧ (∀ q, m ≤ q → q ≤ 12 → L2 33 q = lN (tfv (fun s => tdv (cpv cm s0) (sbR g wa (lfO lc) c fr) (fun s k => fiO lc (ceR g wa c fr s k)) s 12) ti q) ∧ L2 34 q = lN (tfv (fun s => tav (cpv cm s0) (sbR g wa (lfO lc) c fr) (fun s k => fiO lc (ceR g wa c fr s k)) s 12) ti q)) → GL l K m0_reckonFines d 0 0 24 [(0, .ref 29), (1, .int (mkI m))] [] (hp I2 L2 R dy) Q := by
  intro n
  induction n with
  | zero =>
    intro m I2 L2 hm hm2 hI
    obtain rfl : m = fr := by omega
    obtain ⟨⟨i1, i2, i3, i4⟩, i5⟩ := id hI
    obtain ⟨u0, u1, u2, u3, u4, u5, u6, u7, u8, u9, u10, u11, u12, u13, u14, u15⟩ := id i3
    refine g_iload_n d0_reckonFines_24 rfl ?_
    refine g_aload_n d0_reckonFines_25 rfl ?_
    refine g_get fl0_42 d0_reckonFines_26 f_29_1 ?_
    refine g_get fl0_58 d0_reckonFines_29 f_28_1 ?_
    refine g_topI (nI (m)) (u1) ?_
    refine g_ic_lt (((m : Nat) : Int) - 1) ((m : Nat) : Int) 166 (mkI_ti (by omega)) (nI_ti (by omega)) d0_reckonFines_32 rfl (fun _ => ?_) (fun c32 => absurd c32 (by omega))
    refine g_lo [(0, .ref 29)] ⟨rfl, trivial⟩ ?_
    exact kk I2 L2 hI
  | succ n ih =>
    intro m I2 L2 hm hm2 hI
    obtain ⟨s, rfl⟩ : ∃ s, m = s + 1 := ⟨m - 1, by omega⟩
    rw [mkI_s]
    obtain ⟨⟨i1, i2, i3, i4⟩, i5⟩ := id hI
    obtain ⟨u0, u1, u2, u3, u4, u5, u6, u7, u8, u9, u10, u11, u12, u13, u14, u15⟩ := id i3
    obtain ⟨j1, j2⟩ := i5 (s + 1) (by omega) (by omega)
    refine g_iload_n d0_reckonFines_24 rfl ?_
    refine g_aload_n d0_reckonFines_25 rfl ?_
    refine g_get fl0_42 d0_reckonFines_26 f_29_1 ?_
    refine g_get fl0_58 d0_reckonFines_29 f_28_1 ?_
    refine g_topI (nI (fr)) (u1) ?_
    refine g_ic_lt ((s : Nat) : Int) ((fr : Nat) : Int) 166 (nI_ti (by omega)) (nI_ti (by omega)) d0_reckonFines_32 rfl (fun c32 => absurd c32 (by omega)) (fun _ => ?_)
    refine g_aload_n d0_reckonFines_35 rfl ?_
    refine g_get fl0_18 d0_reckonFines_36 f_29_3 ?_
    refine g_iload_n d0_reckonFines_39 rfl ?_
    refine g_aload_n d0_reckonFines_40 rfl ?_
    refine g_get fl0_18 d0_reckonFines_41 f_29_3 ?_
    refine g_iload_n d0_reckonFines_44 rfl ?_
    refine g_iconstv (nI 1) d0_reckonFines_45 rfl ?_
    refine g_iaddN d0_reckonFines_46 ?_
    refine g_laldN ((s + 1)) d0_reckonFines_47 a_33 (rfl) (by omega) (by decide) ?_
    refine g_topL (lN ((tfv (fun s => tdv (cpv cm s0) (sbR g wa (lfO lc) c fr) (fun s k => fiO lc (ceR g wa c fr s k)) s 12) ti (s + 1)))) (j1) ?_
    refine g_lastN (s) _ d0_reckonFines_48 a_33 (rfl) (by omega) (by decide) t_33 ?_
    refine g_aload_n d0_reckonFines_49 rfl ?_
    refine g_get fl0_22 d0_reckonFines_50 f_29_4 ?_
    refine g_iload_n d0_reckonFines_53 rfl ?_
    refine g_aload_n d0_reckonFines_54 rfl ?_
    refine g_get fl0_22 d0_reckonFines_55 f_29_4 ?_
    refine g_iload_n d0_reckonFines_58 rfl ?_
    refine g_iconstv (nI 1) d0_reckonFines_59 rfl ?_
    refine g_iaddN d0_reckonFines_60 ?_
    refine g_laldN ((s + 1)) d0_reckonFines_61 a_34 (rfl) (by omega) (by decide) ?_
    refine g_topL (lN ((tfv (fun s => tav (cpv cm s0) (sbR g wa (lfO lc) c fr) (fun s k => fiO lc (ceR g wa c fr s k)) s 12) ti (s + 1)))) (j2) ?_
    refine g_lastN (s) _ d0_reckonFines_62 a_34 (rfl) (by omega) (by decide) t_34 ?_
    refine g_iconstv (nI 1) d0_reckonFines_63 rfl ?_
    refine g_istore_n d0_reckonFines_64 (by decide) ?_
    refine g_lo [(0, .ref 29), (1, .int (nI s)), (2, .int (nI (0 + 1)))] ⟨rfl, rfl, rfl, trivial⟩ ?_
    refine r0_rf1 (I := I) (L := L) g wa lc hL s0 cm hcm c fr ti se fl coin per fine s (by omega) (by omega) hd (fun I3 L3 hO => ?_) 12 0 I2 _ (by omega) ⟨⟨(i1.ul (by decide)).ul (by decide), i2, i3, i4.of rfl (by rw [uL_n (by decide), uL_n (by decide)])⟩, fun q a b => ?_, ?_, ?_⟩
    rotate_left
    · rw [uL_n (by decide), uL_sn (by omega), uL_sn (by omega), uL_n (by decide)]; exact i5 q a b
    · rw [uL_n (by decide), uL_ss]; rfl
    · rw [uL_ss]; rfl
    refine g_iinc (mkI s) d0_reckonFines_160 rfl (mkI_dec (by omega)) (by decide) ?_
    refine g_goto 24 d0_reckonFines_163 rfl ?_
    refine g_lo [(0, .ref 29), (1, .int (mkI s))] ⟨rfl, rfl, trivial⟩ ?_
    exact ih s I3 L3 (by omega) (by omega) hO
set_option maxHeartbeats 600000 in
theorem r0_fines {l : Launch} {K : cK} {d : Nat} {I : wI} {L : wL} {R : wR} {dy : cH} (g : Nat → Int32) (wa : Int32) (hw : WW I g wa) (lc : Option (List Cl)) (hL : LWc dy (R 21 1) lc) (s0 : Nat) (cm : Nat → Nat → Nat) (hcm : cm = cmR g wa (lfO lc)) (c fr ti se fl coin per fine : Nat) (hS : STA I c fr ti se fl coin per fine) (hSP : SPD I L fr2 cm s0) (hd : 4 ≤ d) : CW l K m0_reckonFines d [.ref 29] (hp I L R dy) (α := wI × wL) (fun x => (FK [22, 23] [22, 24, 33, 34] I L x.1 x.2 ∧ WW x.1 g wa ∧ STA x.1 c fr ti se fl coin per fine ∧ SPD x.1 x.2 fr2 cm s0) ∧ TFs x.2 (fun s => tdv (cpv cm s0) (sbR g wa (lfO lc) c fr) (fun s k => fiO lc (ceR g wa c fr s k)) s 12) (fun s => tav (cpv cm s0) (sbR g wa (lfO lc) c fr) (fun s k => fiO lc (ceR g wa c fr s k)) s 12) fr ti) (fun x => hp x.1 x.2 R dy) := by
  obtain ⟨u0, u1, u2, u3, u4, u5, u6, u7, u8, u9, u10, u11, u12, u13, u14, u15⟩ := id hS
  refine CC.of ok0_reckonFines (Nat.le_of_ble_eq_true rfl) ?_
  refine g_aload_n d0_reckonFines_0 rfl ?_
  refine g_get fl0_18 d0_reckonFines_1 f_29_3 ?_
  refine g_lconstv (0) d0_reckonFines_4 rfl ?_
  refine g_VS2 smAr_fillL ml0_46 (rAr_fill_33 0 (Nat.le_refl 0)) (by omega) (Nat.le_of_ble_eq_true rfl) d0_reckonFines_5 ?_
  refine g_aload_n d0_reckonFines_8 rfl ?_
  refine g_get fl0_22 d0_reckonFines_9 f_29_4 ?_
  refine g_lconstv (0) d0_reckonFines_12 rfl ?_
  refine g_VS2 smAr_fillL ml0_46 (rAr_fill_34 0 (Nat.le_refl 0)) (by omega) (Nat.le_of_ble_eq_true rfl) d0_reckonFines_13 ?_
  refine g_aload_n d0_reckonFines_16 rfl ?_
  refine g_get fl0_42 d0_reckonFines_17 f_29_1 ?_
  refine g_get fl0_52 d0_reckonFines_20 f_28_2 ?_
  refine g_topI (nI (ti)) (u2) ?_
  refine g_istore_n d0_reckonFines_23 (by decide) ?_
  refine g_lo [(0, .ref 29), (1, .int (mkI (ti + 1)))] ⟨rfl, congrArg (fun z => some (Value.int z)) (mkI_s ti).symm, trivial⟩ ?_
  refine r0_rf2 (I := I) (L := L) g wa lc hL s0 cm hcm c fr ti se fl coin per fine u9 u10 hd (fun I3 L3 hO => ?_) (ti + 1 - fr) (ti + 1) I _ (by omega) (Nat.le_refl _) ⟨⟨(FK.rf.cl (k := 33) (by decide)).cl (k := 34) (by decide), hw, hS, hSP.of rfl (by rw [cL_n (by decide), cL_n (by decide)])⟩, fun q a b => ?_⟩
  · exact g_vret rfl d0_reckonFines_166 ⟨(I3, L3), hO, rfl, rfl⟩
  · rw [tfv_z (by omega), tfv_z (by omega), cL_n (by decide), cL_s, cL_s]
    exact ⟨if_pos (by omega), if_pos (by omega)⟩
set_option maxHeartbeats 200000 in
theorem r0_first {l : Launch} {K : cK} {d : Nat} {I : wI} {L : wL} {R : wR} {dy : cH} (td ta : Nat → Nat) (c fr ti se fl coin per fine : Nat) (hS : STA I c fr ti se fl coin per fine) (hTF : TFs L td ta fr ti) (f : Nat) (hf : f ≤ 99) (n : Nat) (hn : n ≤ 12) (hd : 2 ≤ d) : CE l K m0_firstCost d [.ref 29, .int (nI n), .int (nI f)] (hp I L R dy) (.long (lN ((co1 coin per fr ti (fun s => td s + ta s * f)) n))) (hp I L R dy) := by
  obtain ⟨u0, u1, u2, u3, u4, u5, u6, u7, u8, u9, u10, u11, u12, u13, u14, u15⟩ := id hS
  have hpb := pdb_le per 0 n
  obtain ⟨j1, j2⟩ := hTF (min 12 (fr + pdb per 0 n)) (by omega) (by omega)
  have hpr : prc coin fr fl fr n = n * coin := by unfold prc; rw [if_neg (by omega)]; omega
  have hnc : n * coin ≤ 108 := Nat.le_trans (Nat.mul_le_mul hn u13) (by decide)
  rw [← co1_t u9 u10]
  refine CC.of ok0_firstCost (Nat.le_of_ble_eq_true rfl) ?_
  refine g_bipushv (nI 12) d0_firstCost_0 rfl ?_
  refine g_aload_n d0_firstCost_2 rfl ?_
  refine g_get fl0_42 d0_firstCost_3 f_29_1 ?_
  refine g_get fl0_58 d0_firstCost_6 f_28_1 ?_
  refine g_topI (nI (fr)) (u1) ?_
  refine g_aload_n d0_firstCost_9 rfl ?_
  refine g_get fl0_42 d0_firstCost_10 f_29_1 ?_
  refine g_iconstv (nI 0) d0_firstCost_13 rfl ?_
  refine g_iload_n d0_firstCost_14 rfl ?_
  refine g_EV2 vm7_paidWith ml0_75 c_28 (r7_paid c fr ti se fl coin per fine hS 0 n (by omega) hn (Nat.le_refl 1)) (by omega) (Nat.le_of_ble_eq_true rfl) d0_firstCost_15 ?_
  refine g_iaddN d0_firstCost_18 ?_
  refine g_min ml0_79 (by omega) (Nat.le_of_ble_eq_true rfl) d0_firstCost_19 ?_
  refine g_topI (nI ((min 12 (fr + pdb per 0 n)))) (mn_12 (by omega)) ?_
  refine g_istore_n d0_firstCost_22 (by decide) ?_
  refine g_ldc2 d0_firstCost_23 kl0_84 ?_
  refine g_aload_n d0_firstCost_26 rfl ?_
  refine g_get fl0_42 d0_firstCost_27 f_29_1 ?_
  refine g_iload_n d0_firstCost_30 rfl ?_
  refine g_aload_n d0_firstCost_31 rfl ?_
  refine g_get fl0_42 d0_firstCost_32 f_29_1 ?_
  refine g_get fl0_58 d0_firstCost_35 f_28_1 ?_
  refine g_topI (nI (fr)) (u1) ?_
  refine g_EV2 vm7_price ml0_86 c_28 (r7_price c fr ti se fl coin per fine hS n fr hn (by omega) (Nat.le_refl 0)) (by omega) (Nat.le_of_ble_eq_true rfl) d0_firstCost_38 ?_
  refine g_topI (nI ((n * coin))) (by rw [hpr]) ?_
  refine g_i2lN (by omega) d0_firstCost_41 ?_
  refine g_lmul d0_firstCost_42 ?_
  refine g_topL (lN (1000000000000 * (n * coin))) (lN_mul _ _) ?_
  refine g_aload_n d0_firstCost_43 rfl ?_
  refine g_get fl0_18 d0_firstCost_44 f_29_3 ?_
  refine g_iload_n d0_firstCost_47 rfl ?_
  refine g_laldN ((min 12 (fr + pdb per 0 n))) d0_firstCost_48 a_33 (rfl) (by omega) (by decide) ?_
  refine g_topL (lN ((tfv td ti (min 12 (fr + pdb per 0 n))))) (j1) ?_
  refine g_ladd d0_firstCost_49 ?_
  refine g_topL (lN ((1000000000000 * (n * coin)) + (tfv td ti (min 12 (fr + pdb per 0 n))))) (lN_add _ _) ?_
  refine g_aload_n d0_firstCost_50 rfl ?_
  refine g_get fl0_22 d0_firstCost_51 f_29_4 ?_
  refine g_iload_n d0_firstCost_54 rfl ?_
  refine g_laldN ((min 12 (fr + pdb per 0 n))) d0_firstCost_55 a_34 (rfl) (by omega) (by decide) ?_
  refine g_topL (lN ((tfv ta ti (min 12 (fr + pdb per 0 n))))) (j2) ?_
  refine g_iload_n d0_firstCost_56 rfl ?_
  refine g_i2lN (by omega) d0_firstCost_57 ?_
  refine g_lmul d0_firstCost_58 ?_
  refine g_topL (lN ((tfv ta ti (min 12 (fr + pdb per 0 n))) * f)) (lN_mul _ _) ?_
  refine g_ladd d0_firstCost_59 ?_
  refine g_topL (lN (((1000000000000 * (n * coin)) + (tfv td ti (min 12 (fr + pdb per 0 n)))) + ((tfv ta ti (min 12 (fr + pdb per 0 n))) * f))) (lN_add _ _) ?_
  exact g_lret rfl d0_firstCost_60 (⟨rfl, rfl⟩)
set_option maxHeartbeats 800000 in
theorem r0_bfL {l : Launch} {K : cK} {d : Nat} {I : wI} {L : wL} {R : wR} {dy : cH} (td ta : Nat → Nat) (c fr ti se fl coin per fine : Nat) (hS : STA I c fr ti se fl coin per fine) (hTF : TFs L td ta fr ti) (f : Nat) (hf : f ≤ 99) (hbig : ∀ n, n ≤ 12 → ((co1 coin per fr ti (fun s => td s + ta s * f)) n) < 4000000000000000000) (hd : 3 ≤ d) : ∀ (n k : Nat), k + n = 12 → GL l K m0_bestFirst d 0 0 12 [(0, .ref 29), (1, .int (nI f)), (2, .int (nI (fa (co1 coin per fr ti (fun s => td s + ta s * f)) k).2.1)), (3, .long (lN (fa (co1 coin per fr ti (fun s => td s + ta s * f)) k).1)), (5, .int (nI (k + 1)))] [] (hp I L R dy) (fun r h => r = some (.int (nI (fa (co1 coin per fr ti (fun s => td s + ta s * f)) 12).2.1)) ∧ h = hp I L R dy) := by
  intro n
  induction n with
  | zero =>
    intro k hk
    obtain rfl : k = 12 := by omega
    refine g_iload d0_bestFirst_12 rfl ?_
    refine g_bipushv (nI 12) d0_bestFirst_14 rfl ?_
    refine g_ic_gt (13) (12) 47 (by decide) (by decide) d0_bestFirst_16 rfl (fun _ => ?_) (fun c16 => absurd c16 (by decide))
    refine g_iload_n d0_bestFirst_47 rfl ?_
    exact g_iret rfl d0_bestFirst_48 (⟨rfl, rfl⟩)
  | succ n ih =>
    intro k hk
    have ih := ih (k + 1) (by omega)
    have b1 := hbig (k + 1) (by omega)
    have b2 : (fa (co1 coin per fr ti (fun s => td s + ta s * f)) k).1 < 4000000000000000000 := fa_lt (co1 coin per fr ti (fun s => td s + ta s * f)) k (fun j hj => hbig j (by omega))
    have hfa : fa (co1 coin per fr ti (fun s => td s + ta s * f)) (k + 1) = if ((co1 coin per fr ti (fun s => td s + ta s * f)) (k + 1)) < (fa (co1 coin per fr ti (fun s => td s + ta s * f)) k).1 then (((co1 coin per fr ti (fun s => td s + ta s * f)) (k + 1)), k + 1, 1) else if ((co1 coin per fr ti (fun s => td s + ta s * f)) (k + 1)) = (fa (co1 coin per fr ti (fun s => td s + ta s * f)) k).1 then ((fa (co1 coin per fr ti (fun s => td s + ta s * f)) k).1, (fa (co1 coin per fr ti (fun s => td s + ta s * f)) k).2.1, (fa (co1 coin per fr ti (fun s => td s + ta s * f)) k).2.2 + 1) else fa (co1 coin per fr ti (fun s => td s + ta s * f)) k := rfl
    generalize fa (co1 coin per fr ti (fun s => td s + ta s * f)) (k + 1) = y at *
    generalize fa (co1 coin per fr ti (fun s => td s + ta s * f)) k = x at *
    by_cases hlt : ((co1 coin per fr ti (fun s => td s + ta s * f)) (k + 1)) < x.1
    · rw [if_pos hlt] at hfa
      subst hfa
      refine g_iload d0_bestFirst_12 rfl ?_
      refine g_bipushv (nI 12) d0_bestFirst_14 rfl ?_
      refine g_ic_gt (((k + 1) : Nat) : Int) (12) 47 (nI_ti (by omega)) (by decide) d0_bestFirst_16 rfl (fun c16 => absurd c16 (by omega)) (fun _ => ?_)
      refine g_aload_n d0_bestFirst_19 rfl ?_
      refine g_iload d0_bestFirst_20 rfl ?_
      refine g_iload_n d0_bestFirst_22 rfl ?_
      refine g_EV2 vm0_firstCost ml0_89 c_29 (r0_first td ta c fr ti se fl coin per fine hS hTF f hf (k + 1) (by omega) (Nat.le_refl 2)) (by omega) (Nat.le_of_ble_eq_true rfl) d0_bestFirst_23 ?_
      refine g_lstore d0_bestFirst_26 (by decide) ?_
      refine g_lload d0_bestFirst_28 rfl ?_
      refine g_lload_n d0_bestFirst_30 rfl ?_
      refine g_lx_ge (((((co1 coin per fr ti (fun s => td s + ta s * f)) (k + 1))) : Nat) : Int) ((x.1 : Nat) : Int) 41 (pk_lT (by omega)) (pk_lT (by omega)) d0_bestFirst_31 d0_bestFirst_32 rfl (fun c31 => absurd c31 (by omega)) (fun _ => ?_)
      refine g_lload d0_bestFirst_35 rfl ?_
      refine g_lstore_n d0_bestFirst_37 (by decide) ?_
      refine g_iload d0_bestFirst_38 rfl ?_
      refine g_istore_n d0_bestFirst_40 (by decide) ?_
      refine g_iincN d0_bestFirst_41 rfl (by decide) ?_
      refine g_goto 12 d0_bestFirst_44 rfl ?_
      refine g_lo [(0, .ref 29), (1, .int (nI f)), (2, .int (nI (k + 1))), (3, .long (lN ((co1 coin per fr ti (fun s => td s + ta s * f)) (k + 1)))), (5, .int (nI (k + 1 + 1)))] ⟨rfl, rfl, rfl, rfl, rfl, trivial⟩ ?_
      exact ih
    · have e1 : y.1 = x.1 ∧ y.2.1 = x.2.1 := by
        rw [if_neg hlt] at hfa
        split at hfa <;> (rw [hfa]; exact ⟨rfl, rfl⟩)
      rw [e1.1, e1.2] at ih
      refine g_iload d0_bestFirst_12 rfl ?_
      refine g_bipushv (nI 12) d0_bestFirst_14 rfl ?_
      refine g_ic_gt (((k + 1) : Nat) : Int) (12) 47 (nI_ti (by omega)) (by decide) d0_bestFirst_16 rfl (fun c16 => absurd c16 (by omega)) (fun _ => ?_)
      refine g_aload_n d0_bestFirst_19 rfl ?_
      refine g_iload d0_bestFirst_20 rfl ?_
      refine g_iload_n d0_bestFirst_22 rfl ?_
      refine g_EV2 vm0_firstCost ml0_89 c_29 (r0_first td ta c fr ti se fl coin per fine hS hTF f hf (k + 1) (by omega) (Nat.le_refl 2)) (by omega) (Nat.le_of_ble_eq_true rfl) d0_bestFirst_23 ?_
      refine g_lstore d0_bestFirst_26 (by decide) ?_
      refine g_lload d0_bestFirst_28 rfl ?_
      refine g_lload_n d0_bestFirst_30 rfl ?_
      refine g_lx_ge (((((co1 coin per fr ti (fun s => td s + ta s * f)) (k + 1))) : Nat) : Int) ((x.1 : Nat) : Int) 41 (pk_lT (by omega)) (pk_lT (by omega)) d0_bestFirst_31 d0_bestFirst_32 rfl (fun _ => ?_) (fun c31 => absurd c31 (by omega))
      refine g_iincN d0_bestFirst_41 rfl (by decide) ?_
      refine g_goto 12 d0_bestFirst_44 rfl ?_
      refine g_lo [(0, .ref 29), (1, .int (nI f)), (2, .int (nI x.2.1)), (3, .long (lN x.1)), (5, .int (nI (k + 1 + 1)))] ⟨rfl, rfl, rfl, rfl, rfl, trivial⟩ ?_
      exact ih
set_option maxHeartbeats 200000 in
theorem r0_best {l : Launch} {K : cK} {d : Nat} {I : wI} {L : wL} {R : wR} {dy : cH} (td ta : Nat → Nat) (c fr ti se fl coin per fine : Nat) (hS : STA I c fr ti se fl coin per fine) (hTF : TFs L td ta fr ti) (f : Nat) (hf : f ≤ 99) (hbig : ∀ n, n ≤ 12 → ((co1 coin per fr ti (fun s => td s + ta s * f)) n) < 4000000000000000000) (hd : 3 ≤ d) : CE l K m0_bestFirst d [.ref 29, .int (nI f)] (hp I L R dy) (.int (nI (fa (co1 coin per fr ti (fun s => td s + ta s * f)) 12).2.1)) (hp I L R dy) := by
  refine CC.of ok0_bestFirst (Nat.le_of_ble_eq_true rfl) ?_
  refine g_iconstv (nI 0) d0_bestFirst_0 rfl ?_
  refine g_istore_n d0_bestFirst_1 (by decide) ?_
  refine g_aload_n d0_bestFirst_2 rfl ?_
  refine g_iconstv (nI 0) d0_bestFirst_3 rfl ?_
  refine g_iload_n d0_bestFirst_4 rfl ?_
  refine g_EV2 vm0_firstCost ml0_89 c_29 (r0_first td ta c fr ti se fl coin per fine hS hTF f hf (0) (by omega) (Nat.le_refl 2)) (by omega) (Nat.le_of_ble_eq_true rfl) d0_bestFirst_5 ?_
  refine g_lstore_n d0_bestFirst_8 (by decide) ?_
  refine g_iconstv (nI 1) d0_bestFirst_9 rfl ?_
  refine g_istore d0_bestFirst_10 (by decide) ?_
  refine g_lo [(0, .ref 29), (1, .int (nI f)), (2, .int (nI (fa (co1 coin per fr ti (fun s => td s + ta s * f)) 0).2.1)), (3, .long (lN (fa (co1 coin per fr ti (fun s => td s + ta s * f)) 0).1)), (5, .int (nI (0 + 1)))] ⟨rfl, rfl, rfl, rfl, rfl, trivial⟩ ?_
  exact r0_bfL td ta c fr ti se fl coin per fine hS hTF f hf hbig hd 12 0 (by omega)
set_option maxHeartbeats 800000 in
theorem r0_agL {l : Launch} {K : cK} {d : Nat} {I : wI} {L : wL} {R : wR} {dy : cH} (td ta : Nat → Nat) (c fr ti se fl coin per fine : Nat) (hS : STA I c fr ti se fl coin per fine) (hTF : TFs L td ta fr ti) (f : Nat) (hf : f ≤ 99) (hbig : ∀ n, n ≤ 12 → ((co1 coin per fr ti (fun s => td s + ta s * f)) n) < 4000000000000000000) (x : Nat) (hx : x < 4000000000000000000) (hd : 3 ≤ d) : ∀ (n k : Nat), k + n = 13 → GL l K m0_asGoodFirst d 0 0 17 [(0, .ref 29), (1, .int (nI f)), (2, .long (lN x)), (4, .int (nI (cnt (co1 coin per fr ti (fun s => td s + ta s * f)) x k))), (5, .int (nI k))] [] (hp I L R dy) (fun r h => r = some (.int (nI (cnt (co1 coin per fr ti (fun s => td s + ta s * f)) x 13))) ∧ h = hp I L R dy) := by
  intro n
  induction n with
  | zero =>
    intro k hk
    obtain rfl : k = 13 := by omega
    refine g_iload d0_asGoodFirst_17 rfl ?_
    refine g_bipushv (nI 12) d0_asGoodFirst_19 rfl ?_
    refine g_ic_gt (13) (12) 45 (by decide) (by decide) d0_asGoodFirst_21 rfl (fun _ => ?_) (fun c21 => absurd c21 (by decide))
    refine g_iload d0_asGoodFirst_45 rfl ?_
    exact g_iret rfl d0_asGoodFirst_47 (⟨rfl, rfl⟩)
  | succ n ih =>
    intro k hk
    have ih := ih (k + 1) (by omega)
    have b1 := hbig k (by omega)
    have hc : cnt (co1 coin per fr ti (fun s => td s + ta s * f)) x (k + 1) = cnt (co1 coin per fr ti (fun s => td s + ta s * f)) x k + (if ((co1 coin per fr ti (fun s => td s + ta s * f)) k) = x then 1 else 0) := rfl
    by_cases he : ((co1 coin per fr ti (fun s => td s + ta s * f)) k) = x
    · rw [hc, if_pos he] at ih
      refine g_iload d0_asGoodFirst_17 rfl ?_
      refine g_bipushv (nI 12) d0_asGoodFirst_19 rfl ?_
      refine g_ic_gt ((k : Nat) : Int) (12) 45 (nI_ti (by omega)) (by decide) d0_asGoodFirst_21 rfl (fun c21 => absurd c21 (by omega)) (fun _ => ?_)
      refine g_aload_n d0_asGoodFirst_24 rfl ?_
      refine g_iload d0_asGoodFirst_25 rfl ?_
      refine g_iload_n d0_asGoodFirst_27 rfl ?_
      refine g_EV2 vm0_firstCost ml0_89 c_29 (r0_first td ta c fr ti se fl coin per fine hS hTF f hf (k) (by omega) (Nat.le_refl 2)) (by omega) (Nat.le_of_ble_eq_true rfl) d0_asGoodFirst_28 ?_
      refine g_lload_n d0_asGoodFirst_31 rfl ?_
      refine g_lx_ne (((((co1 coin per fr ti (fun s => td s + ta s * f)) (k))) : Nat) : Int) ((x : Nat) : Int) 39 (pk_lT (by omega)) (pk_lT (by omega)) d0_asGoodFirst_32 d0_asGoodFirst_33 rfl (fun c32 => absurd c32 (by omega)) (fun _ => ?_)
      refine g_iincN d0_asGoodFirst_36 rfl (by decide) ?_
      refine g_iincN d0_asGoodFirst_39 rfl (by decide) ?_
      refine g_goto 17 d0_asGoodFirst_42 rfl ?_
      refine g_lo [(0, .ref 29), (1, .int (nI f)), (2, .long (lN x)), (4, .int (nI (cnt (co1 coin per fr ti (fun s => td s + ta s * f)) x k + 1))), (5, .int (nI (k + 1)))] ⟨rfl, rfl, rfl, rfl, rfl, trivial⟩ ?_
      exact ih
    · rw [hc, if_neg he] at ih
      refine g_iload d0_asGoodFirst_17 rfl ?_
      refine g_bipushv (nI 12) d0_asGoodFirst_19 rfl ?_
      refine g_ic_gt ((k : Nat) : Int) (12) 45 (nI_ti (by omega)) (by decide) d0_asGoodFirst_21 rfl (fun c21 => absurd c21 (by omega)) (fun _ => ?_)
      refine g_aload_n d0_asGoodFirst_24 rfl ?_
      refine g_iload d0_asGoodFirst_25 rfl ?_
      refine g_iload_n d0_asGoodFirst_27 rfl ?_
      refine g_EV2 vm0_firstCost ml0_89 c_29 (r0_first td ta c fr ti se fl coin per fine hS hTF f hf (k) (by omega) (Nat.le_refl 2)) (by omega) (Nat.le_of_ble_eq_true rfl) d0_asGoodFirst_28 ?_
      refine g_lload_n d0_asGoodFirst_31 rfl ?_
      refine g_lx_ne (((((co1 coin per fr ti (fun s => td s + ta s * f)) (k))) : Nat) : Int) ((x : Nat) : Int) 39 (pk_lT (by omega)) (pk_lT (by omega)) d0_asGoodFirst_32 d0_asGoodFirst_33 rfl (fun _ => ?_) (fun c32 => absurd c32 (by omega))
      refine g_iincN d0_asGoodFirst_39 rfl (by decide) ?_
      refine g_goto 17 d0_asGoodFirst_42 rfl ?_
      refine g_lo [(0, .ref 29), (1, .int (nI f)), (2, .long (lN x)), (4, .int (nI (cnt (co1 coin per fr ti (fun s => td s + ta s * f)) x k + 0))), (5, .int (nI (k + 1)))] ⟨rfl, rfl, rfl, rfl, rfl, trivial⟩ ?_
      exact ih
set_option maxHeartbeats 200000 in
theorem r0_alike {l : Launch} {K : cK} {d : Nat} {I : wI} {L : wL} {R : wR} {dy : cH} (td ta : Nat → Nat) (c fr ti se fl coin per fine : Nat) (hS : STA I c fr ti se fl coin per fine) (hTF : TFs L td ta fr ti) (f : Nat) (hf : f ≤ 99) (hbig : ∀ n, n ≤ 12 → ((co1 coin per fr ti (fun s => td s + ta s * f)) n) < 4000000000000000000) (hd : 4 ≤ d) : CE l K m0_asGoodFirst d [.ref 29, .int (nI f)] (hp I L R dy) (.int (nI (fa (co1 coin per fr ti (fun s => td s + ta s * f)) 12).2.2)) (hp I L R dy) := by
  have hfl := (fa_le (co1 coin per fr ti (fun s => td s + ta s * f)) 12).2.1
  have hfx := fa_lt (co1 coin per fr ti (fun s => td s + ta s * f)) 12 (fun j hj => hbig j hj)
  have hat := (fa_at (co1 coin per fr ti (fun s => td s + ta s * f)) 12).1
  have hct := fa_cnt (co1 coin per fr ti (fun s => td s + ta s * f)) 12
  rw [← hct]
  generalize hy : (fa (co1 coin per fr ti (fun s => td s + ta s * f)) 12).2.1 = y at *
  generalize (fa (co1 coin per fr ti (fun s => td s + ta s * f)) 12).1 = x at *
  refine CC.of ok0_asGoodFirst (Nat.le_of_ble_eq_true rfl) ?_
  refine g_aload_n d0_asGoodFirst_0 rfl ?_
  refine g_aload_n d0_asGoodFirst_1 rfl ?_
  refine g_iload_n d0_asGoodFirst_2 rfl ?_
  refine g_EV1 vm0_bestFirst ml0_92 c_29 (r0_best td ta c fr ti se fl coin per fine hS hTF f hf hbig (Nat.le_refl 3)) (by omega) (Nat.le_of_ble_eq_true rfl) d0_asGoodFirst_3 ?_
  refine g_topI (nI (y)) (by rw [hy]) ?_
  refine g_iload_n d0_asGoodFirst_6 rfl ?_
  refine g_EV2 vm0_firstCost ml0_89 c_29 (r0_first td ta c fr ti se fl coin per fine hS hTF f hf (y) (by omega) (Nat.le_refl 2)) (by omega) (Nat.le_of_ble_eq_true rfl) d0_asGoodFirst_7 ?_
  refine g_topL (lN (x)) (by rw [show ((co1 coin per fr ti (fun s => td s + ta s * f)) y) = x from hat]) ?_
  refine g_lstore_n d0_asGoodFirst_10 (by decide) ?_
  refine g_iconstv (nI 0) d0_asGoodFirst_11 rfl ?_
  refine g_istore d0_asGoodFirst_12 (by decide) ?_
  refine g_iconstv (nI 0) d0_asGoodFirst_14 rfl ?_
  refine g_istore d0_asGoodFirst_15 (by decide) ?_
  refine g_lo [(0, .ref 29), (1, .int (nI f)), (2, .long (lN x)), (4, .int (nI (cnt (co1 coin per fr ti (fun s => td s + ta s * f)) x 0))), (5, .int (nI 0))] ⟨rfl, rfl, rfl, rfl, rfl, trivial⟩ ?_
  exact r0_agL td ta c fr ti se fl coin per fine hS hTF f hf hbig x hfx (by omega) 13 0 (by omega)
