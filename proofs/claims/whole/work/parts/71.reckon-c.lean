theorem hp_dy {I : wI} {L : wL} {R : wR} {dy : cH} {k : Nat} : (hp I L R dy)[k + 105]? = dy[k]? := rfl
/-- a text among the made cells -/
def TXT (dy : cH) (T nc sz : Nat) (A : Nat → Nat → Int32) : Prop := ∃ k, T = k + 105 ∧ dy[k]? = some (.inr (9, [.int (nI nc), .ref (T + 1), .ref (T + 2), .ref (T + 3), .ref (T + 4), .ref (T + 5), .ref (T + 6)])) ∧ dy[k + 1]? = some (.inl (0, nc, .inl (A 1))) ∧ dy[k + 2]? = some (.inl (0, nc, .inl (A 2))) ∧ dy[k + 3]? = some (.inl (0, nc, .inl (A 3))) ∧ dy[k + 4]? = some (.inl (0, nc, .inl (A 4))) ∧ dy[k + 5]? = some (.inl (0, sz, .inl (A 5))) ∧ dy[k + 6]? = some (.inl (0, sz, .inl (A 6))) ∧ nc ≤ 12 ∧ sz ≤ 400
theorem TXT.ap {dy dz : cH} {T nc sz : Nat} {A : Nat → Nat → Int32} (h : TXT dy T nc sz A) : TXT (dy ++ dz) T nc sz A := by
  obtain ⟨k, h0, h1, h2, h3, h4, h5, h6, h7, h8⟩ := h
  have g : ∀ {j : Nat} {e : cE}, dy[j]? = some e → (dy ++ dz)[j]? = some e := fun {j e} hj => by
    have hl : j < dy.length := by
      by_cases z : j < dy.length
      · exact z
      · rw [List.getElem?_eq_none (by omega)] at hj; cases hj
    rw [List.getElem?_append_left hl]; exact hj
  exact ⟨k, h0, g h1, g h2, g h3, g h4, g h5, g h6, g h7, h8⟩
theorem sC_push {op arg : Nat → Nat} {env : Nat → Int64} {k : Nat} (h : op k ≤ 12) (s : List Int64) : sC op arg env k s = if s.length < 64 then some (some (k + 1, (if op k = 0 then lN (arg k) else env (op k)) :: s)) else none := by
  unfold sC sS
  by_cases e : s.length < 64
  · rw [if_neg (by omega), if_pos (by omega), if_pos ⟨h, by omega⟩, if_pos e]
  · rw [if_pos ⟨by omega, by omega⟩, if_neg e]
theorem sC_bin {op arg : Nat → Nat} {env : Nat → Int64} {k : Nat} (h : 20 ≤ op k) (h2 : op k < 28) (s : List Int64) : sC op arg env k s = match s with
    | b :: a :: r => if arX (op k) a b then some none else some (some (k + 1, ar0 (op k) a b :: r))
    | _ => none := by
  unfold sC sS
  rw [if_neg (by omega), if_neg (by omega), if_pos h2]
  rcases s with _ | ⟨b, _ | ⟨a, r⟩⟩ <;> rfl
theorem sC_not {op arg : Nat → Nat} {env : Nat → Int64} {k : Nat} (h : op k = 28) (s : List Int64) : sC op arg env k s = match s with
    | a :: r => some (some (k + 1, (1 - a) :: r))
    | _ => none := by
  unfold sC sS
  rw [if_neg (by omega), if_neg (by omega), if_neg (by omega), if_pos h]
  cases s <;> rfl
theorem sC_jmp {op arg : Nat → Nat} {env : Nat → Int64} {k : Nat} (h : 29 ≤ op k) (s : List Int64) : sC op arg env k s = match s with
    | a :: r => if a = (if op k = 29 then 0 else 1) then some (some (arg k, a :: r)) else some (some (k + 1, r))
    | _ => none := by
  unfold sC sS
  rw [if_neg (by omega), if_neg (by omega), if_neg (by omega), if_neg (by omega)]
  cases s <;> rfl
theorem arX_r {o : Nat} {a b : Int64} (h : ¬ ((o = 23 ∨ o = 24) ∧ b = 0)) : arX o a b ↔ ¬ (-1000000000 ≤ (ar0 o a b).toInt ∧ (ar0 o a b).toInt ≤ 1000000000) := ⟨fun z => by rcases z with z | z; exact absurd z h; exact z, fun z => Or.inr z⟩
/-- what reckon leaves -/
def RKP (r0 s0 : Nat) (I : wI) (L : wL) (res : Option (List Int64)) (x : wI × wL × Int64) : Prop := (∀ c, c ≠ r0 → x.1 c = I c) ∧ (∀ j, j ≠ 2 → j ≠ 3 → x.1 r0 j = I r0 j) ∧ (∀ c, c ≠ s0 → x.2.1 c = L c) ∧ x.1 r0 3 = (if res = none then 1 else 0) ∧ ∀ s, res = some s → x.2.2 = s.headD 1
theorem TXT.f5 {I : wI} {L : wL} {R : wR} {dy : cH} {T nc sz : Nat} {A : Nat → Nat → Int32} (h : TXT dy T nc sz A) : fld (hp I L R dy) T 9 5 = some (.ref (T + 5)) := by
  obtain ⟨k, rfl, h1, _⟩ := h
  unfold fld; rw [hp_dy, h1]; rfl
theorem TXT.a5 {I : wI} {L : wL} {R : wR} {dy : cH} {T nc sz : Nat} {A : Nat → Nat → Int32} (h : TXT dy T nc sz A) : aI (hp I L R dy) (T + 5) 0 = some (sz, A 5) := by
  obtain ⟨k, rfl, h0, h1, h2, h3, h4, h5, h6, _⟩ := h
  unfold aI; rw [show k + 105 + 5 = (k + 5) + 105 by omega, hp_dy, h5]; rfl
theorem TXT.f6 {I : wI} {L : wL} {R : wR} {dy : cH} {T nc sz : Nat} {A : Nat → Nat → Int32} (h : TXT dy T nc sz A) : fld (hp I L R dy) T 9 6 = some (.ref (T + 6)) := by
  obtain ⟨k, rfl, h1, _⟩ := h
  unfold fld; rw [hp_dy, h1]; rfl
theorem TXT.a6 {I : wI} {L : wL} {R : wR} {dy : cH} {T nc sz : Nat} {A : Nat → Nat → Int32} (h : TXT dy T nc sz A) : aI (hp I L R dy) (T + 6) 0 = some (sz, A 6) := by
  obtain ⟨k, rfl, h0, h1, h2, h3, h4, h5, h6, _⟩ := h
  unfold aI; rw [show k + 105 + 6 = (k + 6) + 105 by omega, hp_dy, h6]; rfl
theorem TXT.f1 {I : wI} {L : wL} {R : wR} {dy : cH} {T nc sz : Nat} {A : Nat → Nat → Int32} (h : TXT dy T nc sz A) : fld (hp I L R dy) T 9 1 = some (.ref (T + 1)) := by
  obtain ⟨k, rfl, h1, _⟩ := h
  unfold fld; rw [hp_dy, h1]; rfl
theorem TXT.a1 {I : wI} {L : wL} {R : wR} {dy : cH} {T nc sz : Nat} {A : Nat → Nat → Int32} (h : TXT dy T nc sz A) : aI (hp I L R dy) (T + 1) 0 = some (nc, A 1) := by
  obtain ⟨k, rfl, h0, h1, h2, h3, h4, h5, h6, _⟩ := h
  unfold aI; rw [show k + 105 + 1 = (k + 1) + 105 by omega, hp_dy, h1]; rfl
theorem TXT.f2 {I : wI} {L : wL} {R : wR} {dy : cH} {T nc sz : Nat} {A : Nat → Nat → Int32} (h : TXT dy T nc sz A) : fld (hp I L R dy) T 9 2 = some (.ref (T + 2)) := by
  obtain ⟨k, rfl, h1, _⟩ := h
  unfold fld; rw [hp_dy, h1]; rfl
theorem TXT.a2 {I : wI} {L : wL} {R : wR} {dy : cH} {T nc sz : Nat} {A : Nat → Nat → Int32} (h : TXT dy T nc sz A) : aI (hp I L R dy) (T + 2) 0 = some (nc, A 2) := by
  obtain ⟨k, rfl, h0, h1, h2, h3, h4, h5, h6, _⟩ := h
  unfold aI; rw [show k + 105 + 2 = (k + 2) + 105 by omega, hp_dy, h2]; rfl
theorem TXT.f3 {I : wI} {L : wL} {R : wR} {dy : cH} {T nc sz : Nat} {A : Nat → Nat → Int32} (h : TXT dy T nc sz A) : fld (hp I L R dy) T 9 3 = some (.ref (T + 3)) := by
  obtain ⟨k, rfl, h1, _⟩ := h
  unfold fld; rw [hp_dy, h1]; rfl
theorem TXT.a3 {I : wI} {L : wL} {R : wR} {dy : cH} {T nc sz : Nat} {A : Nat → Nat → Int32} (h : TXT dy T nc sz A) : aI (hp I L R dy) (T + 3) 0 = some (nc, A 3) := by
  obtain ⟨k, rfl, h0, h1, h2, h3, h4, h5, h6, _⟩ := h
  unfold aI; rw [show k + 105 + 3 = (k + 3) + 105 by omega, hp_dy, h3]; rfl
theorem TXT.f4 {I : wI} {L : wL} {R : wR} {dy : cH} {T nc sz : Nat} {A : Nat → Nat → Int32} (h : TXT dy T nc sz A) : fld (hp I L R dy) T 9 4 = some (.ref (T + 4)) := by
  obtain ⟨k, rfl, h1, _⟩ := h
  unfold fld; rw [hp_dy, h1]; rfl
theorem TXT.a4 {I : wI} {L : wL} {R : wR} {dy : cH} {T nc sz : Nat} {A : Nat → Nat → Int32} (h : TXT dy T nc sz A) : aI (hp I L R dy) (T + 4) 0 = some (nc, A 4) := by
  obtain ⟨k, rfl, h0, h1, h2, h3, h4, h5, h6, _⟩ := h
  unfold aI; rw [show k + 105 + 4 = (k + 4) + 105 by omega, hp_dy, h4]; rfl
theorem TXT.f0 {I : wI} {L : wL} {R : wR} {dy : cH} {T nc sz : Nat} {A : Nat → Nat → Int32} (h : TXT dy T nc sz A) : fld (hp I L R dy) T 9 0 = some (.int (nI nc)) := by
  obtain ⟨k, rfl, h1, _⟩ := h
  unfold fld; rw [hp_dy, h1]; rfl
theorem r5_22_ex {l : Launch} {K : cK} {d : Nat} {I : wI} {L : wL} {R : wR} {dy : cH} (I2 : wI) (L2 : wL) (res : Option (List Int64)) (i1 : ∀ c, c ≠ 22 → I2 c = I c) (i2 : ∀ j, j ≠ 2 → j ≠ 3 → I2 22 j = I 22 j) (l1 : ∀ c, c ≠ 24 → L2 c = L c) (n : Nat) (hn : I2 22 2 = nI n) (h64 : n ≤ 64) (h3 : I2 22 3 = (if res = none then 1 else 0)) (hv : ∀ s, res = some s → (n = 0 ∧ s = []) ∨ (0 < n ∧ L2 24 (n - 1) = s.headD 1)) : GL l K m5_reckon d 0 0 201 [(0, .ref 22)] [] (hp I2 L2 R dy) (fun z h => ∃ x : wI × wL × Int64, RKP 22 24 I L res x ∧ z = some (.long x.2.2) ∧ h = hp x.1 x.2.1 R dy) := by
  by_cases h0 : n = 0
  · subst h0
    refine g_aload_n d5_reckon_201 rfl ?_
    refine g_get fl5_56 d5_reckon_202 f_22_2 ?_
    refine g_topI (nI 0) (hn) ?_
    refine g_iz_le (0) 222 (by decide) d5_reckon_205 rfl (fun _ => ?_) (fun c205 => absurd c205 (by decide))
    refine g_lconstv (1) d5_reckon_222 rfl ?_
    exact g_lret rfl d5_reckon_223 (⟨(I2, L2, 1), ⟨i1, i2, l1, h3, fun s hs => by rcases hv s hs with ⟨_, z⟩ | ⟨z, _⟩; rw [z]; rfl; omega⟩, rfl, rfl⟩)
  · skip
    refine g_aload_n d5_reckon_201 rfl ?_
    refine g_get fl5_56 d5_reckon_202 f_22_2 ?_
    refine g_topI (nI (n)) (hn) ?_
    refine g_iz_le ((n : Nat) : Int) 222 (nI_ti (by omega)) d5_reckon_205 rfl (fun c205 => absurd c205 (by omega)) (fun _ => ?_)
    refine g_aload_n d5_reckon_208 rfl ?_
    refine g_get fl5_13 d5_reckon_209 f_22_1 ?_
    refine g_aload_n d5_reckon_212 rfl ?_
    refine g_get fl5_56 d5_reckon_213 f_22_2 ?_
    refine g_topI (nI (n)) (hn) ?_
    refine g_iconstv (nI 1) d5_reckon_216 rfl ?_
    refine g_isubN (by omega) d5_reckon_217 ?_
    refine g_laldN ((n - 1)) d5_reckon_218 a_24 (rfl) (by omega) (by decide) ?_
    refine g_goto 223 d5_reckon_219 rfl ?_
    exact g_lret rfl d5_reckon_223 (⟨(I2, L2, L2 24 (n - 1)), ⟨i1, i2, l1, h3, fun s hs => by rcases hv s hs with ⟨z, _⟩ | ⟨_, z⟩; exact absurd z h0; exact z⟩, rfl, rfl⟩)
theorem r5_22_bk {l : Launch} {K : cK} {d : Nat} {I : wI} {L : wL} {R : wR} {dy : cH} {T last : Nat} {fr : Int32} (I2 : wI) (L2 : wL) (i1 : ∀ c, c ≠ 22 → I2 c = I c) (i2 : ∀ j, j ≠ 2 → j ≠ 3 → I2 22 j = I 22 j) (l1 : ∀ c, c ≠ 24 → L2 c = L c) (n : Nat) (hn : I2 22 2 = nI n) (h64 : n ≤ 64) (h3 : I2 22 3 = 1) (k : Nat) (hk : k < 2147483648) (hl : last < 2147483648) (res : Option (List Int64)) (hr : res = none) : GL l K m5_reckon d 0 0 13 [(0, .ref 22), (1, .ref T), (2, .int fr), (3, .int (nI last)), (4, .int (nI k))] [] (hp I2 L2 R dy) (fun z h => ∃ x : wI × wL × Int64, RKP 22 24 I L res x ∧ z = some (.long x.2.2) ∧ h = hp x.1 x.2.1 R dy) := by
  subst hr
  by_cases e : last ≤ k
  · skip
    refine g_iload d5_reckon_13 rfl ?_
    refine g_iload_n d5_reckon_15 rfl ?_
    refine g_ic_ge ((k : Nat) : Int) ((last : Nat) : Int) 201 (nI_ti (by omega)) (nI_ti (by omega)) d5_reckon_16 rfl (fun _ => ?_) (fun c16 => absurd c16 (by omega))
    refine g_lo [(0, .ref 22)] ⟨rfl, trivial⟩ ?_
    exact r5_22_ex I2 L2 none i1 i2 l1 n hn h64 h3 (fun s hs => by cases hs)
  · skip
    refine g_iload d5_reckon_13 rfl ?_
    refine g_iload_n d5_reckon_15 rfl ?_
    refine g_ic_ge ((k : Nat) : Int) ((last : Nat) : Int) 201 (nI_ti (by omega)) (nI_ti (by omega)) d5_reckon_16 rfl (fun c16 => absurd c16 (by omega)) (fun _ => ?_)
    refine g_aload_n d5_reckon_19 rfl ?_
    refine g_get fl5_36 d5_reckon_20 f_22_3 ?_
    refine g_topI ((1 : Int32)) (h3) ?_
    refine g_iz_ne (1) 201 (by decide) d5_reckon_23 rfl (fun _ => ?_) (fun c23 => absurd c23 (by decide))
    refine g_lo [(0, .ref 22)] ⟨rfl, trivial⟩ ?_
    exact r5_22_ex I2 L2 none i1 i2 l1 n hn h64 h3 (fun s hs => by cases hs)
set_option maxHeartbeats 2000000 in
theorem r5_22_rkL {l : Launch} {K : cK} {d : Nat} {I : wI} {L : wL} {R : wR} {dy : cH} {T nc sz : Nat} {A : Nat → Nat → Int32} (hX : TXT dy T nc sz A) (st wi : Nat → Nat) (last : Nat) (hls : last ≤ sz) (hv : ∀ k, k < last → A 5 k = nI (st k) ∧ A 6 k = nI (wi k) ∧ vst st wi k ∧ (29 ≤ cop st wi k → k < wi k)) (env : Nat → Int64) (henv : ∀ j, j < 7 → env (j + 1) = (I 23 j).toInt64) (fr : Int32) (hd : 1 ≤ d) :
    ∀ (f k : Nat) (s : List Int64) (I2 : wI) (L2 : wL) (res : Option (List Int64)), RR (L2 24) s → (∀ c, c ≠ 22 → I2 c = I c) → (∀ j, j ≠ 2 → j ≠ 3 → I2 22 j = I 22 j) → (∀ c, c ≠ 24 → L2 c = L c) → I2 22 2 = nI s.length → I2 22 3 = 0 → s.length ≤ 64 → k < 2147483648 → eC (cop st wi) (carg st wi) env last f k s = some res →
    GL l K m5_reckon d 0 0 13 [(0, .ref 22), (1, .ref T), (2, .int fr), (3, .int (nI last)), (4, .int (nI k))] [] (hp I2 L2 R dy) (fun z h => ∃ x : wI × wL × Int64, RKP 22 24 I L res x ∧ z = some (.long x.2.2) ∧ h = hp x.1 x.2.1 R dy) := by
  have hsz := hX
  obtain ⟨_, _, _, _, _, _, _, _, _, _, hsz4⟩ := hsz
  intro f
  induction f with
  | zero => intro k s I2 L2 res _ _ _ _ _ _ _ _ he; cases he
  | succ f ih =>
    intro k s I2 L2 res hR i1 i2 l1 hn h3 h64 hk he
    rw [eC_s] at he
    by_cases e : last ≤ k
    · rw [if_pos e] at he
      obtain rfl : some s = res := by injection he
      refine g_iload d5_reckon_13 rfl ?_
      refine g_iload_n d5_reckon_15 rfl ?_
      refine g_ic_ge ((k : Nat) : Int) ((last : Nat) : Int) 201 (nI_ti (by omega)) (nI_ti (by omega)) d5_reckon_16 rfl (fun _ => ?_) (fun c16 => absurd c16 (by omega))
      refine g_lo [(0, .ref 22)] ⟨rfl, trivial⟩ ?_
      refine r5_22_ex I2 L2 (some s) i1 i2 l1 s.length hn h64 (by rw [h3]; rfl) (fun s2 hs => ?_)
      injection hs with hs
      subst hs
      match s, hR with
      | [], _ => exact Or.inl ⟨rfl, rfl⟩
      | a :: r, hR => exact Or.inr ⟨Nat.succ_pos _, hR.1⟩
    · rw [if_neg e] at he
      obtain ⟨v1, v2, ⟨v3, v4⟩, v5⟩ := hv k (by omega)
      rcases v3 with hs | ⟨hs, hw7⟩ | hs | hs | hs | hs | hs | hs | hs | hs | hs | hs | hs
      · -- 0
        have ho : cop st wi k = 0 := by unfold cop; rw [if_pos hs]
        have hg : carg st wi k = wi k := by unfold carg; rw [if_neg (by omega)]
        rw [sC_push (by omega)] at he
        by_cases hl : s.length < 64
        rotate_left
        · rw [if_neg hl] at he; cases he
        rw [if_pos hl, ho] at he
        rw [if_pos rfl, hg] at he
        refine g_iload d5_reckon_13 rfl ?_
        refine g_iload_n d5_reckon_15 rfl ?_
        refine g_ic_ge ((k : Nat) : Int) ((last : Nat) : Int) 201 (nI_ti (by omega)) (nI_ti (by omega)) d5_reckon_16 rfl (fun c16 => absurd c16 (by omega)) (fun _ => ?_)
        refine g_aload_n d5_reckon_19 rfl ?_
        refine g_get fl5_36 d5_reckon_20 f_22_3 ?_
        refine g_topI ((0 : Int32)) (h3) ?_
        refine g_iz_ne (0) 201 (by decide) d5_reckon_23 rfl (fun c23 => absurd c23 (by decide)) (fun _ => ?_)
        refine g_aload_n d5_reckon_26 rfl ?_
        refine g_get fl5_59 d5_reckon_27 (hX.f5) ?_
        refine g_iload d5_reckon_30 rfl ?_
        refine g_ialdN (k) d5_reckon_32 hX.a5 (rfl) (by omega) (by omega) ?_
        refine g_topI (nI 0) (by rw [v1, hs]) ?_
        refine g_istore d5_reckon_33 (by decide) ?_
        refine g_aload_n d5_reckon_35 rfl ?_
        refine g_get fl5_62 d5_reckon_36 (hX.f6) ?_
        refine g_iload d5_reckon_39 rfl ?_
        refine g_ialdN (k) d5_reckon_41 hX.a6 (rfl) (by omega) (by omega) ?_
        refine g_topI (nI (wi k)) (v2) ?_
        refine g_istore d5_reckon_42 (by decide) ?_
        refine g_iload d5_reckon_44 rfl ?_
        refine g_iz_eq (0) 55 (by decide) d5_reckon_46 rfl (fun _ => ?_) (fun c46 => absurd c46 (by decide))
        refine g_aload_n d5_reckon_55 rfl ?_
        refine g_iload d5_reckon_56 rfl ?_
        refine g_iload d5_reckon_58 rfl ?_
        refine g_VV2 vm5_push ml5_65 c_22 (r5_22_push0 (I := I2) (L := L2) s.length (wi k) hn hl (by omega) (Nat.le_refl 0)) (by omega) (Nat.le_of_ble_eq_true rfl) d5_reckon_60 ?_
        refine g_goto 195 d5_reckon_63 rfl ?_
        refine g_iincN d5_reckon_195 rfl (by decide) ?_
        refine g_goto 13 d5_reckon_198 rfl ?_
        refine g_lo [(0, .ref 22), (1, .ref T), (2, .int fr), (3, .int (nI last)), (4, .int (nI (k + 1)))] ⟨rfl, rfl, rfl, rfl, rfl, trivial⟩ ?_
        exact ih (k + 1) (lN (wi k) :: s) (uI I2 22 2 (nI (s.length + 1))) (uL L2 24 s.length (lN (wi k))) res ⟨by rw [uL_ss], by rw [uL_s]; exact RR_up (Nat.le_refl _) hR⟩ (fun c hc => by rw [uI_n hc]; exact i1 c hc) (fun j j1 j2 => by rw [uI_sn j1]; exact i2 j j1 j2) (fun c hc => by rw [uL_n hc]; exact l1 c hc) uI_ss (by rw [uI_sn (by decide)]; exact h3) hl (by omega) he
      · -- 1
        have ho : cop st wi k = wi k + 1 := by unfold cop; rw [if_neg (by omega), if_pos hs]
        rw [sC_push (by omega)] at he
        by_cases hl : s.length < 64
        rotate_left
        · rw [if_neg hl] at he; cases he
        rw [if_pos hl, ho] at he
        rw [if_neg (by omega), henv (wi k) hw7] at he
        refine g_iload d5_reckon_13 rfl ?_
        refine g_iload_n d5_reckon_15 rfl ?_
        refine g_ic_ge ((k : Nat) : Int) ((last : Nat) : Int) 201 (nI_ti (by omega)) (nI_ti (by omega)) d5_reckon_16 rfl (fun c16 => absurd c16 (by omega)) (fun _ => ?_)
        refine g_aload_n d5_reckon_19 rfl ?_
        refine g_get fl5_36 d5_reckon_20 f_22_3 ?_
        refine g_topI ((0 : Int32)) (h3) ?_
        refine g_iz_ne (0) 201 (by decide) d5_reckon_23 rfl (fun c23 => absurd c23 (by decide)) (fun _ => ?_)
        refine g_aload_n d5_reckon_26 rfl ?_
        refine g_get fl5_59 d5_reckon_27 (hX.f5) ?_
        refine g_iload d5_reckon_30 rfl ?_
        refine g_ialdN (k) d5_reckon_32 hX.a5 (rfl) (by omega) (by omega) ?_
        refine g_topI (nI 1) (by rw [v1, hs]) ?_
        refine g_istore d5_reckon_33 (by decide) ?_
        refine g_aload_n d5_reckon_35 rfl ?_
        refine g_get fl5_62 d5_reckon_36 (hX.f6) ?_
        refine g_iload d5_reckon_39 rfl ?_
        refine g_ialdN (k) d5_reckon_41 hX.a6 (rfl) (by omega) (by omega) ?_
        refine g_topI (nI (wi k)) (v2) ?_
        refine g_istore d5_reckon_42 (by decide) ?_
        refine g_iload d5_reckon_44 rfl ?_
        refine g_iz_eq (1) 55 (by decide) d5_reckon_46 rfl (fun c46 => absurd c46 (by decide)) (fun _ => ?_)
        refine g_iload d5_reckon_49 rfl ?_
        refine g_iconstv (nI 1) d5_reckon_51 rfl ?_
        refine g_ic_ne (1) (1) 66 (by decide) (by decide) d5_reckon_52 rfl (fun c52 => absurd c52 (by decide)) (fun _ => ?_)
        refine g_aload_n d5_reckon_55 rfl ?_
        refine g_iload d5_reckon_56 rfl ?_
        refine g_iload d5_reckon_58 rfl ?_
        refine g_VV2 vm5_push ml5_65 c_22 (r5_22_push1 (I := I2) (L := L2) s.length (wi k) hn hl (by omega) (Nat.le_refl 0)) (by omega) (Nat.le_of_ble_eq_true rfl) d5_reckon_60 ?_
        refine g_goto 195 d5_reckon_63 rfl ?_
        refine g_iincN d5_reckon_195 rfl (by decide) ?_
        refine g_goto 13 d5_reckon_198 rfl ?_
        refine g_lo [(0, .ref 22), (1, .ref T), (2, .int fr), (3, .int (nI last)), (4, .int (nI (k + 1)))] ⟨rfl, rfl, rfl, rfl, rfl, trivial⟩ ?_
        exact ih (k + 1) ((I 23 (wi k)).toInt64 :: s) (uI I2 22 2 (nI (s.length + 1))) (uL L2 24 s.length (I2 23 (wi k)).toInt64) res ⟨by rw [uL_ss]; rw [i1 23 (by decide)], by rw [uL_s]; exact RR_up (Nat.le_refl _) hR⟩ (fun c hc => by rw [uI_n hc]; exact i1 c hc) (fun j j1 j2 => by rw [uI_sn j1]; exact i2 j j1 j2) (fun c hc => by rw [uL_n hc]; exact l1 c hc) uI_ss (by rw [uI_sn (by decide)]; exact h3) hl (by omega) he
      · -- 2
        have ho : cop st wi k = 28 := by unfold cop; rw [if_neg (by omega)]; rw [if_neg (by omega)]; rw [if_pos hs]
        rw [sC_not ho] at he
        match s, he, hR, hn, h64 with
        | a :: r, he, hR, hn, h64 =>
        have hn : I2 22 2 = nI (r.length + 1) := hn
        have h64b : r.length + 1 ≤ 64 := h64
        refine g_iload d5_reckon_13 rfl ?_
        refine g_iload_n d5_reckon_15 rfl ?_
        refine g_ic_ge ((k : Nat) : Int) ((last : Nat) : Int) 201 (nI_ti (by omega)) (nI_ti (by omega)) d5_reckon_16 rfl (fun c16 => absurd c16 (by omega)) (fun _ => ?_)
        refine g_aload_n d5_reckon_19 rfl ?_
        refine g_get fl5_36 d5_reckon_20 f_22_3 ?_
        refine g_topI ((0 : Int32)) (h3) ?_
        refine g_iz_ne (0) 201 (by decide) d5_reckon_23 rfl (fun c23 => absurd c23 (by decide)) (fun _ => ?_)
        refine g_aload_n d5_reckon_26 rfl ?_
        refine g_get fl5_59 d5_reckon_27 (hX.f5) ?_
        refine g_iload d5_reckon_30 rfl ?_
        refine g_ialdN (k) d5_reckon_32 hX.a5 (rfl) (by omega) (by omega) ?_
        refine g_topI (nI 2) (by rw [v1, hs]) ?_
        refine g_istore d5_reckon_33 (by decide) ?_
        refine g_aload_n d5_reckon_35 rfl ?_
        refine g_get fl5_62 d5_reckon_36 (hX.f6) ?_
        refine g_iload d5_reckon_39 rfl ?_
        refine g_ialdN (k) d5_reckon_41 hX.a6 (rfl) (by omega) (by omega) ?_
        refine g_topI (nI (wi k)) (v2) ?_
        refine g_istore d5_reckon_42 (by decide) ?_
        refine g_iload d5_reckon_44 rfl ?_
        refine g_iz_eq (2) 55 (by decide) d5_reckon_46 rfl (fun c46 => absurd c46 (by decide)) (fun _ => ?_)
        refine g_iload d5_reckon_49 rfl ?_
        refine g_iconstv (nI 1) d5_reckon_51 rfl ?_
        refine g_ic_ne (2) (1) 66 (by decide) (by decide) d5_reckon_52 rfl (fun _ => ?_) (fun c52 => absurd c52 (by decide))
        refine g_aload_n d5_reckon_66 rfl ?_
        refine g_get fl5_56 d5_reckon_67 f_22_2 ?_
        refine g_topI (nI ((r.length + 1))) (hn) ?_
        refine g_iz_ne (((r.length + 1) : Nat) : Int) 81 (nI_ti (by omega)) d5_reckon_70 rfl (fun _ => ?_) (fun c70 => absurd c70 (by omega))
        refine g_iload d5_reckon_81 rfl ?_
        refine g_iconstv (nI 2) d5_reckon_83 rfl ?_
        refine g_ic_ne (2) (2) 114 (by decide) (by decide) d5_reckon_84 rfl (fun c84 => absurd c84 (by decide)) (fun _ => ?_)
        refine g_aload_n d5_reckon_87 rfl ?_
        refine g_get fl5_13 d5_reckon_88 f_22_1 ?_
        refine g_aload_n d5_reckon_91 rfl ?_
        refine g_get fl5_56 d5_reckon_92 f_22_2 ?_
        refine g_topI (nI ((r.length + 1))) (hn) ?_
        refine g_iconstv (nI 1) d5_reckon_95 rfl ?_
        refine g_isubN (by omega) d5_reckon_96 ?_
        refine g_topI (nI (r.length)) (rfl) ?_
        refine g_lconstv (1) d5_reckon_97 rfl ?_
        refine g_aload_n d5_reckon_98 rfl ?_
        refine g_get fl5_13 d5_reckon_99 f_22_1 ?_
        refine g_aload_n d5_reckon_102 rfl ?_
        refine g_get fl5_56 d5_reckon_103 f_22_2 ?_
        refine g_topI (nI ((r.length + 1))) (hn) ?_
        refine g_iconstv (nI 1) d5_reckon_106 rfl ?_
        refine g_isubN (by omega) d5_reckon_107 ?_
        refine g_topI (nI (r.length)) (rfl) ?_
        refine g_laldN (r.length) d5_reckon_108 a_24 (rfl) (by omega) (by decide) ?_
        refine g_topL (a) (hR.1) ?_
        refine g_lsub d5_reckon_109 ?_
        refine g_lastN (r.length) _ d5_reckon_110 a_24 (rfl) (by omega) (by decide) t_24 ?_
        refine g_goto 195 d5_reckon_111 rfl ?_
        refine g_iincN d5_reckon_195 rfl (by decide) ?_
        refine g_goto 13 d5_reckon_198 rfl ?_
        refine g_lo [(0, .ref 22), (1, .ref T), (2, .int fr), (3, .int (nI last)), (4, .int (nI (k + 1)))] ⟨rfl, rfl, rfl, rfl, rfl, trivial⟩ ?_
        exact ih (k + 1) ((1 - a) :: r) I2 (uL L2 24 r.length (1 - a)) res ⟨uL_ss, by rw [uL_s]; exact RR_up (Nat.le_refl _) hR.2⟩ i1 i2 (fun c hc => by rw [uL_n hc]; exact l1 c hc) hn h3 h64 (by omega) he
      · -- 3
        have ho : cop st wi k = 29 := by unfold cop; rw [if_neg (by omega)]; rw [if_neg (by omega)]; rw [if_neg (by omega)]; rw [if_pos hs]
        have hg : carg st wi k = wi k := by unfold carg; rw [if_neg (by omega)]
        have hlt := v5 (by omega)
        rw [sC_jmp (by omega), ho] at he
        match s, he, hR, hn, h64 with
        | a :: r, he, hR, hn, h64 =>
        have hn : I2 22 2 = nI (r.length + 1) := hn
        have h64b : r.length + 1 ≤ 64 := h64
        by_cases ea : a = 0
        · rw [hg] at he
          replace he : eC (cop st wi) (carg st wi) env last f (wi k) (a :: r) = some res := by dsimp only at he; rw [if_pos (show a = (if 29 = 29 then 0 else 1) from ea)] at he; exact he
          by_cases e2 : wi k - 1 ≤ k
          · skip
            refine g_iload d5_reckon_13 rfl ?_
            refine g_iload_n d5_reckon_15 rfl ?_
            refine g_ic_ge ((k : Nat) : Int) ((last : Nat) : Int) 201 (nI_ti (by omega)) (nI_ti (by omega)) d5_reckon_16 rfl (fun c16 => absurd c16 (by omega)) (fun _ => ?_)
            refine g_aload_n d5_reckon_19 rfl ?_
            refine g_get fl5_36 d5_reckon_20 f_22_3 ?_
            refine g_topI ((0 : Int32)) (h3) ?_
            refine g_iz_ne (0) 201 (by decide) d5_reckon_23 rfl (fun c23 => absurd c23 (by decide)) (fun _ => ?_)
            refine g_aload_n d5_reckon_26 rfl ?_
            refine g_get fl5_59 d5_reckon_27 (hX.f5) ?_
            refine g_iload d5_reckon_30 rfl ?_
            refine g_ialdN (k) d5_reckon_32 hX.a5 (rfl) (by omega) (by omega) ?_
            refine g_topI (nI 3) (by rw [v1, hs]) ?_
            refine g_istore d5_reckon_33 (by decide) ?_
            refine g_aload_n d5_reckon_35 rfl ?_
            refine g_get fl5_62 d5_reckon_36 (hX.f6) ?_
            refine g_iload d5_reckon_39 rfl ?_
            refine g_ialdN (k) d5_reckon_41 hX.a6 (rfl) (by omega) (by omega) ?_
            refine g_topI (nI (wi k)) (v2) ?_
            refine g_istore d5_reckon_42 (by decide) ?_
            refine g_iload d5_reckon_44 rfl ?_
            refine g_iz_eq (3) 55 (by decide) d5_reckon_46 rfl (fun c46 => absurd c46 (by decide)) (fun _ => ?_)
            refine g_iload d5_reckon_49 rfl ?_
            refine g_iconstv (nI 1) d5_reckon_51 rfl ?_
            refine g_ic_ne (3) (1) 66 (by decide) (by decide) d5_reckon_52 rfl (fun _ => ?_) (fun c52 => absurd c52 (by decide))
            refine g_aload_n d5_reckon_66 rfl ?_
            refine g_get fl5_56 d5_reckon_67 f_22_2 ?_
            refine g_topI (nI ((r.length + 1))) (hn) ?_
            refine g_iz_ne (((r.length + 1) : Nat) : Int) 81 (nI_ti (by omega)) d5_reckon_70 rfl (fun _ => ?_) (fun c70 => absurd c70 (by omega))
            refine g_iload d5_reckon_81 rfl ?_
            refine g_iconstv (nI 2) d5_reckon_83 rfl ?_
            refine g_ic_ne (3) (2) 114 (by decide) (by decide) d5_reckon_84 rfl (fun _ => ?_) (fun c84 => absurd c84 (by decide))
            refine g_iload d5_reckon_114 rfl ?_
            refine g_iconstv (nI 3) d5_reckon_116 rfl ?_
            refine g_ic_eq (3) (3) 135 (by decide) (by decide) d5_reckon_117 rfl (fun _ => ?_) (fun c117 => absurd c117 (by decide))
            refine g_aload_n d5_reckon_135 rfl ?_
            refine g_get fl5_13 d5_reckon_136 f_22_1 ?_
            refine g_aload_n d5_reckon_139 rfl ?_
            refine g_get fl5_56 d5_reckon_140 f_22_2 ?_
            refine g_topI (nI ((r.length + 1))) (hn) ?_
            refine g_iconstv (nI 1) d5_reckon_143 rfl ?_
            refine g_isubN (by omega) d5_reckon_144 ?_
            refine g_topI (nI (r.length)) (rfl) ?_
            refine g_laldN (r.length) d5_reckon_145 a_24 (rfl) (by omega) (by decide) ?_
            refine g_topL (a) (hR.1) ?_
            refine g_iload d5_reckon_146 rfl ?_
            refine g_iconstv (nI 4) d5_reckon_148 rfl ?_
            refine g_ic_ne (3) (4) 156 (by decide) (by decide) d5_reckon_149 rfl (fun _ => ?_) (fun c149 => absurd c149 (by decide))
            refine g_iconstv (nI 0) d5_reckon_156 rfl ?_
            refine g_i2l d5_reckon_157 ?_
            refine g_lx_ne a.toInt (0) 185 (rfl) ((i2l_int _).trans (by decide)) d5_reckon_158 d5_reckon_159 rfl (fun c158 => absurd c158 (fun z => z (by rw [ea]; rfl))) (fun _ => ?_)
            refine g_iload d5_reckon_162 rfl ?_
            refine g_iconstv (nI 1) d5_reckon_164 rfl ?_
            refine g_isubN (by omega) d5_reckon_165 ?_
            refine g_iload d5_reckon_166 rfl ?_
            refine g_ic_le (((wi k - 1) : Nat) : Int) ((k : Nat) : Int) 178 (nI_ti (by omega)) (nI_ti (by omega)) d5_reckon_168 rfl (fun _ => ?_) (fun c168 => absurd c168 (by omega))
            refine g_iload d5_reckon_178 rfl ?_
            refine g_istore d5_reckon_180 (by decide) ?_
            refine g_goto 195 d5_reckon_182 rfl ?_
            refine g_iincN d5_reckon_195 rfl (by decide) ?_
            refine g_goto 13 d5_reckon_198 rfl ?_
            refine g_lo [(0, .ref 22), (1, .ref T), (2, .int fr), (3, .int (nI last)), (4, .int (nI (wi k)))] ⟨rfl, rfl, rfl, rfl, by rw [show wi k = k + 1 by omega]; rfl, trivial⟩ ?_
            exact ih (wi k) (a :: r) I2 L2 res hR i1 i2 l1 hn h3 h64 (by omega) he
          · skip
            refine g_iload d5_reckon_13 rfl ?_
            refine g_iload_n d5_reckon_15 rfl ?_
            refine g_ic_ge ((k : Nat) : Int) ((last : Nat) : Int) 201 (nI_ti (by omega)) (nI_ti (by omega)) d5_reckon_16 rfl (fun c16 => absurd c16 (by omega)) (fun _ => ?_)
            refine g_aload_n d5_reckon_19 rfl ?_
            refine g_get fl5_36 d5_reckon_20 f_22_3 ?_
            refine g_topI ((0 : Int32)) (h3) ?_
            refine g_iz_ne (0) 201 (by decide) d5_reckon_23 rfl (fun c23 => absurd c23 (by decide)) (fun _ => ?_)
            refine g_aload_n d5_reckon_26 rfl ?_
            refine g_get fl5_59 d5_reckon_27 (hX.f5) ?_
            refine g_iload d5_reckon_30 rfl ?_
            refine g_ialdN (k) d5_reckon_32 hX.a5 (rfl) (by omega) (by omega) ?_
            refine g_topI (nI 3) (by rw [v1, hs]) ?_
            refine g_istore d5_reckon_33 (by decide) ?_
            refine g_aload_n d5_reckon_35 rfl ?_
            refine g_get fl5_62 d5_reckon_36 (hX.f6) ?_
            refine g_iload d5_reckon_39 rfl ?_
            refine g_ialdN (k) d5_reckon_41 hX.a6 (rfl) (by omega) (by omega) ?_
            refine g_topI (nI (wi k)) (v2) ?_
            refine g_istore d5_reckon_42 (by decide) ?_
            refine g_iload d5_reckon_44 rfl ?_
            refine g_iz_eq (3) 55 (by decide) d5_reckon_46 rfl (fun c46 => absurd c46 (by decide)) (fun _ => ?_)
            refine g_iload d5_reckon_49 rfl ?_
            refine g_iconstv (nI 1) d5_reckon_51 rfl ?_
            refine g_ic_ne (3) (1) 66 (by decide) (by decide) d5_reckon_52 rfl (fun _ => ?_) (fun c52 => absurd c52 (by decide))
            refine g_aload_n d5_reckon_66 rfl ?_
            refine g_get fl5_56 d5_reckon_67 f_22_2 ?_
            refine g_topI (nI ((r.length + 1))) (hn) ?_
            refine g_iz_ne (((r.length + 1) : Nat) : Int) 81 (nI_ti (by omega)) d5_reckon_70 rfl (fun _ => ?_) (fun c70 => absurd c70 (by omega))
            refine g_iload d5_reckon_81 rfl ?_
            refine g_iconstv (nI 2) d5_reckon_83 rfl ?_
            refine g_ic_ne (3) (2) 114 (by decide) (by decide) d5_reckon_84 rfl (fun _ => ?_) (fun c84 => absurd c84 (by decide))
            refine g_iload d5_reckon_114 rfl ?_
            refine g_iconstv (nI 3) d5_reckon_116 rfl ?_
            refine g_ic_eq (3) (3) 135 (by decide) (by decide) d5_reckon_117 rfl (fun _ => ?_) (fun c117 => absurd c117 (by decide))
            refine g_aload_n d5_reckon_135 rfl ?_
            refine g_get fl5_13 d5_reckon_136 f_22_1 ?_
            refine g_aload_n d5_reckon_139 rfl ?_
            refine g_get fl5_56 d5_reckon_140 f_22_2 ?_
            refine g_topI (nI ((r.length + 1))) (hn) ?_
            refine g_iconstv (nI 1) d5_reckon_143 rfl ?_
            refine g_isubN (by omega) d5_reckon_144 ?_
            refine g_topI (nI (r.length)) (rfl) ?_
            refine g_laldN (r.length) d5_reckon_145 a_24 (rfl) (by omega) (by decide) ?_
            refine g_topL (a) (hR.1) ?_
            refine g_iload d5_reckon_146 rfl ?_
            refine g_iconstv (nI 4) d5_reckon_148 rfl ?_
            refine g_ic_ne (3) (4) 156 (by decide) (by decide) d5_reckon_149 rfl (fun _ => ?_) (fun c149 => absurd c149 (by decide))
            refine g_iconstv (nI 0) d5_reckon_156 rfl ?_
            refine g_i2l d5_reckon_157 ?_
            refine g_lx_ne a.toInt (0) 185 (rfl) ((i2l_int _).trans (by decide)) d5_reckon_158 d5_reckon_159 rfl (fun c158 => absurd c158 (fun z => z (by rw [ea]; rfl))) (fun _ => ?_)
            refine g_iload d5_reckon_162 rfl ?_
            refine g_iconstv (nI 1) d5_reckon_164 rfl ?_
            refine g_isubN (by omega) d5_reckon_165 ?_
            refine g_iload d5_reckon_166 rfl ?_
            refine g_ic_le (((wi k - 1) : Nat) : Int) ((k : Nat) : Int) 178 (nI_ti (by omega)) (nI_ti (by omega)) d5_reckon_168 rfl (fun c168 => absurd c168 (by omega)) (fun _ => ?_)
            refine g_iload d5_reckon_171 rfl ?_
            refine g_iconstv (nI 1) d5_reckon_173 rfl ?_
            refine g_isubN (by omega) d5_reckon_174 ?_
            refine g_goto 180 d5_reckon_175 rfl ?_
            refine g_istore d5_reckon_180 (by decide) ?_
            refine g_goto 195 d5_reckon_182 rfl ?_
            refine g_iincN d5_reckon_195 rfl (by decide) ?_
            refine g_goto 13 d5_reckon_198 rfl ?_
            refine g_lo [(0, .ref 22), (1, .ref T), (2, .int fr), (3, .int (nI last)), (4, .int (nI (wi k)))] ⟨rfl, rfl, rfl, rfl, by rw [show wi k = wi k - 1 + 1 by omega]; rfl, trivial⟩ ?_
            exact ih (wi k) (a :: r) I2 L2 res hR i1 i2 l1 hn h3 h64 (by omega) he
        · replace he : eC (cop st wi) (carg st wi) env last f (k + 1) r = some res := by dsimp only at he; rw [if_neg (show ¬ a = (if 29 = 29 then 0 else 1) from ea)] at he; exact he
          refine g_iload d5_reckon_13 rfl ?_
          refine g_iload_n d5_reckon_15 rfl ?_
          refine g_ic_ge ((k : Nat) : Int) ((last : Nat) : Int) 201 (nI_ti (by omega)) (nI_ti (by omega)) d5_reckon_16 rfl (fun c16 => absurd c16 (by omega)) (fun _ => ?_)
          refine g_aload_n d5_reckon_19 rfl ?_
          refine g_get fl5_36 d5_reckon_20 f_22_3 ?_
          refine g_topI ((0 : Int32)) (h3) ?_
          refine g_iz_ne (0) 201 (by decide) d5_reckon_23 rfl (fun c23 => absurd c23 (by decide)) (fun _ => ?_)
          refine g_aload_n d5_reckon_26 rfl ?_
          refine g_get fl5_59 d5_reckon_27 (hX.f5) ?_
          refine g_iload d5_reckon_30 rfl ?_
          refine g_ialdN (k) d5_reckon_32 hX.a5 (rfl) (by omega) (by omega) ?_
          refine g_topI (nI 3) (by rw [v1, hs]) ?_
          refine g_istore d5_reckon_33 (by decide) ?_
          refine g_aload_n d5_reckon_35 rfl ?_
          refine g_get fl5_62 d5_reckon_36 (hX.f6) ?_
          refine g_iload d5_reckon_39 rfl ?_
          refine g_ialdN (k) d5_reckon_41 hX.a6 (rfl) (by omega) (by omega) ?_
          refine g_topI (nI (wi k)) (v2) ?_
          refine g_istore d5_reckon_42 (by decide) ?_
          refine g_iload d5_reckon_44 rfl ?_
          refine g_iz_eq (3) 55 (by decide) d5_reckon_46 rfl (fun c46 => absurd c46 (by decide)) (fun _ => ?_)
          refine g_iload d5_reckon_49 rfl ?_
          refine g_iconstv (nI 1) d5_reckon_51 rfl ?_
          refine g_ic_ne (3) (1) 66 (by decide) (by decide) d5_reckon_52 rfl (fun _ => ?_) (fun c52 => absurd c52 (by decide))
          refine g_aload_n d5_reckon_66 rfl ?_
          refine g_get fl5_56 d5_reckon_67 f_22_2 ?_
          refine g_topI (nI ((r.length + 1))) (hn) ?_
          refine g_iz_ne (((r.length + 1) : Nat) : Int) 81 (nI_ti (by omega)) d5_reckon_70 rfl (fun _ => ?_) (fun c70 => absurd c70 (by omega))
          refine g_iload d5_reckon_81 rfl ?_
          refine g_iconstv (nI 2) d5_reckon_83 rfl ?_
          refine g_ic_ne (3) (2) 114 (by decide) (by decide) d5_reckon_84 rfl (fun _ => ?_) (fun c84 => absurd c84 (by decide))
          refine g_iload d5_reckon_114 rfl ?_
          refine g_iconstv (nI 3) d5_reckon_116 rfl ?_
          refine g_ic_eq (3) (3) 135 (by decide) (by decide) d5_reckon_117 rfl (fun _ => ?_) (fun c117 => absurd c117 (by decide))
          refine g_aload_n d5_reckon_135 rfl ?_
          refine g_get fl5_13 d5_reckon_136 f_22_1 ?_
          refine g_aload_n d5_reckon_139 rfl ?_
          refine g_get fl5_56 d5_reckon_140 f_22_2 ?_
          refine g_topI (nI ((r.length + 1))) (hn) ?_
          refine g_iconstv (nI 1) d5_reckon_143 rfl ?_
          refine g_isubN (by omega) d5_reckon_144 ?_
          refine g_topI (nI (r.length)) (rfl) ?_
          refine g_laldN (r.length) d5_reckon_145 a_24 (rfl) (by omega) (by decide) ?_
          refine g_topL (a) (hR.1) ?_
          refine g_iload d5_reckon_146 rfl ?_
          refine g_iconstv (nI 4) d5_reckon_148 rfl ?_
          refine g_ic_ne (3) (4) 156 (by decide) (by decide) d5_reckon_149 rfl (fun _ => ?_) (fun c149 => absurd c149 (by decide))
          refine g_iconstv (nI 0) d5_reckon_156 rfl ?_
          refine g_i2l d5_reckon_157 ?_
          refine g_lx_ne a.toInt (0) 185 (rfl) ((i2l_int _).trans (by decide)) d5_reckon_158 d5_reckon_159 rfl (fun _ => ?_) (fun c158 => absurd c158 (fun z => ea (by rw [l_eq]; exact z)))
          refine g_aload_n d5_reckon_185 rfl ?_
          refine g_dup d5_reckon_186 rfl ?_
          refine g_get fl5_56 d5_reckon_187 f_22_2 ?_
          refine g_topI (nI ((r.length + 1))) (hn) ?_
          refine g_iconstv (nI 1) d5_reckon_190 rfl ?_
          refine g_isubN (by omega) d5_reckon_191 ?_
          refine g_topI (nI (r.length)) (rfl) ?_
          refine g_putIh _ fl5_56 d5_reckon_192 f_22_2 s_22_2 ?_
          refine g_iincN d5_reckon_195 rfl (by decide) ?_
          refine g_goto 13 d5_reckon_198 rfl ?_
          refine g_lo [(0, .ref 22), (1, .ref T), (2, .int fr), (3, .int (nI last)), (4, .int (nI (k + 1)))] ⟨rfl, rfl, rfl, rfl, rfl, trivial⟩ ?_
          exact ih (k + 1) r (uI I2 22 2 (nI r.length)) L2 res hR.2 (fun c hc => by rw [uI_n hc]; exact i1 c hc) (fun j j1 j2 => by rw [uI_sn j1]; exact i2 j j1 j2) l1 uI_ss (by rw [uI_sn (by decide)]; exact h3) (by omega) (by omega) he
      · -- 4
        have ho : cop st wi k = 30 := by unfold cop; rw [if_neg (by omega)]; rw [if_neg (by omega)]; rw [if_neg (by omega)]; rw [if_neg (by omega)]; rw [if_pos hs]
        have hg : carg st wi k = wi k := by unfold carg; rw [if_neg (by omega)]
        have hlt := v5 (by omega)
        rw [sC_jmp (by omega), ho] at he
        match s, he, hR, hn, h64 with
        | a :: r, he, hR, hn, h64 =>
        have hn : I2 22 2 = nI (r.length + 1) := hn
        have h64b : r.length + 1 ≤ 64 := h64
        by_cases ea : a = 1
        · rw [hg] at he
          replace he : eC (cop st wi) (carg st wi) env last f (wi k) (a :: r) = some res := by dsimp only at he; rw [if_pos (show a = (if 30 = 29 then 0 else 1) from ea)] at he; exact he
          by_cases e2 : wi k - 1 ≤ k
          · skip
            refine g_iload d5_reckon_13 rfl ?_
            refine g_iload_n d5_reckon_15 rfl ?_
            refine g_ic_ge ((k : Nat) : Int) ((last : Nat) : Int) 201 (nI_ti (by omega)) (nI_ti (by omega)) d5_reckon_16 rfl (fun c16 => absurd c16 (by omega)) (fun _ => ?_)
            refine g_aload_n d5_reckon_19 rfl ?_
            refine g_get fl5_36 d5_reckon_20 f_22_3 ?_
            refine g_topI ((0 : Int32)) (h3) ?_
            refine g_iz_ne (0) 201 (by decide) d5_reckon_23 rfl (fun c23 => absurd c23 (by decide)) (fun _ => ?_)
            refine g_aload_n d5_reckon_26 rfl ?_
            refine g_get fl5_59 d5_reckon_27 (hX.f5) ?_
            refine g_iload d5_reckon_30 rfl ?_
            refine g_ialdN (k) d5_reckon_32 hX.a5 (rfl) (by omega) (by omega) ?_
            refine g_topI (nI 4) (by rw [v1, hs]) ?_
            refine g_istore d5_reckon_33 (by decide) ?_
            refine g_aload_n d5_reckon_35 rfl ?_
            refine g_get fl5_62 d5_reckon_36 (hX.f6) ?_
            refine g_iload d5_reckon_39 rfl ?_
            refine g_ialdN (k) d5_reckon_41 hX.a6 (rfl) (by omega) (by omega) ?_
            refine g_topI (nI (wi k)) (v2) ?_
            refine g_istore d5_reckon_42 (by decide) ?_
            refine g_iload d5_reckon_44 rfl ?_
            refine g_iz_eq (4) 55 (by decide) d5_reckon_46 rfl (fun c46 => absurd c46 (by decide)) (fun _ => ?_)
            refine g_iload d5_reckon_49 rfl ?_
            refine g_iconstv (nI 1) d5_reckon_51 rfl ?_
            refine g_ic_ne (4) (1) 66 (by decide) (by decide) d5_reckon_52 rfl (fun _ => ?_) (fun c52 => absurd c52 (by decide))
            refine g_aload_n d5_reckon_66 rfl ?_
            refine g_get fl5_56 d5_reckon_67 f_22_2 ?_
            refine g_topI (nI ((r.length + 1))) (hn) ?_
            refine g_iz_ne (((r.length + 1) : Nat) : Int) 81 (nI_ti (by omega)) d5_reckon_70 rfl (fun _ => ?_) (fun c70 => absurd c70 (by omega))
            refine g_iload d5_reckon_81 rfl ?_
            refine g_iconstv (nI 2) d5_reckon_83 rfl ?_
            refine g_ic_ne (4) (2) 114 (by decide) (by decide) d5_reckon_84 rfl (fun _ => ?_) (fun c84 => absurd c84 (by decide))
            refine g_iload d5_reckon_114 rfl ?_
            refine g_iconstv (nI 3) d5_reckon_116 rfl ?_
            refine g_ic_eq (4) (3) 135 (by decide) (by decide) d5_reckon_117 rfl (fun c117 => absurd c117 (by decide)) (fun _ => ?_)
            refine g_iload d5_reckon_120 rfl ?_
            refine g_iconstv (nI 4) d5_reckon_122 rfl ?_
            refine g_ic_eq (4) (4) 135 (by decide) (by decide) d5_reckon_123 rfl (fun _ => ?_) (fun c123 => absurd c123 (by decide))
            refine g_aload_n d5_reckon_135 rfl ?_
            refine g_get fl5_13 d5_reckon_136 f_22_1 ?_
            refine g_aload_n d5_reckon_139 rfl ?_
            refine g_get fl5_56 d5_reckon_140 f_22_2 ?_
            refine g_topI (nI ((r.length + 1))) (hn) ?_
            refine g_iconstv (nI 1) d5_reckon_143 rfl ?_
            refine g_isubN (by omega) d5_reckon_144 ?_
            refine g_topI (nI (r.length)) (rfl) ?_
            refine g_laldN (r.length) d5_reckon_145 a_24 (rfl) (by omega) (by decide) ?_
            refine g_topL (a) (hR.1) ?_
            refine g_iload d5_reckon_146 rfl ?_
            refine g_iconstv (nI 4) d5_reckon_148 rfl ?_
            refine g_ic_ne (4) (4) 156 (by decide) (by decide) d5_reckon_149 rfl (fun c149 => absurd c149 (by decide)) (fun _ => ?_)
            refine g_iconstv (nI 1) d5_reckon_152 rfl ?_
            refine g_goto 157 d5_reckon_153 rfl ?_
            refine g_i2l d5_reckon_157 ?_
            refine g_lx_ne a.toInt (1) 185 (rfl) ((i2l_int _).trans (by decide)) d5_reckon_158 d5_reckon_159 rfl (fun c158 => absurd c158 (fun z => z (by rw [ea]; rfl))) (fun _ => ?_)
            refine g_iload d5_reckon_162 rfl ?_
            refine g_iconstv (nI 1) d5_reckon_164 rfl ?_
            refine g_isubN (by omega) d5_reckon_165 ?_
            refine g_iload d5_reckon_166 rfl ?_
            refine g_ic_le (((wi k - 1) : Nat) : Int) ((k : Nat) : Int) 178 (nI_ti (by omega)) (nI_ti (by omega)) d5_reckon_168 rfl (fun _ => ?_) (fun c168 => absurd c168 (by omega))
            refine g_iload d5_reckon_178 rfl ?_
            refine g_istore d5_reckon_180 (by decide) ?_
            refine g_goto 195 d5_reckon_182 rfl ?_
            refine g_iincN d5_reckon_195 rfl (by decide) ?_
            refine g_goto 13 d5_reckon_198 rfl ?_
            refine g_lo [(0, .ref 22), (1, .ref T), (2, .int fr), (3, .int (nI last)), (4, .int (nI (wi k)))] ⟨rfl, rfl, rfl, rfl, by rw [show wi k = k + 1 by omega]; rfl, trivial⟩ ?_
            exact ih (wi k) (a :: r) I2 L2 res hR i1 i2 l1 hn h3 h64 (by omega) he
          · skip
            refine g_iload d5_reckon_13 rfl ?_
            refine g_iload_n d5_reckon_15 rfl ?_
            refine g_ic_ge ((k : Nat) : Int) ((last : Nat) : Int) 201 (nI_ti (by omega)) (nI_ti (by omega)) d5_reckon_16 rfl (fun c16 => absurd c16 (by omega)) (fun _ => ?_)
            refine g_aload_n d5_reckon_19 rfl ?_
            refine g_get fl5_36 d5_reckon_20 f_22_3 ?_
            refine g_topI ((0 : Int32)) (h3) ?_
            refine g_iz_ne (0) 201 (by decide) d5_reckon_23 rfl (fun c23 => absurd c23 (by decide)) (fun _ => ?_)
            refine g_aload_n d5_reckon_26 rfl ?_
            refine g_get fl5_59 d5_reckon_27 (hX.f5) ?_
            refine g_iload d5_reckon_30 rfl ?_
            refine g_ialdN (k) d5_reckon_32 hX.a5 (rfl) (by omega) (by omega) ?_
            refine g_topI (nI 4) (by rw [v1, hs]) ?_
            refine g_istore d5_reckon_33 (by decide) ?_
            refine g_aload_n d5_reckon_35 rfl ?_
            refine g_get fl5_62 d5_reckon_36 (hX.f6) ?_
            refine g_iload d5_reckon_39 rfl ?_
            refine g_ialdN (k) d5_reckon_41 hX.a6 (rfl) (by omega) (by omega) ?_
            refine g_topI (nI (wi k)) (v2) ?_
            refine g_istore d5_reckon_42 (by decide) ?_
            refine g_iload d5_reckon_44 rfl ?_
            refine g_iz_eq (4) 55 (by decide) d5_reckon_46 rfl (fun c46 => absurd c46 (by decide)) (fun _ => ?_)
            refine g_iload d5_reckon_49 rfl ?_
            refine g_iconstv (nI 1) d5_reckon_51 rfl ?_
            refine g_ic_ne (4) (1) 66 (by decide) (by decide) d5_reckon_52 rfl (fun _ => ?_) (fun c52 => absurd c52 (by decide))
            refine g_aload_n d5_reckon_66 rfl ?_
            refine g_get fl5_56 d5_reckon_67 f_22_2 ?_
            refine g_topI (nI ((r.length + 1))) (hn) ?_
            refine g_iz_ne (((r.length + 1) : Nat) : Int) 81 (nI_ti (by omega)) d5_reckon_70 rfl (fun _ => ?_) (fun c70 => absurd c70 (by omega))
            refine g_iload d5_reckon_81 rfl ?_
            refine g_iconstv (nI 2) d5_reckon_83 rfl ?_
            refine g_ic_ne (4) (2) 114 (by decide) (by decide) d5_reckon_84 rfl (fun _ => ?_) (fun c84 => absurd c84 (by decide))
            refine g_iload d5_reckon_114 rfl ?_
            refine g_iconstv (nI 3) d5_reckon_116 rfl ?_
            refine g_ic_eq (4) (3) 135 (by decide) (by decide) d5_reckon_117 rfl (fun c117 => absurd c117 (by decide)) (fun _ => ?_)
            refine g_iload d5_reckon_120 rfl ?_
            refine g_iconstv (nI 4) d5_reckon_122 rfl ?_
            refine g_ic_eq (4) (4) 135 (by decide) (by decide) d5_reckon_123 rfl (fun _ => ?_) (fun c123 => absurd c123 (by decide))
            refine g_aload_n d5_reckon_135 rfl ?_
            refine g_get fl5_13 d5_reckon_136 f_22_1 ?_
            refine g_aload_n d5_reckon_139 rfl ?_
            refine g_get fl5_56 d5_reckon_140 f_22_2 ?_
            refine g_topI (nI ((r.length + 1))) (hn) ?_
            refine g_iconstv (nI 1) d5_reckon_143 rfl ?_
            refine g_isubN (by omega) d5_reckon_144 ?_
            refine g_topI (nI (r.length)) (rfl) ?_
            refine g_laldN (r.length) d5_reckon_145 a_24 (rfl) (by omega) (by decide) ?_
            refine g_topL (a) (hR.1) ?_
            refine g_iload d5_reckon_146 rfl ?_
            refine g_iconstv (nI 4) d5_reckon_148 rfl ?_
            refine g_ic_ne (4) (4) 156 (by decide) (by decide) d5_reckon_149 rfl (fun c149 => absurd c149 (by decide)) (fun _ => ?_)
            refine g_iconstv (nI 1) d5_reckon_152 rfl ?_
            refine g_goto 157 d5_reckon_153 rfl ?_
            refine g_i2l d5_reckon_157 ?_
            refine g_lx_ne a.toInt (1) 185 (rfl) ((i2l_int _).trans (by decide)) d5_reckon_158 d5_reckon_159 rfl (fun c158 => absurd c158 (fun z => z (by rw [ea]; rfl))) (fun _ => ?_)
            refine g_iload d5_reckon_162 rfl ?_
            refine g_iconstv (nI 1) d5_reckon_164 rfl ?_
            refine g_isubN (by omega) d5_reckon_165 ?_
            refine g_iload d5_reckon_166 rfl ?_
            refine g_ic_le (((wi k - 1) : Nat) : Int) ((k : Nat) : Int) 178 (nI_ti (by omega)) (nI_ti (by omega)) d5_reckon_168 rfl (fun c168 => absurd c168 (by omega)) (fun _ => ?_)
            refine g_iload d5_reckon_171 rfl ?_
            refine g_iconstv (nI 1) d5_reckon_173 rfl ?_
            refine g_isubN (by omega) d5_reckon_174 ?_
            refine g_goto 180 d5_reckon_175 rfl ?_
            refine g_istore d5_reckon_180 (by decide) ?_
            refine g_goto 195 d5_reckon_182 rfl ?_
            refine g_iincN d5_reckon_195 rfl (by decide) ?_
            refine g_goto 13 d5_reckon_198 rfl ?_
            refine g_lo [(0, .ref 22), (1, .ref T), (2, .int fr), (3, .int (nI last)), (4, .int (nI (wi k)))] ⟨rfl, rfl, rfl, rfl, by rw [show wi k = wi k - 1 + 1 by omega]; rfl, trivial⟩ ?_
            exact ih (wi k) (a :: r) I2 L2 res hR i1 i2 l1 hn h3 h64 (by omega) he
        · replace he : eC (cop st wi) (carg st wi) env last f (k + 1) r = some res := by dsimp only at he; rw [if_neg (show ¬ a = (if 30 = 29 then 0 else 1) from ea)] at he; exact he
          refine g_iload d5_reckon_13 rfl ?_
          refine g_iload_n d5_reckon_15 rfl ?_
          refine g_ic_ge ((k : Nat) : Int) ((last : Nat) : Int) 201 (nI_ti (by omega)) (nI_ti (by omega)) d5_reckon_16 rfl (fun c16 => absurd c16 (by omega)) (fun _ => ?_)
          refine g_aload_n d5_reckon_19 rfl ?_
          refine g_get fl5_36 d5_reckon_20 f_22_3 ?_
          refine g_topI ((0 : Int32)) (h3) ?_
          refine g_iz_ne (0) 201 (by decide) d5_reckon_23 rfl (fun c23 => absurd c23 (by decide)) (fun _ => ?_)
          refine g_aload_n d5_reckon_26 rfl ?_
          refine g_get fl5_59 d5_reckon_27 (hX.f5) ?_
          refine g_iload d5_reckon_30 rfl ?_
          refine g_ialdN (k) d5_reckon_32 hX.a5 (rfl) (by omega) (by omega) ?_
          refine g_topI (nI 4) (by rw [v1, hs]) ?_
          refine g_istore d5_reckon_33 (by decide) ?_
          refine g_aload_n d5_reckon_35 rfl ?_
          refine g_get fl5_62 d5_reckon_36 (hX.f6) ?_
          refine g_iload d5_reckon_39 rfl ?_
          refine g_ialdN (k) d5_reckon_41 hX.a6 (rfl) (by omega) (by omega) ?_
          refine g_topI (nI (wi k)) (v2) ?_
          refine g_istore d5_reckon_42 (by decide) ?_
          refine g_iload d5_reckon_44 rfl ?_
          refine g_iz_eq (4) 55 (by decide) d5_reckon_46 rfl (fun c46 => absurd c46 (by decide)) (fun _ => ?_)
          refine g_iload d5_reckon_49 rfl ?_
          refine g_iconstv (nI 1) d5_reckon_51 rfl ?_
          refine g_ic_ne (4) (1) 66 (by decide) (by decide) d5_reckon_52 rfl (fun _ => ?_) (fun c52 => absurd c52 (by decide))
          refine g_aload_n d5_reckon_66 rfl ?_
          refine g_get fl5_56 d5_reckon_67 f_22_2 ?_
          refine g_topI (nI ((r.length + 1))) (hn) ?_
          refine g_iz_ne (((r.length + 1) : Nat) : Int) 81 (nI_ti (by omega)) d5_reckon_70 rfl (fun _ => ?_) (fun c70 => absurd c70 (by omega))
          refine g_iload d5_reckon_81 rfl ?_
          refine g_iconstv (nI 2) d5_reckon_83 rfl ?_
          refine g_ic_ne (4) (2) 114 (by decide) (by decide) d5_reckon_84 rfl (fun _ => ?_) (fun c84 => absurd c84 (by decide))
          refine g_iload d5_reckon_114 rfl ?_
          refine g_iconstv (nI 3) d5_reckon_116 rfl ?_
          refine g_ic_eq (4) (3) 135 (by decide) (by decide) d5_reckon_117 rfl (fun c117 => absurd c117 (by decide)) (fun _ => ?_)
          refine g_iload d5_reckon_120 rfl ?_
          refine g_iconstv (nI 4) d5_reckon_122 rfl ?_
          refine g_ic_eq (4) (4) 135 (by decide) (by decide) d5_reckon_123 rfl (fun _ => ?_) (fun c123 => absurd c123 (by decide))
          refine g_aload_n d5_reckon_135 rfl ?_
          refine g_get fl5_13 d5_reckon_136 f_22_1 ?_
          refine g_aload_n d5_reckon_139 rfl ?_
          refine g_get fl5_56 d5_reckon_140 f_22_2 ?_
          refine g_topI (nI ((r.length + 1))) (hn) ?_
          refine g_iconstv (nI 1) d5_reckon_143 rfl ?_
          refine g_isubN (by omega) d5_reckon_144 ?_
          refine g_topI (nI (r.length)) (rfl) ?_
          refine g_laldN (r.length) d5_reckon_145 a_24 (rfl) (by omega) (by decide) ?_
          refine g_topL (a) (hR.1) ?_
          refine g_iload d5_reckon_146 rfl ?_
          refine g_iconstv (nI 4) d5_reckon_148 rfl ?_
          refine g_ic_ne (4) (4) 156 (by decide) (by decide) d5_reckon_149 rfl (fun c149 => absurd c149 (by decide)) (fun _ => ?_)
          refine g_iconstv (nI 1) d5_reckon_152 rfl ?_
          refine g_goto 157 d5_reckon_153 rfl ?_
          refine g_i2l d5_reckon_157 ?_
          refine g_lx_ne a.toInt (1) 185 (rfl) ((i2l_int _).trans (by decide)) d5_reckon_158 d5_reckon_159 rfl (fun _ => ?_) (fun c158 => absurd c158 (fun z => ea (by rw [l_eq]; exact z)))
          refine g_aload_n d5_reckon_185 rfl ?_
          refine g_dup d5_reckon_186 rfl ?_
          refine g_get fl5_56 d5_reckon_187 f_22_2 ?_
          refine g_topI (nI ((r.length + 1))) (hn) ?_
          refine g_iconstv (nI 1) d5_reckon_190 rfl ?_
          refine g_isubN (by omega) d5_reckon_191 ?_
          refine g_topI (nI (r.length)) (rfl) ?_
          refine g_putIh _ fl5_56 d5_reckon_192 f_22_2 s_22_2 ?_
          refine g_iincN d5_reckon_195 rfl (by decide) ?_
          refine g_goto 13 d5_reckon_198 rfl ?_
          refine g_lo [(0, .ref 22), (1, .ref T), (2, .int fr), (3, .int (nI last)), (4, .int (nI (k + 1)))] ⟨rfl, rfl, rfl, rfl, rfl, trivial⟩ ?_
          exact ih (k + 1) r (uI I2 22 2 (nI r.length)) L2 res hR.2 (fun c hc => by rw [uI_n hc]; exact i1 c hc) (fun j j1 j2 => by rw [uI_sn j1]; exact i2 j j1 j2) l1 uI_ss (by rw [uI_sn (by decide)]; exact h3) (by omega) (by omega) he
      · -- 43
        have ho : cop st wi k = 20 := by unfold cop; rw [if_neg (by omega)]; rw [if_neg (by omega)]; rw [if_neg (by omega)]; rw [if_neg (by omega)]; rw [if_neg (by omega)]; rw [if_pos hs]
        rw [sC_bin (by omega) (by omega), ho] at he
        match s, he, hR, hn, h64 with
        | b :: a :: r, he, hR, hn, h64 =>
        have hn : I2 22 2 = nI (r.length + 2) := hn
        have h64b : r.length + 2 ≤ 64 := h64
        have hRb : L2 24 (r.length + 2 - 1) = b := hR.1
        have hRa : L2 24 (r.length + 2 - 1 - 1) = a := hR.2.1
        have hax := arX_r (o := 20) (a := a) (b := b) (fun z => absurd z.1 (by decide))
        by_cases hin : -1000000000 ≤ (ar0 20 a b).toInt ∧ (ar0 20 a b).toInt ≤ 1000000000
        · replace he : eC (cop st wi) (carg st wi) env last f (k + 1) (ar0 20 a b :: r) = some res := by dsimp only at he; rw [if_neg (fun z => hax.1 z hin)] at he; exact he
          refine g_iload d5_reckon_13 rfl ?_
          refine g_iload_n d5_reckon_15 rfl ?_
          refine g_ic_ge ((k : Nat) : Int) ((last : Nat) : Int) 201 (nI_ti (by omega)) (nI_ti (by omega)) d5_reckon_16 rfl (fun c16 => absurd c16 (by omega)) (fun _ => ?_)
          refine g_aload_n d5_reckon_19 rfl ?_
          refine g_get fl5_36 d5_reckon_20 f_22_3 ?_
          refine g_topI ((0 : Int32)) (h3) ?_
          refine g_iz_ne (0) 201 (by decide) d5_reckon_23 rfl (fun c23 => absurd c23 (by decide)) (fun _ => ?_)
          refine g_aload_n d5_reckon_26 rfl ?_
          refine g_get fl5_59 d5_reckon_27 (hX.f5) ?_
          refine g_iload d5_reckon_30 rfl ?_
          refine g_ialdN (k) d5_reckon_32 hX.a5 (rfl) (by omega) (by omega) ?_
          refine g_topI (nI 43) (by rw [v1, hs]) ?_
          refine g_istore d5_reckon_33 (by decide) ?_
          refine g_aload_n d5_reckon_35 rfl ?_
          refine g_get fl5_62 d5_reckon_36 (hX.f6) ?_
          refine g_iload d5_reckon_39 rfl ?_
          refine g_ialdN (k) d5_reckon_41 hX.a6 (rfl) (by omega) (by omega) ?_
          refine g_topI (nI (wi k)) (v2) ?_
          refine g_istore d5_reckon_42 (by decide) ?_
          refine g_iload d5_reckon_44 rfl ?_
          refine g_iz_eq (43) 55 (by decide) d5_reckon_46 rfl (fun c46 => absurd c46 (by decide)) (fun _ => ?_)
          refine g_iload d5_reckon_49 rfl ?_
          refine g_iconstv (nI 1) d5_reckon_51 rfl ?_
          refine g_ic_ne (43) (1) 66 (by decide) (by decide) d5_reckon_52 rfl (fun _ => ?_) (fun c52 => absurd c52 (by decide))
          refine g_aload_n d5_reckon_66 rfl ?_
          refine g_get fl5_56 d5_reckon_67 f_22_2 ?_
          refine g_topI (nI ((r.length + 2))) (hn) ?_
          refine g_iz_ne (((r.length + 2) : Nat) : Int) 81 (nI_ti (by omega)) d5_reckon_70 rfl (fun _ => ?_) (fun c70 => absurd c70 (by omega))
          refine g_iload d5_reckon_81 rfl ?_
          refine g_iconstv (nI 2) d5_reckon_83 rfl ?_
          refine g_ic_ne (43) (2) 114 (by decide) (by decide) d5_reckon_84 rfl (fun _ => ?_) (fun c84 => absurd c84 (by decide))
          refine g_iload d5_reckon_114 rfl ?_
          refine g_iconstv (nI 3) d5_reckon_116 rfl ?_
          refine g_ic_eq (43) (3) 135 (by decide) (by decide) d5_reckon_117 rfl (fun c117 => absurd c117 (by decide)) (fun _ => ?_)
          refine g_iload d5_reckon_120 rfl ?_
          refine g_iconstv (nI 4) d5_reckon_122 rfl ?_
          refine g_ic_eq (43) (4) 135 (by decide) (by decide) d5_reckon_123 rfl (fun c123 => absurd c123 (by decide)) (fun _ => ?_)
          refine g_aload_n d5_reckon_126 rfl ?_
          refine g_iload d5_reckon_127 rfl ?_
          refine g_VV1 vm5_join ml5_69 c_22 (r5_22_j20 (I := I2) (L := L2) (r.length + 2) hn (by omega) h64b a b hRa hRb (Nat.le_refl 0)) (by omega) (Nat.le_of_ble_eq_true rfl) d5_reckon_129 ?_
          refine g_goto 195 d5_reckon_132 rfl ?_
          refine g_iincN d5_reckon_195 rfl (by decide) ?_
          refine g_goto 13 d5_reckon_198 rfl ?_
          refine g_lo [(0, .ref 22), (1, .ref T), (2, .int fr), (3, .int (nI last)), (4, .int (nI (k + 1)))] ⟨rfl, rfl, rfl, rfl, rfl, trivial⟩ ?_
          rw [if_pos hin]
          exact ih (k + 1) (ar0 20 a b :: r) _ _ res ⟨by rw [show r.length + 2 - 1 - 1 = r.length from rfl, uL_ss], by rw [uL_s]; exact RR_up (Nat.le_refl _) hR.2.2⟩ (fun c hc => by rw [uI_n hc, uI_n hc]; exact i1 c hc) (fun j j1 j2 => by rw [uI_sn j2, uI_sn j1]; exact i2 j j1 j2) (fun c hc => by rw [uL_n hc]; exact l1 c hc) (by rw [uI_sn (by decide), uI_ss]; rfl) uI_ss (by show r.length + 1 ≤ 64; omega) (by omega) he
        · replace he : some none = some res := by dsimp only at he; rw [if_pos (hax.2 hin)] at he; exact he
          obtain rfl : none = res := by injection he
          refine g_iload d5_reckon_13 rfl ?_
          refine g_iload_n d5_reckon_15 rfl ?_
          refine g_ic_ge ((k : Nat) : Int) ((last : Nat) : Int) 201 (nI_ti (by omega)) (nI_ti (by omega)) d5_reckon_16 rfl (fun c16 => absurd c16 (by omega)) (fun _ => ?_)
          refine g_aload_n d5_reckon_19 rfl ?_
          refine g_get fl5_36 d5_reckon_20 f_22_3 ?_
          refine g_topI ((0 : Int32)) (h3) ?_
          refine g_iz_ne (0) 201 (by decide) d5_reckon_23 rfl (fun c23 => absurd c23 (by decide)) (fun _ => ?_)
          refine g_aload_n d5_reckon_26 rfl ?_
          refine g_get fl5_59 d5_reckon_27 (hX.f5) ?_
          refine g_iload d5_reckon_30 rfl ?_
          refine g_ialdN (k) d5_reckon_32 hX.a5 (rfl) (by omega) (by omega) ?_
          refine g_topI (nI 43) (by rw [v1, hs]) ?_
          refine g_istore d5_reckon_33 (by decide) ?_
          refine g_aload_n d5_reckon_35 rfl ?_
          refine g_get fl5_62 d5_reckon_36 (hX.f6) ?_
          refine g_iload d5_reckon_39 rfl ?_
          refine g_ialdN (k) d5_reckon_41 hX.a6 (rfl) (by omega) (by omega) ?_
          refine g_topI (nI (wi k)) (v2) ?_
          refine g_istore d5_reckon_42 (by decide) ?_
          refine g_iload d5_reckon_44 rfl ?_
          refine g_iz_eq (43) 55 (by decide) d5_reckon_46 rfl (fun c46 => absurd c46 (by decide)) (fun _ => ?_)
          refine g_iload d5_reckon_49 rfl ?_
          refine g_iconstv (nI 1) d5_reckon_51 rfl ?_
          refine g_ic_ne (43) (1) 66 (by decide) (by decide) d5_reckon_52 rfl (fun _ => ?_) (fun c52 => absurd c52 (by decide))
          refine g_aload_n d5_reckon_66 rfl ?_
          refine g_get fl5_56 d5_reckon_67 f_22_2 ?_
          refine g_topI (nI ((r.length + 2))) (hn) ?_
          refine g_iz_ne (((r.length + 2) : Nat) : Int) 81 (nI_ti (by omega)) d5_reckon_70 rfl (fun _ => ?_) (fun c70 => absurd c70 (by omega))
          refine g_iload d5_reckon_81 rfl ?_
          refine g_iconstv (nI 2) d5_reckon_83 rfl ?_
          refine g_ic_ne (43) (2) 114 (by decide) (by decide) d5_reckon_84 rfl (fun _ => ?_) (fun c84 => absurd c84 (by decide))
          refine g_iload d5_reckon_114 rfl ?_
          refine g_iconstv (nI 3) d5_reckon_116 rfl ?_
          refine g_ic_eq (43) (3) 135 (by decide) (by decide) d5_reckon_117 rfl (fun c117 => absurd c117 (by decide)) (fun _ => ?_)
          refine g_iload d5_reckon_120 rfl ?_
          refine g_iconstv (nI 4) d5_reckon_122 rfl ?_
          refine g_ic_eq (43) (4) 135 (by decide) (by decide) d5_reckon_123 rfl (fun c123 => absurd c123 (by decide)) (fun _ => ?_)
          refine g_aload_n d5_reckon_126 rfl ?_
          refine g_iload d5_reckon_127 rfl ?_
          refine g_VV1 vm5_join ml5_69 c_22 (r5_22_j20 (I := I2) (L := L2) (r.length + 2) hn (by omega) h64b a b hRa hRb (Nat.le_refl 0)) (by omega) (Nat.le_of_ble_eq_true rfl) d5_reckon_129 ?_
          refine g_goto 195 d5_reckon_132 rfl ?_
          refine g_iincN d5_reckon_195 rfl (by decide) ?_
          refine g_goto 13 d5_reckon_198 rfl ?_
          refine g_lo [(0, .ref 22), (1, .ref T), (2, .int fr), (3, .int (nI last)), (4, .int (nI (k + 1)))] ⟨rfl, rfl, rfl, rfl, rfl, trivial⟩ ?_
          rw [if_neg hin]
          exact r5_22_bk _ _ (fun c hc => by rw [uI_n hc, uI_n hc]; exact i1 c hc) (fun j j1 j2 => by rw [uI_sn j2, uI_sn j1]; exact i2 j j1 j2) (fun c hc => by rw [uL_n hc]; exact l1 c hc) (r.length + 1) (by rw [uI_sn (by decide), uI_ss]; rfl) (by omega) uI_ss (k + 1) (by omega) (by omega) none rfl
      · -- 45
        have ho : cop st wi k = 21 := by unfold cop; rw [if_neg (by omega)]; rw [if_neg (by omega)]; rw [if_neg (by omega)]; rw [if_neg (by omega)]; rw [if_neg (by omega)]; rw [if_neg (by omega)]; rw [if_pos hs]
        rw [sC_bin (by omega) (by omega), ho] at he
        match s, he, hR, hn, h64 with
        | b :: a :: r, he, hR, hn, h64 =>
        have hn : I2 22 2 = nI (r.length + 2) := hn
        have h64b : r.length + 2 ≤ 64 := h64
        have hRb : L2 24 (r.length + 2 - 1) = b := hR.1
        have hRa : L2 24 (r.length + 2 - 1 - 1) = a := hR.2.1
        have hax := arX_r (o := 21) (a := a) (b := b) (fun z => absurd z.1 (by decide))
        by_cases hin : -1000000000 ≤ (ar0 21 a b).toInt ∧ (ar0 21 a b).toInt ≤ 1000000000
        · replace he : eC (cop st wi) (carg st wi) env last f (k + 1) (ar0 21 a b :: r) = some res := by dsimp only at he; rw [if_neg (fun z => hax.1 z hin)] at he; exact he
          refine g_iload d5_reckon_13 rfl ?_
          refine g_iload_n d5_reckon_15 rfl ?_
          refine g_ic_ge ((k : Nat) : Int) ((last : Nat) : Int) 201 (nI_ti (by omega)) (nI_ti (by omega)) d5_reckon_16 rfl (fun c16 => absurd c16 (by omega)) (fun _ => ?_)
          refine g_aload_n d5_reckon_19 rfl ?_
          refine g_get fl5_36 d5_reckon_20 f_22_3 ?_
          refine g_topI ((0 : Int32)) (h3) ?_
          refine g_iz_ne (0) 201 (by decide) d5_reckon_23 rfl (fun c23 => absurd c23 (by decide)) (fun _ => ?_)
          refine g_aload_n d5_reckon_26 rfl ?_
          refine g_get fl5_59 d5_reckon_27 (hX.f5) ?_
          refine g_iload d5_reckon_30 rfl ?_
          refine g_ialdN (k) d5_reckon_32 hX.a5 (rfl) (by omega) (by omega) ?_
          refine g_topI (nI 45) (by rw [v1, hs]) ?_
          refine g_istore d5_reckon_33 (by decide) ?_
          refine g_aload_n d5_reckon_35 rfl ?_
          refine g_get fl5_62 d5_reckon_36 (hX.f6) ?_
          refine g_iload d5_reckon_39 rfl ?_
          refine g_ialdN (k) d5_reckon_41 hX.a6 (rfl) (by omega) (by omega) ?_
          refine g_topI (nI (wi k)) (v2) ?_
          refine g_istore d5_reckon_42 (by decide) ?_
          refine g_iload d5_reckon_44 rfl ?_
          refine g_iz_eq (45) 55 (by decide) d5_reckon_46 rfl (fun c46 => absurd c46 (by decide)) (fun _ => ?_)
          refine g_iload d5_reckon_49 rfl ?_
          refine g_iconstv (nI 1) d5_reckon_51 rfl ?_
          refine g_ic_ne (45) (1) 66 (by decide) (by decide) d5_reckon_52 rfl (fun _ => ?_) (fun c52 => absurd c52 (by decide))
          refine g_aload_n d5_reckon_66 rfl ?_
          refine g_get fl5_56 d5_reckon_67 f_22_2 ?_
          refine g_topI (nI ((r.length + 2))) (hn) ?_
          refine g_iz_ne (((r.length + 2) : Nat) : Int) 81 (nI_ti (by omega)) d5_reckon_70 rfl (fun _ => ?_) (fun c70 => absurd c70 (by omega))
          refine g_iload d5_reckon_81 rfl ?_
          refine g_iconstv (nI 2) d5_reckon_83 rfl ?_
          refine g_ic_ne (45) (2) 114 (by decide) (by decide) d5_reckon_84 rfl (fun _ => ?_) (fun c84 => absurd c84 (by decide))
          refine g_iload d5_reckon_114 rfl ?_
          refine g_iconstv (nI 3) d5_reckon_116 rfl ?_
          refine g_ic_eq (45) (3) 135 (by decide) (by decide) d5_reckon_117 rfl (fun c117 => absurd c117 (by decide)) (fun _ => ?_)
          refine g_iload d5_reckon_120 rfl ?_
          refine g_iconstv (nI 4) d5_reckon_122 rfl ?_
          refine g_ic_eq (45) (4) 135 (by decide) (by decide) d5_reckon_123 rfl (fun c123 => absurd c123 (by decide)) (fun _ => ?_)
          refine g_aload_n d5_reckon_126 rfl ?_
          refine g_iload d5_reckon_127 rfl ?_
          refine g_VV1 vm5_join ml5_69 c_22 (r5_22_j21 (I := I2) (L := L2) (r.length + 2) hn (by omega) h64b a b hRa hRb (Nat.le_refl 0)) (by omega) (Nat.le_of_ble_eq_true rfl) d5_reckon_129 ?_
          refine g_goto 195 d5_reckon_132 rfl ?_
          refine g_iincN d5_reckon_195 rfl (by decide) ?_
          refine g_goto 13 d5_reckon_198 rfl ?_
          refine g_lo [(0, .ref 22), (1, .ref T), (2, .int fr), (3, .int (nI last)), (4, .int (nI (k + 1)))] ⟨rfl, rfl, rfl, rfl, rfl, trivial⟩ ?_
          rw [if_pos hin]
          exact ih (k + 1) (ar0 21 a b :: r) _ _ res ⟨by rw [show r.length + 2 - 1 - 1 = r.length from rfl, uL_ss], by rw [uL_s]; exact RR_up (Nat.le_refl _) hR.2.2⟩ (fun c hc => by rw [uI_n hc, uI_n hc]; exact i1 c hc) (fun j j1 j2 => by rw [uI_sn j2, uI_sn j1]; exact i2 j j1 j2) (fun c hc => by rw [uL_n hc]; exact l1 c hc) (by rw [uI_sn (by decide), uI_ss]; rfl) uI_ss (by show r.length + 1 ≤ 64; omega) (by omega) he
        · replace he : some none = some res := by dsimp only at he; rw [if_pos (hax.2 hin)] at he; exact he
          obtain rfl : none = res := by injection he
          refine g_iload d5_reckon_13 rfl ?_
          refine g_iload_n d5_reckon_15 rfl ?_
          refine g_ic_ge ((k : Nat) : Int) ((last : Nat) : Int) 201 (nI_ti (by omega)) (nI_ti (by omega)) d5_reckon_16 rfl (fun c16 => absurd c16 (by omega)) (fun _ => ?_)
          refine g_aload_n d5_reckon_19 rfl ?_
          refine g_get fl5_36 d5_reckon_20 f_22_3 ?_
          refine g_topI ((0 : Int32)) (h3) ?_
          refine g_iz_ne (0) 201 (by decide) d5_reckon_23 rfl (fun c23 => absurd c23 (by decide)) (fun _ => ?_)
          refine g_aload_n d5_reckon_26 rfl ?_
          refine g_get fl5_59 d5_reckon_27 (hX.f5) ?_
          refine g_iload d5_reckon_30 rfl ?_
          refine g_ialdN (k) d5_reckon_32 hX.a5 (rfl) (by omega) (by omega) ?_
          refine g_topI (nI 45) (by rw [v1, hs]) ?_
          refine g_istore d5_reckon_33 (by decide) ?_
          refine g_aload_n d5_reckon_35 rfl ?_
          refine g_get fl5_62 d5_reckon_36 (hX.f6) ?_
          refine g_iload d5_reckon_39 rfl ?_
          refine g_ialdN (k) d5_reckon_41 hX.a6 (rfl) (by omega) (by omega) ?_
          refine g_topI (nI (wi k)) (v2) ?_
          refine g_istore d5_reckon_42 (by decide) ?_
          refine g_iload d5_reckon_44 rfl ?_
          refine g_iz_eq (45) 55 (by decide) d5_reckon_46 rfl (fun c46 => absurd c46 (by decide)) (fun _ => ?_)
          refine g_iload d5_reckon_49 rfl ?_
          refine g_iconstv (nI 1) d5_reckon_51 rfl ?_
          refine g_ic_ne (45) (1) 66 (by decide) (by decide) d5_reckon_52 rfl (fun _ => ?_) (fun c52 => absurd c52 (by decide))
          refine g_aload_n d5_reckon_66 rfl ?_
          refine g_get fl5_56 d5_reckon_67 f_22_2 ?_
          refine g_topI (nI ((r.length + 2))) (hn) ?_
          refine g_iz_ne (((r.length + 2) : Nat) : Int) 81 (nI_ti (by omega)) d5_reckon_70 rfl (fun _ => ?_) (fun c70 => absurd c70 (by omega))
          refine g_iload d5_reckon_81 rfl ?_
          refine g_iconstv (nI 2) d5_reckon_83 rfl ?_
          refine g_ic_ne (45) (2) 114 (by decide) (by decide) d5_reckon_84 rfl (fun _ => ?_) (fun c84 => absurd c84 (by decide))
          refine g_iload d5_reckon_114 rfl ?_
          refine g_iconstv (nI 3) d5_reckon_116 rfl ?_
          refine g_ic_eq (45) (3) 135 (by decide) (by decide) d5_reckon_117 rfl (fun c117 => absurd c117 (by decide)) (fun _ => ?_)
          refine g_iload d5_reckon_120 rfl ?_
          refine g_iconstv (nI 4) d5_reckon_122 rfl ?_
          refine g_ic_eq (45) (4) 135 (by decide) (by decide) d5_reckon_123 rfl (fun c123 => absurd c123 (by decide)) (fun _ => ?_)
          refine g_aload_n d5_reckon_126 rfl ?_
          refine g_iload d5_reckon_127 rfl ?_
          refine g_VV1 vm5_join ml5_69 c_22 (r5_22_j21 (I := I2) (L := L2) (r.length + 2) hn (by omega) h64b a b hRa hRb (Nat.le_refl 0)) (by omega) (Nat.le_of_ble_eq_true rfl) d5_reckon_129 ?_
          refine g_goto 195 d5_reckon_132 rfl ?_
          refine g_iincN d5_reckon_195 rfl (by decide) ?_
          refine g_goto 13 d5_reckon_198 rfl ?_
          refine g_lo [(0, .ref 22), (1, .ref T), (2, .int fr), (3, .int (nI last)), (4, .int (nI (k + 1)))] ⟨rfl, rfl, rfl, rfl, rfl, trivial⟩ ?_
          rw [if_neg hin]
          exact r5_22_bk _ _ (fun c hc => by rw [uI_n hc, uI_n hc]; exact i1 c hc) (fun j j1 j2 => by rw [uI_sn j2, uI_sn j1]; exact i2 j j1 j2) (fun c hc => by rw [uL_n hc]; exact l1 c hc) (r.length + 1) (by rw [uI_sn (by decide), uI_ss]; rfl) (by omega) uI_ss (k + 1) (by omega) (by omega) none rfl
      · -- 42
        have ho : cop st wi k = 22 := by unfold cop; rw [if_neg (by omega)]; rw [if_neg (by omega)]; rw [if_neg (by omega)]; rw [if_neg (by omega)]; rw [if_neg (by omega)]; rw [if_neg (by omega)]; rw [if_neg (by omega)]; rw [if_pos hs]
        rw [sC_bin (by omega) (by omega), ho] at he
        match s, he, hR, hn, h64 with
        | b :: a :: r, he, hR, hn, h64 =>
        have hn : I2 22 2 = nI (r.length + 2) := hn
        have h64b : r.length + 2 ≤ 64 := h64
        have hRb : L2 24 (r.length + 2 - 1) = b := hR.1
        have hRa : L2 24 (r.length + 2 - 1 - 1) = a := hR.2.1
        have hax := arX_r (o := 22) (a := a) (b := b) (fun z => absurd z.1 (by decide))
        by_cases hin : -1000000000 ≤ (ar0 22 a b).toInt ∧ (ar0 22 a b).toInt ≤ 1000000000
        · replace he : eC (cop st wi) (carg st wi) env last f (k + 1) (ar0 22 a b :: r) = some res := by dsimp only at he; rw [if_neg (fun z => hax.1 z hin)] at he; exact he
          refine g_iload d5_reckon_13 rfl ?_
          refine g_iload_n d5_reckon_15 rfl ?_
          refine g_ic_ge ((k : Nat) : Int) ((last : Nat) : Int) 201 (nI_ti (by omega)) (nI_ti (by omega)) d5_reckon_16 rfl (fun c16 => absurd c16 (by omega)) (fun _ => ?_)
          refine g_aload_n d5_reckon_19 rfl ?_
          refine g_get fl5_36 d5_reckon_20 f_22_3 ?_
          refine g_topI ((0 : Int32)) (h3) ?_
          refine g_iz_ne (0) 201 (by decide) d5_reckon_23 rfl (fun c23 => absurd c23 (by decide)) (fun _ => ?_)
          refine g_aload_n d5_reckon_26 rfl ?_
          refine g_get fl5_59 d5_reckon_27 (hX.f5) ?_
          refine g_iload d5_reckon_30 rfl ?_
          refine g_ialdN (k) d5_reckon_32 hX.a5 (rfl) (by omega) (by omega) ?_
          refine g_topI (nI 42) (by rw [v1, hs]) ?_
          refine g_istore d5_reckon_33 (by decide) ?_
          refine g_aload_n d5_reckon_35 rfl ?_
          refine g_get fl5_62 d5_reckon_36 (hX.f6) ?_
          refine g_iload d5_reckon_39 rfl ?_
          refine g_ialdN (k) d5_reckon_41 hX.a6 (rfl) (by omega) (by omega) ?_
          refine g_topI (nI (wi k)) (v2) ?_
          refine g_istore d5_reckon_42 (by decide) ?_
          refine g_iload d5_reckon_44 rfl ?_
          refine g_iz_eq (42) 55 (by decide) d5_reckon_46 rfl (fun c46 => absurd c46 (by decide)) (fun _ => ?_)
          refine g_iload d5_reckon_49 rfl ?_
          refine g_iconstv (nI 1) d5_reckon_51 rfl ?_
          refine g_ic_ne (42) (1) 66 (by decide) (by decide) d5_reckon_52 rfl (fun _ => ?_) (fun c52 => absurd c52 (by decide))
          refine g_aload_n d5_reckon_66 rfl ?_
          refine g_get fl5_56 d5_reckon_67 f_22_2 ?_
          refine g_topI (nI ((r.length + 2))) (hn) ?_
          refine g_iz_ne (((r.length + 2) : Nat) : Int) 81 (nI_ti (by omega)) d5_reckon_70 rfl (fun _ => ?_) (fun c70 => absurd c70 (by omega))
          refine g_iload d5_reckon_81 rfl ?_
          refine g_iconstv (nI 2) d5_reckon_83 rfl ?_
          refine g_ic_ne (42) (2) 114 (by decide) (by decide) d5_reckon_84 rfl (fun _ => ?_) (fun c84 => absurd c84 (by decide))
          refine g_iload d5_reckon_114 rfl ?_
          refine g_iconstv (nI 3) d5_reckon_116 rfl ?_
          refine g_ic_eq (42) (3) 135 (by decide) (by decide) d5_reckon_117 rfl (fun c117 => absurd c117 (by decide)) (fun _ => ?_)
          refine g_iload d5_reckon_120 rfl ?_
          refine g_iconstv (nI 4) d5_reckon_122 rfl ?_
          refine g_ic_eq (42) (4) 135 (by decide) (by decide) d5_reckon_123 rfl (fun c123 => absurd c123 (by decide)) (fun _ => ?_)
          refine g_aload_n d5_reckon_126 rfl ?_
          refine g_iload d5_reckon_127 rfl ?_
          refine g_VV1 vm5_join ml5_69 c_22 (r5_22_j22 (I := I2) (L := L2) (r.length + 2) hn (by omega) h64b a b hRa hRb (Nat.le_refl 0)) (by omega) (Nat.le_of_ble_eq_true rfl) d5_reckon_129 ?_
          refine g_goto 195 d5_reckon_132 rfl ?_
          refine g_iincN d5_reckon_195 rfl (by decide) ?_
          refine g_goto 13 d5_reckon_198 rfl ?_
          refine g_lo [(0, .ref 22), (1, .ref T), (2, .int fr), (3, .int (nI last)), (4, .int (nI (k + 1)))] ⟨rfl, rfl, rfl, rfl, rfl, trivial⟩ ?_
          rw [if_pos hin]
          exact ih (k + 1) (ar0 22 a b :: r) _ _ res ⟨by rw [show r.length + 2 - 1 - 1 = r.length from rfl, uL_ss], by rw [uL_s]; exact RR_up (Nat.le_refl _) hR.2.2⟩ (fun c hc => by rw [uI_n hc, uI_n hc]; exact i1 c hc) (fun j j1 j2 => by rw [uI_sn j2, uI_sn j1]; exact i2 j j1 j2) (fun c hc => by rw [uL_n hc]; exact l1 c hc) (by rw [uI_sn (by decide), uI_ss]; rfl) uI_ss (by show r.length + 1 ≤ 64; omega) (by omega) he
        · replace he : some none = some res := by dsimp only at he; rw [if_pos (hax.2 hin)] at he; exact he
          obtain rfl : none = res := by injection he
          refine g_iload d5_reckon_13 rfl ?_
          refine g_iload_n d5_reckon_15 rfl ?_
          refine g_ic_ge ((k : Nat) : Int) ((last : Nat) : Int) 201 (nI_ti (by omega)) (nI_ti (by omega)) d5_reckon_16 rfl (fun c16 => absurd c16 (by omega)) (fun _ => ?_)
          refine g_aload_n d5_reckon_19 rfl ?_
          refine g_get fl5_36 d5_reckon_20 f_22_3 ?_
          refine g_topI ((0 : Int32)) (h3) ?_
          refine g_iz_ne (0) 201 (by decide) d5_reckon_23 rfl (fun c23 => absurd c23 (by decide)) (fun _ => ?_)
          refine g_aload_n d5_reckon_26 rfl ?_
          refine g_get fl5_59 d5_reckon_27 (hX.f5) ?_
          refine g_iload d5_reckon_30 rfl ?_
          refine g_ialdN (k) d5_reckon_32 hX.a5 (rfl) (by omega) (by omega) ?_
          refine g_topI (nI 42) (by rw [v1, hs]) ?_
          refine g_istore d5_reckon_33 (by decide) ?_
          refine g_aload_n d5_reckon_35 rfl ?_
          refine g_get fl5_62 d5_reckon_36 (hX.f6) ?_
          refine g_iload d5_reckon_39 rfl ?_
          refine g_ialdN (k) d5_reckon_41 hX.a6 (rfl) (by omega) (by omega) ?_
          refine g_topI (nI (wi k)) (v2) ?_
          refine g_istore d5_reckon_42 (by decide) ?_
          refine g_iload d5_reckon_44 rfl ?_
          refine g_iz_eq (42) 55 (by decide) d5_reckon_46 rfl (fun c46 => absurd c46 (by decide)) (fun _ => ?_)
          refine g_iload d5_reckon_49 rfl ?_
          refine g_iconstv (nI 1) d5_reckon_51 rfl ?_
          refine g_ic_ne (42) (1) 66 (by decide) (by decide) d5_reckon_52 rfl (fun _ => ?_) (fun c52 => absurd c52 (by decide))
          refine g_aload_n d5_reckon_66 rfl ?_
          refine g_get fl5_56 d5_reckon_67 f_22_2 ?_
          refine g_topI (nI ((r.length + 2))) (hn) ?_
          refine g_iz_ne (((r.length + 2) : Nat) : Int) 81 (nI_ti (by omega)) d5_reckon_70 rfl (fun _ => ?_) (fun c70 => absurd c70 (by omega))
          refine g_iload d5_reckon_81 rfl ?_
          refine g_iconstv (nI 2) d5_reckon_83 rfl ?_
          refine g_ic_ne (42) (2) 114 (by decide) (by decide) d5_reckon_84 rfl (fun _ => ?_) (fun c84 => absurd c84 (by decide))
          refine g_iload d5_reckon_114 rfl ?_
          refine g_iconstv (nI 3) d5_reckon_116 rfl ?_
          refine g_ic_eq (42) (3) 135 (by decide) (by decide) d5_reckon_117 rfl (fun c117 => absurd c117 (by decide)) (fun _ => ?_)
          refine g_iload d5_reckon_120 rfl ?_
          refine g_iconstv (nI 4) d5_reckon_122 rfl ?_
          refine g_ic_eq (42) (4) 135 (by decide) (by decide) d5_reckon_123 rfl (fun c123 => absurd c123 (by decide)) (fun _ => ?_)
          refine g_aload_n d5_reckon_126 rfl ?_
          refine g_iload d5_reckon_127 rfl ?_
          refine g_VV1 vm5_join ml5_69 c_22 (r5_22_j22 (I := I2) (L := L2) (r.length + 2) hn (by omega) h64b a b hRa hRb (Nat.le_refl 0)) (by omega) (Nat.le_of_ble_eq_true rfl) d5_reckon_129 ?_
          refine g_goto 195 d5_reckon_132 rfl ?_
          refine g_iincN d5_reckon_195 rfl (by decide) ?_
          refine g_goto 13 d5_reckon_198 rfl ?_
          refine g_lo [(0, .ref 22), (1, .ref T), (2, .int fr), (3, .int (nI last)), (4, .int (nI (k + 1)))] ⟨rfl, rfl, rfl, rfl, rfl, trivial⟩ ?_
          rw [if_neg hin]
          exact r5_22_bk _ _ (fun c hc => by rw [uI_n hc, uI_n hc]; exact i1 c hc) (fun j j1 j2 => by rw [uI_sn j2, uI_sn j1]; exact i2 j j1 j2) (fun c hc => by rw [uL_n hc]; exact l1 c hc) (r.length + 1) (by rw [uI_sn (by decide), uI_ss]; rfl) (by omega) uI_ss (k + 1) (by omega) (by omega) none rfl
      · -- 47
        have ho : cop st wi k = 23 := by unfold cop; rw [if_neg (by omega)]; rw [if_neg (by omega)]; rw [if_neg (by omega)]; rw [if_neg (by omega)]; rw [if_neg (by omega)]; rw [if_neg (by omega)]; rw [if_neg (by omega)]; rw [if_neg (by omega)]; rw [if_pos hs]
        rw [sC_bin (by omega) (by omega), ho] at he
        match s, he, hR, hn, h64 with
        | b :: a :: r, he, hR, hn, h64 =>
        have hn : I2 22 2 = nI (r.length + 2) := hn
        have h64b : r.length + 2 ≤ 64 := h64
        have hRb : L2 24 (r.length + 2 - 1) = b := hR.1
        have hRa : L2 24 (r.length + 2 - 1 - 1) = a := hR.2.1
        by_cases hb0 : b = 0
        · replace he : some none = some res := by dsimp only at he; rw [if_pos (Or.inl ⟨by decide, hb0⟩)] at he; exact he
          obtain rfl : none = res := by injection he
          refine g_iload d5_reckon_13 rfl ?_
          refine g_iload_n d5_reckon_15 rfl ?_
          refine g_ic_ge ((k : Nat) : Int) ((last : Nat) : Int) 201 (nI_ti (by omega)) (nI_ti (by omega)) d5_reckon_16 rfl (fun c16 => absurd c16 (by omega)) (fun _ => ?_)
          refine g_aload_n d5_reckon_19 rfl ?_
          refine g_get fl5_36 d5_reckon_20 f_22_3 ?_
          refine g_topI ((0 : Int32)) (h3) ?_
          refine g_iz_ne (0) 201 (by decide) d5_reckon_23 rfl (fun c23 => absurd c23 (by decide)) (fun _ => ?_)
          refine g_aload_n d5_reckon_26 rfl ?_
          refine g_get fl5_59 d5_reckon_27 (hX.f5) ?_
          refine g_iload d5_reckon_30 rfl ?_
          refine g_ialdN (k) d5_reckon_32 hX.a5 (rfl) (by omega) (by omega) ?_
          refine g_topI (nI 47) (by rw [v1, hs]) ?_
          refine g_istore d5_reckon_33 (by decide) ?_
          refine g_aload_n d5_reckon_35 rfl ?_
          refine g_get fl5_62 d5_reckon_36 (hX.f6) ?_
          refine g_iload d5_reckon_39 rfl ?_
          refine g_ialdN (k) d5_reckon_41 hX.a6 (rfl) (by omega) (by omega) ?_
          refine g_topI (nI (wi k)) (v2) ?_
          refine g_istore d5_reckon_42 (by decide) ?_
          refine g_iload d5_reckon_44 rfl ?_
          refine g_iz_eq (47) 55 (by decide) d5_reckon_46 rfl (fun c46 => absurd c46 (by decide)) (fun _ => ?_)
          refine g_iload d5_reckon_49 rfl ?_
          refine g_iconstv (nI 1) d5_reckon_51 rfl ?_
          refine g_ic_ne (47) (1) 66 (by decide) (by decide) d5_reckon_52 rfl (fun _ => ?_) (fun c52 => absurd c52 (by decide))
          refine g_aload_n d5_reckon_66 rfl ?_
          refine g_get fl5_56 d5_reckon_67 f_22_2 ?_
          refine g_topI (nI ((r.length + 2))) (hn) ?_
          refine g_iz_ne (((r.length + 2) : Nat) : Int) 81 (nI_ti (by omega)) d5_reckon_70 rfl (fun _ => ?_) (fun c70 => absurd c70 (by omega))
          refine g_iload d5_reckon_81 rfl ?_
          refine g_iconstv (nI 2) d5_reckon_83 rfl ?_
          refine g_ic_ne (47) (2) 114 (by decide) (by decide) d5_reckon_84 rfl (fun _ => ?_) (fun c84 => absurd c84 (by decide))
          refine g_iload d5_reckon_114 rfl ?_
          refine g_iconstv (nI 3) d5_reckon_116 rfl ?_
          refine g_ic_eq (47) (3) 135 (by decide) (by decide) d5_reckon_117 rfl (fun c117 => absurd c117 (by decide)) (fun _ => ?_)
          refine g_iload d5_reckon_120 rfl ?_
          refine g_iconstv (nI 4) d5_reckon_122 rfl ?_
          refine g_ic_eq (47) (4) 135 (by decide) (by decide) d5_reckon_123 rfl (fun c123 => absurd c123 (by decide)) (fun _ => ?_)
          refine g_aload_n d5_reckon_126 rfl ?_
          refine g_iload d5_reckon_127 rfl ?_
          refine g_VV1 vm5_join ml5_69 c_22 (r5_22_jz23 (I := I2) (L := L2) (r.length + 2) hn (by omega) h64b a b hRa hRb hb0 (Nat.le_refl 0)) (by omega) (Nat.le_of_ble_eq_true rfl) d5_reckon_129 ?_
          refine g_goto 195 d5_reckon_132 rfl ?_
          refine g_iincN d5_reckon_195 rfl (by decide) ?_
          refine g_goto 13 d5_reckon_198 rfl ?_
          refine g_lo [(0, .ref 22), (1, .ref T), (2, .int fr), (3, .int (nI last)), (4, .int (nI (k + 1)))] ⟨rfl, rfl, rfl, rfl, rfl, trivial⟩ ?_
          exact r5_22_bk _ L2 (fun c hc => by rw [uI_n hc, uI_n hc]; exact i1 c hc) (fun j j1 j2 => by rw [uI_sn j2, uI_sn j1]; exact i2 j j1 j2) l1 (r.length + 1) (by rw [uI_sn (by decide), uI_ss]; rfl) (by omega) uI_ss (k + 1) (by omega) (by omega) none rfl
        have hax := arX_r (o := 23) (a := a) (b := b) (fun z => hb0 z.2)
        by_cases hin : -1000000000 ≤ (ar0 23 a b).toInt ∧ (ar0 23 a b).toInt ≤ 1000000000
        · replace he : eC (cop st wi) (carg st wi) env last f (k + 1) (ar0 23 a b :: r) = some res := by dsimp only at he; rw [if_neg (fun z => hax.1 z hin)] at he; exact he
          refine g_iload d5_reckon_13 rfl ?_
          refine g_iload_n d5_reckon_15 rfl ?_
          refine g_ic_ge ((k : Nat) : Int) ((last : Nat) : Int) 201 (nI_ti (by omega)) (nI_ti (by omega)) d5_reckon_16 rfl (fun c16 => absurd c16 (by omega)) (fun _ => ?_)
          refine g_aload_n d5_reckon_19 rfl ?_
          refine g_get fl5_36 d5_reckon_20 f_22_3 ?_
          refine g_topI ((0 : Int32)) (h3) ?_
          refine g_iz_ne (0) 201 (by decide) d5_reckon_23 rfl (fun c23 => absurd c23 (by decide)) (fun _ => ?_)
          refine g_aload_n d5_reckon_26 rfl ?_
          refine g_get fl5_59 d5_reckon_27 (hX.f5) ?_
          refine g_iload d5_reckon_30 rfl ?_
          refine g_ialdN (k) d5_reckon_32 hX.a5 (rfl) (by omega) (by omega) ?_
          refine g_topI (nI 47) (by rw [v1, hs]) ?_
          refine g_istore d5_reckon_33 (by decide) ?_
          refine g_aload_n d5_reckon_35 rfl ?_
          refine g_get fl5_62 d5_reckon_36 (hX.f6) ?_
          refine g_iload d5_reckon_39 rfl ?_
          refine g_ialdN (k) d5_reckon_41 hX.a6 (rfl) (by omega) (by omega) ?_
          refine g_topI (nI (wi k)) (v2) ?_
          refine g_istore d5_reckon_42 (by decide) ?_
          refine g_iload d5_reckon_44 rfl ?_
          refine g_iz_eq (47) 55 (by decide) d5_reckon_46 rfl (fun c46 => absurd c46 (by decide)) (fun _ => ?_)
          refine g_iload d5_reckon_49 rfl ?_
          refine g_iconstv (nI 1) d5_reckon_51 rfl ?_
          refine g_ic_ne (47) (1) 66 (by decide) (by decide) d5_reckon_52 rfl (fun _ => ?_) (fun c52 => absurd c52 (by decide))
          refine g_aload_n d5_reckon_66 rfl ?_
          refine g_get fl5_56 d5_reckon_67 f_22_2 ?_
          refine g_topI (nI ((r.length + 2))) (hn) ?_
          refine g_iz_ne (((r.length + 2) : Nat) : Int) 81 (nI_ti (by omega)) d5_reckon_70 rfl (fun _ => ?_) (fun c70 => absurd c70 (by omega))
          refine g_iload d5_reckon_81 rfl ?_
          refine g_iconstv (nI 2) d5_reckon_83 rfl ?_
          refine g_ic_ne (47) (2) 114 (by decide) (by decide) d5_reckon_84 rfl (fun _ => ?_) (fun c84 => absurd c84 (by decide))
          refine g_iload d5_reckon_114 rfl ?_
          refine g_iconstv (nI 3) d5_reckon_116 rfl ?_
          refine g_ic_eq (47) (3) 135 (by decide) (by decide) d5_reckon_117 rfl (fun c117 => absurd c117 (by decide)) (fun _ => ?_)
          refine g_iload d5_reckon_120 rfl ?_
          refine g_iconstv (nI 4) d5_reckon_122 rfl ?_
          refine g_ic_eq (47) (4) 135 (by decide) (by decide) d5_reckon_123 rfl (fun c123 => absurd c123 (by decide)) (fun _ => ?_)
          refine g_aload_n d5_reckon_126 rfl ?_
          refine g_iload d5_reckon_127 rfl ?_
          refine g_VV1 vm5_join ml5_69 c_22 (r5_22_j23 (I := I2) (L := L2) (r.length + 2) hn (by omega) h64b a b hRa hRb hb0 (Nat.le_refl 0)) (by omega) (Nat.le_of_ble_eq_true rfl) d5_reckon_129 ?_
          refine g_goto 195 d5_reckon_132 rfl ?_
          refine g_iincN d5_reckon_195 rfl (by decide) ?_
          refine g_goto 13 d5_reckon_198 rfl ?_
          refine g_lo [(0, .ref 22), (1, .ref T), (2, .int fr), (3, .int (nI last)), (4, .int (nI (k + 1)))] ⟨rfl, rfl, rfl, rfl, rfl, trivial⟩ ?_
          rw [if_pos hin]
          exact ih (k + 1) (ar0 23 a b :: r) _ _ res ⟨by rw [show r.length + 2 - 1 - 1 = r.length from rfl, uL_ss], by rw [uL_s]; exact RR_up (Nat.le_refl _) hR.2.2⟩ (fun c hc => by rw [uI_n hc, uI_n hc]; exact i1 c hc) (fun j j1 j2 => by rw [uI_sn j2, uI_sn j1]; exact i2 j j1 j2) (fun c hc => by rw [uL_n hc]; exact l1 c hc) (by rw [uI_sn (by decide), uI_ss]; rfl) uI_ss (by show r.length + 1 ≤ 64; omega) (by omega) he
        · replace he : some none = some res := by dsimp only at he; rw [if_pos (hax.2 hin)] at he; exact he
          obtain rfl : none = res := by injection he
          refine g_iload d5_reckon_13 rfl ?_
          refine g_iload_n d5_reckon_15 rfl ?_
          refine g_ic_ge ((k : Nat) : Int) ((last : Nat) : Int) 201 (nI_ti (by omega)) (nI_ti (by omega)) d5_reckon_16 rfl (fun c16 => absurd c16 (by omega)) (fun _ => ?_)
          refine g_aload_n d5_reckon_19 rfl ?_
          refine g_get fl5_36 d5_reckon_20 f_22_3 ?_
          refine g_topI ((0 : Int32)) (h3) ?_
          refine g_iz_ne (0) 201 (by decide) d5_reckon_23 rfl (fun c23 => absurd c23 (by decide)) (fun _ => ?_)
          refine g_aload_n d5_reckon_26 rfl ?_
          refine g_get fl5_59 d5_reckon_27 (hX.f5) ?_
          refine g_iload d5_reckon_30 rfl ?_
          refine g_ialdN (k) d5_reckon_32 hX.a5 (rfl) (by omega) (by omega) ?_
          refine g_topI (nI 47) (by rw [v1, hs]) ?_
          refine g_istore d5_reckon_33 (by decide) ?_
          refine g_aload_n d5_reckon_35 rfl ?_
          refine g_get fl5_62 d5_reckon_36 (hX.f6) ?_
          refine g_iload d5_reckon_39 rfl ?_
          refine g_ialdN (k) d5_reckon_41 hX.a6 (rfl) (by omega) (by omega) ?_
          refine g_topI (nI (wi k)) (v2) ?_
          refine g_istore d5_reckon_42 (by decide) ?_
          refine g_iload d5_reckon_44 rfl ?_
          refine g_iz_eq (47) 55 (by decide) d5_reckon_46 rfl (fun c46 => absurd c46 (by decide)) (fun _ => ?_)
          refine g_iload d5_reckon_49 rfl ?_
          refine g_iconstv (nI 1) d5_reckon_51 rfl ?_
          refine g_ic_ne (47) (1) 66 (by decide) (by decide) d5_reckon_52 rfl (fun _ => ?_) (fun c52 => absurd c52 (by decide))
          refine g_aload_n d5_reckon_66 rfl ?_
          refine g_get fl5_56 d5_reckon_67 f_22_2 ?_
          refine g_topI (nI ((r.length + 2))) (hn) ?_
          refine g_iz_ne (((r.length + 2) : Nat) : Int) 81 (nI_ti (by omega)) d5_reckon_70 rfl (fun _ => ?_) (fun c70 => absurd c70 (by omega))
          refine g_iload d5_reckon_81 rfl ?_
          refine g_iconstv (nI 2) d5_reckon_83 rfl ?_
          refine g_ic_ne (47) (2) 114 (by decide) (by decide) d5_reckon_84 rfl (fun _ => ?_) (fun c84 => absurd c84 (by decide))
          refine g_iload d5_reckon_114 rfl ?_
          refine g_iconstv (nI 3) d5_reckon_116 rfl ?_
          refine g_ic_eq (47) (3) 135 (by decide) (by decide) d5_reckon_117 rfl (fun c117 => absurd c117 (by decide)) (fun _ => ?_)
          refine g_iload d5_reckon_120 rfl ?_
          refine g_iconstv (nI 4) d5_reckon_122 rfl ?_
          refine g_ic_eq (47) (4) 135 (by decide) (by decide) d5_reckon_123 rfl (fun c123 => absurd c123 (by decide)) (fun _ => ?_)
          refine g_aload_n d5_reckon_126 rfl ?_
          refine g_iload d5_reckon_127 rfl ?_
          refine g_VV1 vm5_join ml5_69 c_22 (r5_22_j23 (I := I2) (L := L2) (r.length + 2) hn (by omega) h64b a b hRa hRb hb0 (Nat.le_refl 0)) (by omega) (Nat.le_of_ble_eq_true rfl) d5_reckon_129 ?_
          refine g_goto 195 d5_reckon_132 rfl ?_
          refine g_iincN d5_reckon_195 rfl (by decide) ?_
          refine g_goto 13 d5_reckon_198 rfl ?_
          refine g_lo [(0, .ref 22), (1, .ref T), (2, .int fr), (3, .int (nI last)), (4, .int (nI (k + 1)))] ⟨rfl, rfl, rfl, rfl, rfl, trivial⟩ ?_
          rw [if_neg hin]
          exact r5_22_bk _ _ (fun c hc => by rw [uI_n hc, uI_n hc]; exact i1 c hc) (fun j j1 j2 => by rw [uI_sn j2, uI_sn j1]; exact i2 j j1 j2) (fun c hc => by rw [uL_n hc]; exact l1 c hc) (r.length + 1) (by rw [uI_sn (by decide), uI_ss]; rfl) (by omega) uI_ss (k + 1) (by omega) (by omega) none rfl
      · -- 37
        have ho : cop st wi k = 24 := by unfold cop; rw [if_neg (by omega)]; rw [if_neg (by omega)]; rw [if_neg (by omega)]; rw [if_neg (by omega)]; rw [if_neg (by omega)]; rw [if_neg (by omega)]; rw [if_neg (by omega)]; rw [if_neg (by omega)]; rw [if_neg (by omega)]; rw [if_pos hs]
        rw [sC_bin (by omega) (by omega), ho] at he
        match s, he, hR, hn, h64 with
        | b :: a :: r, he, hR, hn, h64 =>
        have hn : I2 22 2 = nI (r.length + 2) := hn
        have h64b : r.length + 2 ≤ 64 := h64
        have hRb : L2 24 (r.length + 2 - 1) = b := hR.1
        have hRa : L2 24 (r.length + 2 - 1 - 1) = a := hR.2.1
        by_cases hb0 : b = 0
        · replace he : some none = some res := by dsimp only at he; rw [if_pos (Or.inl ⟨by decide, hb0⟩)] at he; exact he
          obtain rfl : none = res := by injection he
          refine g_iload d5_reckon_13 rfl ?_
          refine g_iload_n d5_reckon_15 rfl ?_
          refine g_ic_ge ((k : Nat) : Int) ((last : Nat) : Int) 201 (nI_ti (by omega)) (nI_ti (by omega)) d5_reckon_16 rfl (fun c16 => absurd c16 (by omega)) (fun _ => ?_)
          refine g_aload_n d5_reckon_19 rfl ?_
          refine g_get fl5_36 d5_reckon_20 f_22_3 ?_
          refine g_topI ((0 : Int32)) (h3) ?_
          refine g_iz_ne (0) 201 (by decide) d5_reckon_23 rfl (fun c23 => absurd c23 (by decide)) (fun _ => ?_)
          refine g_aload_n d5_reckon_26 rfl ?_
          refine g_get fl5_59 d5_reckon_27 (hX.f5) ?_
          refine g_iload d5_reckon_30 rfl ?_
          refine g_ialdN (k) d5_reckon_32 hX.a5 (rfl) (by omega) (by omega) ?_
          refine g_topI (nI 37) (by rw [v1, hs]) ?_
          refine g_istore d5_reckon_33 (by decide) ?_
          refine g_aload_n d5_reckon_35 rfl ?_
          refine g_get fl5_62 d5_reckon_36 (hX.f6) ?_
          refine g_iload d5_reckon_39 rfl ?_
          refine g_ialdN (k) d5_reckon_41 hX.a6 (rfl) (by omega) (by omega) ?_
          refine g_topI (nI (wi k)) (v2) ?_
          refine g_istore d5_reckon_42 (by decide) ?_
          refine g_iload d5_reckon_44 rfl ?_
          refine g_iz_eq (37) 55 (by decide) d5_reckon_46 rfl (fun c46 => absurd c46 (by decide)) (fun _ => ?_)
          refine g_iload d5_reckon_49 rfl ?_
          refine g_iconstv (nI 1) d5_reckon_51 rfl ?_
          refine g_ic_ne (37) (1) 66 (by decide) (by decide) d5_reckon_52 rfl (fun _ => ?_) (fun c52 => absurd c52 (by decide))
          refine g_aload_n d5_reckon_66 rfl ?_
          refine g_get fl5_56 d5_reckon_67 f_22_2 ?_
          refine g_topI (nI ((r.length + 2))) (hn) ?_
          refine g_iz_ne (((r.length + 2) : Nat) : Int) 81 (nI_ti (by omega)) d5_reckon_70 rfl (fun _ => ?_) (fun c70 => absurd c70 (by omega))
          refine g_iload d5_reckon_81 rfl ?_
          refine g_iconstv (nI 2) d5_reckon_83 rfl ?_
          refine g_ic_ne (37) (2) 114 (by decide) (by decide) d5_reckon_84 rfl (fun _ => ?_) (fun c84 => absurd c84 (by decide))
          refine g_iload d5_reckon_114 rfl ?_
          refine g_iconstv (nI 3) d5_reckon_116 rfl ?_
          refine g_ic_eq (37) (3) 135 (by decide) (by decide) d5_reckon_117 rfl (fun c117 => absurd c117 (by decide)) (fun _ => ?_)
          refine g_iload d5_reckon_120 rfl ?_
          refine g_iconstv (nI 4) d5_reckon_122 rfl ?_
          refine g_ic_eq (37) (4) 135 (by decide) (by decide) d5_reckon_123 rfl (fun c123 => absurd c123 (by decide)) (fun _ => ?_)
          refine g_aload_n d5_reckon_126 rfl ?_
          refine g_iload d5_reckon_127 rfl ?_
          refine g_VV1 vm5_join ml5_69 c_22 (r5_22_jz24 (I := I2) (L := L2) (r.length + 2) hn (by omega) h64b a b hRa hRb hb0 (Nat.le_refl 0)) (by omega) (Nat.le_of_ble_eq_true rfl) d5_reckon_129 ?_
          refine g_goto 195 d5_reckon_132 rfl ?_
          refine g_iincN d5_reckon_195 rfl (by decide) ?_
          refine g_goto 13 d5_reckon_198 rfl ?_
          refine g_lo [(0, .ref 22), (1, .ref T), (2, .int fr), (3, .int (nI last)), (4, .int (nI (k + 1)))] ⟨rfl, rfl, rfl, rfl, rfl, trivial⟩ ?_
          exact r5_22_bk _ L2 (fun c hc => by rw [uI_n hc, uI_n hc]; exact i1 c hc) (fun j j1 j2 => by rw [uI_sn j2, uI_sn j1]; exact i2 j j1 j2) l1 (r.length + 1) (by rw [uI_sn (by decide), uI_ss]; rfl) (by omega) uI_ss (k + 1) (by omega) (by omega) none rfl
        have hax := arX_r (o := 24) (a := a) (b := b) (fun z => hb0 z.2)
        by_cases hin : -1000000000 ≤ (ar0 24 a b).toInt ∧ (ar0 24 a b).toInt ≤ 1000000000
        · replace he : eC (cop st wi) (carg st wi) env last f (k + 1) (ar0 24 a b :: r) = some res := by dsimp only at he; rw [if_neg (fun z => hax.1 z hin)] at he; exact he
          refine g_iload d5_reckon_13 rfl ?_
          refine g_iload_n d5_reckon_15 rfl ?_
          refine g_ic_ge ((k : Nat) : Int) ((last : Nat) : Int) 201 (nI_ti (by omega)) (nI_ti (by omega)) d5_reckon_16 rfl (fun c16 => absurd c16 (by omega)) (fun _ => ?_)
          refine g_aload_n d5_reckon_19 rfl ?_
          refine g_get fl5_36 d5_reckon_20 f_22_3 ?_
          refine g_topI ((0 : Int32)) (h3) ?_
          refine g_iz_ne (0) 201 (by decide) d5_reckon_23 rfl (fun c23 => absurd c23 (by decide)) (fun _ => ?_)
          refine g_aload_n d5_reckon_26 rfl ?_
          refine g_get fl5_59 d5_reckon_27 (hX.f5) ?_
          refine g_iload d5_reckon_30 rfl ?_
          refine g_ialdN (k) d5_reckon_32 hX.a5 (rfl) (by omega) (by omega) ?_
          refine g_topI (nI 37) (by rw [v1, hs]) ?_
          refine g_istore d5_reckon_33 (by decide) ?_
          refine g_aload_n d5_reckon_35 rfl ?_
          refine g_get fl5_62 d5_reckon_36 (hX.f6) ?_
          refine g_iload d5_reckon_39 rfl ?_
          refine g_ialdN (k) d5_reckon_41 hX.a6 (rfl) (by omega) (by omega) ?_
          refine g_topI (nI (wi k)) (v2) ?_
          refine g_istore d5_reckon_42 (by decide) ?_
          refine g_iload d5_reckon_44 rfl ?_
          refine g_iz_eq (37) 55 (by decide) d5_reckon_46 rfl (fun c46 => absurd c46 (by decide)) (fun _ => ?_)
          refine g_iload d5_reckon_49 rfl ?_
          refine g_iconstv (nI 1) d5_reckon_51 rfl ?_
          refine g_ic_ne (37) (1) 66 (by decide) (by decide) d5_reckon_52 rfl (fun _ => ?_) (fun c52 => absurd c52 (by decide))
          refine g_aload_n d5_reckon_66 rfl ?_
          refine g_get fl5_56 d5_reckon_67 f_22_2 ?_
          refine g_topI (nI ((r.length + 2))) (hn) ?_
          refine g_iz_ne (((r.length + 2) : Nat) : Int) 81 (nI_ti (by omega)) d5_reckon_70 rfl (fun _ => ?_) (fun c70 => absurd c70 (by omega))
          refine g_iload d5_reckon_81 rfl ?_
          refine g_iconstv (nI 2) d5_reckon_83 rfl ?_
          refine g_ic_ne (37) (2) 114 (by decide) (by decide) d5_reckon_84 rfl (fun _ => ?_) (fun c84 => absurd c84 (by decide))
          refine g_iload d5_reckon_114 rfl ?_
          refine g_iconstv (nI 3) d5_reckon_116 rfl ?_
          refine g_ic_eq (37) (3) 135 (by decide) (by decide) d5_reckon_117 rfl (fun c117 => absurd c117 (by decide)) (fun _ => ?_)
          refine g_iload d5_reckon_120 rfl ?_
          refine g_iconstv (nI 4) d5_reckon_122 rfl ?_
          refine g_ic_eq (37) (4) 135 (by decide) (by decide) d5_reckon_123 rfl (fun c123 => absurd c123 (by decide)) (fun _ => ?_)
          refine g_aload_n d5_reckon_126 rfl ?_
          refine g_iload d5_reckon_127 rfl ?_
          refine g_VV1 vm5_join ml5_69 c_22 (r5_22_j24 (I := I2) (L := L2) (r.length + 2) hn (by omega) h64b a b hRa hRb hb0 (Nat.le_refl 0)) (by omega) (Nat.le_of_ble_eq_true rfl) d5_reckon_129 ?_
          refine g_goto 195 d5_reckon_132 rfl ?_
          refine g_iincN d5_reckon_195 rfl (by decide) ?_
          refine g_goto 13 d5_reckon_198 rfl ?_
          refine g_lo [(0, .ref 22), (1, .ref T), (2, .int fr), (3, .int (nI last)), (4, .int (nI (k + 1)))] ⟨rfl, rfl, rfl, rfl, rfl, trivial⟩ ?_
          rw [if_pos hin]
          exact ih (k + 1) (ar0 24 a b :: r) _ _ res ⟨by rw [show r.length + 2 - 1 - 1 = r.length from rfl, uL_ss], by rw [uL_s]; exact RR_up (Nat.le_refl _) hR.2.2⟩ (fun c hc => by rw [uI_n hc, uI_n hc]; exact i1 c hc) (fun j j1 j2 => by rw [uI_sn j2, uI_sn j1]; exact i2 j j1 j2) (fun c hc => by rw [uL_n hc]; exact l1 c hc) (by rw [uI_sn (by decide), uI_ss]; rfl) uI_ss (by show r.length + 1 ≤ 64; omega) (by omega) he
        · replace he : some none = some res := by dsimp only at he; rw [if_pos (hax.2 hin)] at he; exact he
          obtain rfl : none = res := by injection he
          refine g_iload d5_reckon_13 rfl ?_
          refine g_iload_n d5_reckon_15 rfl ?_
          refine g_ic_ge ((k : Nat) : Int) ((last : Nat) : Int) 201 (nI_ti (by omega)) (nI_ti (by omega)) d5_reckon_16 rfl (fun c16 => absurd c16 (by omega)) (fun _ => ?_)
          refine g_aload_n d5_reckon_19 rfl ?_
          refine g_get fl5_36 d5_reckon_20 f_22_3 ?_
          refine g_topI ((0 : Int32)) (h3) ?_
          refine g_iz_ne (0) 201 (by decide) d5_reckon_23 rfl (fun c23 => absurd c23 (by decide)) (fun _ => ?_)
          refine g_aload_n d5_reckon_26 rfl ?_
          refine g_get fl5_59 d5_reckon_27 (hX.f5) ?_
          refine g_iload d5_reckon_30 rfl ?_
          refine g_ialdN (k) d5_reckon_32 hX.a5 (rfl) (by omega) (by omega) ?_
          refine g_topI (nI 37) (by rw [v1, hs]) ?_
          refine g_istore d5_reckon_33 (by decide) ?_
          refine g_aload_n d5_reckon_35 rfl ?_
          refine g_get fl5_62 d5_reckon_36 (hX.f6) ?_
          refine g_iload d5_reckon_39 rfl ?_
          refine g_ialdN (k) d5_reckon_41 hX.a6 (rfl) (by omega) (by omega) ?_
          refine g_topI (nI (wi k)) (v2) ?_
          refine g_istore d5_reckon_42 (by decide) ?_
          refine g_iload d5_reckon_44 rfl ?_
          refine g_iz_eq (37) 55 (by decide) d5_reckon_46 rfl (fun c46 => absurd c46 (by decide)) (fun _ => ?_)
          refine g_iload d5_reckon_49 rfl ?_
          refine g_iconstv (nI 1) d5_reckon_51 rfl ?_
          refine g_ic_ne (37) (1) 66 (by decide) (by decide) d5_reckon_52 rfl (fun _ => ?_) (fun c52 => absurd c52 (by decide))
          refine g_aload_n d5_reckon_66 rfl ?_
          refine g_get fl5_56 d5_reckon_67 f_22_2 ?_
          refine g_topI (nI ((r.length + 2))) (hn) ?_
          refine g_iz_ne (((r.length + 2) : Nat) : Int) 81 (nI_ti (by omega)) d5_reckon_70 rfl (fun _ => ?_) (fun c70 => absurd c70 (by omega))
          refine g_iload d5_reckon_81 rfl ?_
          refine g_iconstv (nI 2) d5_reckon_83 rfl ?_
          refine g_ic_ne (37) (2) 114 (by decide) (by decide) d5_reckon_84 rfl (fun _ => ?_) (fun c84 => absurd c84 (by decide))
          refine g_iload d5_reckon_114 rfl ?_
          refine g_iconstv (nI 3) d5_reckon_116 rfl ?_
          refine g_ic_eq (37) (3) 135 (by decide) (by decide) d5_reckon_117 rfl (fun c117 => absurd c117 (by decide)) (fun _ => ?_)
          refine g_iload d5_reckon_120 rfl ?_
          refine g_iconstv (nI 4) d5_reckon_122 rfl ?_
          refine g_ic_eq (37) (4) 135 (by decide) (by decide) d5_reckon_123 rfl (fun c123 => absurd c123 (by decide)) (fun _ => ?_)
          refine g_aload_n d5_reckon_126 rfl ?_
          refine g_iload d5_reckon_127 rfl ?_
          refine g_VV1 vm5_join ml5_69 c_22 (r5_22_j24 (I := I2) (L := L2) (r.length + 2) hn (by omega) h64b a b hRa hRb hb0 (Nat.le_refl 0)) (by omega) (Nat.le_of_ble_eq_true rfl) d5_reckon_129 ?_
          refine g_goto 195 d5_reckon_132 rfl ?_
          refine g_iincN d5_reckon_195 rfl (by decide) ?_
          refine g_goto 13 d5_reckon_198 rfl ?_
          refine g_lo [(0, .ref 22), (1, .ref T), (2, .int fr), (3, .int (nI last)), (4, .int (nI (k + 1)))] ⟨rfl, rfl, rfl, rfl, rfl, trivial⟩ ?_
          rw [if_neg hin]
          exact r5_22_bk _ _ (fun c hc => by rw [uI_n hc, uI_n hc]; exact i1 c hc) (fun j j1 j2 => by rw [uI_sn j2, uI_sn j1]; exact i2 j j1 j2) (fun c hc => by rw [uL_n hc]; exact l1 c hc) (r.length + 1) (by rw [uI_sn (by decide), uI_ss]; rfl) (by omega) uI_ss (k + 1) (by omega) (by omega) none rfl
      · -- 60
        have ho : cop st wi k = 25 := by unfold cop; rw [if_neg (by omega)]; rw [if_neg (by omega)]; rw [if_neg (by omega)]; rw [if_neg (by omega)]; rw [if_neg (by omega)]; rw [if_neg (by omega)]; rw [if_neg (by omega)]; rw [if_neg (by omega)]; rw [if_neg (by omega)]; rw [if_neg (by omega)]; rw [if_pos hs]
        rw [sC_bin (by omega) (by omega), ho] at he
        match s, he, hR, hn, h64 with
        | b :: a :: r, he, hR, hn, h64 =>
        have hn : I2 22 2 = nI (r.length + 2) := hn
        have h64b : r.length + 2 ≤ 64 := h64
        have hRb : L2 24 (r.length + 2 - 1) = b := hR.1
        have hRa : L2 24 (r.length + 2 - 1 - 1) = a := hR.2.1
        have hax := arX_r (o := 25) (a := a) (b := b) (fun z => absurd z.1 (by decide))
        by_cases hin : -1000000000 ≤ (ar0 25 a b).toInt ∧ (ar0 25 a b).toInt ≤ 1000000000
        · replace he : eC (cop st wi) (carg st wi) env last f (k + 1) (ar0 25 a b :: r) = some res := by dsimp only at he; rw [if_neg (fun z => hax.1 z hin)] at he; exact he
          refine g_iload d5_reckon_13 rfl ?_
          refine g_iload_n d5_reckon_15 rfl ?_
          refine g_ic_ge ((k : Nat) : Int) ((last : Nat) : Int) 201 (nI_ti (by omega)) (nI_ti (by omega)) d5_reckon_16 rfl (fun c16 => absurd c16 (by omega)) (fun _ => ?_)
          refine g_aload_n d5_reckon_19 rfl ?_
          refine g_get fl5_36 d5_reckon_20 f_22_3 ?_
          refine g_topI ((0 : Int32)) (h3) ?_
          refine g_iz_ne (0) 201 (by decide) d5_reckon_23 rfl (fun c23 => absurd c23 (by decide)) (fun _ => ?_)
          refine g_aload_n d5_reckon_26 rfl ?_
          refine g_get fl5_59 d5_reckon_27 (hX.f5) ?_
          refine g_iload d5_reckon_30 rfl ?_
          refine g_ialdN (k) d5_reckon_32 hX.a5 (rfl) (by omega) (by omega) ?_
          refine g_topI (nI 60) (by rw [v1, hs]) ?_
          refine g_istore d5_reckon_33 (by decide) ?_
          refine g_aload_n d5_reckon_35 rfl ?_
          refine g_get fl5_62 d5_reckon_36 (hX.f6) ?_
          refine g_iload d5_reckon_39 rfl ?_
          refine g_ialdN (k) d5_reckon_41 hX.a6 (rfl) (by omega) (by omega) ?_
          refine g_topI (nI (wi k)) (v2) ?_
          refine g_istore d5_reckon_42 (by decide) ?_
          refine g_iload d5_reckon_44 rfl ?_
          refine g_iz_eq (60) 55 (by decide) d5_reckon_46 rfl (fun c46 => absurd c46 (by decide)) (fun _ => ?_)
          refine g_iload d5_reckon_49 rfl ?_
          refine g_iconstv (nI 1) d5_reckon_51 rfl ?_
          refine g_ic_ne (60) (1) 66 (by decide) (by decide) d5_reckon_52 rfl (fun _ => ?_) (fun c52 => absurd c52 (by decide))
          refine g_aload_n d5_reckon_66 rfl ?_
          refine g_get fl5_56 d5_reckon_67 f_22_2 ?_
          refine g_topI (nI ((r.length + 2))) (hn) ?_
          refine g_iz_ne (((r.length + 2) : Nat) : Int) 81 (nI_ti (by omega)) d5_reckon_70 rfl (fun _ => ?_) (fun c70 => absurd c70 (by omega))
          refine g_iload d5_reckon_81 rfl ?_
          refine g_iconstv (nI 2) d5_reckon_83 rfl ?_
          refine g_ic_ne (60) (2) 114 (by decide) (by decide) d5_reckon_84 rfl (fun _ => ?_) (fun c84 => absurd c84 (by decide))
          refine g_iload d5_reckon_114 rfl ?_
          refine g_iconstv (nI 3) d5_reckon_116 rfl ?_
          refine g_ic_eq (60) (3) 135 (by decide) (by decide) d5_reckon_117 rfl (fun c117 => absurd c117 (by decide)) (fun _ => ?_)
          refine g_iload d5_reckon_120 rfl ?_
          refine g_iconstv (nI 4) d5_reckon_122 rfl ?_
          refine g_ic_eq (60) (4) 135 (by decide) (by decide) d5_reckon_123 rfl (fun c123 => absurd c123 (by decide)) (fun _ => ?_)
          refine g_aload_n d5_reckon_126 rfl ?_
          refine g_iload d5_reckon_127 rfl ?_
          refine g_VV1 vm5_join ml5_69 c_22 (r5_22_j25 (I := I2) (L := L2) (r.length + 2) hn (by omega) h64b a b hRa hRb (Nat.le_refl 0)) (by omega) (Nat.le_of_ble_eq_true rfl) d5_reckon_129 ?_
          refine g_goto 195 d5_reckon_132 rfl ?_
          refine g_iincN d5_reckon_195 rfl (by decide) ?_
          refine g_goto 13 d5_reckon_198 rfl ?_
          refine g_lo [(0, .ref 22), (1, .ref T), (2, .int fr), (3, .int (nI last)), (4, .int (nI (k + 1)))] ⟨rfl, rfl, rfl, rfl, rfl, trivial⟩ ?_
          rw [if_pos hin]
          exact ih (k + 1) (ar0 25 a b :: r) _ _ res ⟨by rw [show r.length + 2 - 1 - 1 = r.length from rfl, uL_ss], by rw [uL_s]; exact RR_up (Nat.le_refl _) hR.2.2⟩ (fun c hc => by rw [uI_n hc, uI_n hc]; exact i1 c hc) (fun j j1 j2 => by rw [uI_sn j2, uI_sn j1]; exact i2 j j1 j2) (fun c hc => by rw [uL_n hc]; exact l1 c hc) (by rw [uI_sn (by decide), uI_ss]; rfl) uI_ss (by show r.length + 1 ≤ 64; omega) (by omega) he
        · replace he : some none = some res := by dsimp only at he; rw [if_pos (hax.2 hin)] at he; exact he
          obtain rfl : none = res := by injection he
          refine g_iload d5_reckon_13 rfl ?_
          refine g_iload_n d5_reckon_15 rfl ?_
          refine g_ic_ge ((k : Nat) : Int) ((last : Nat) : Int) 201 (nI_ti (by omega)) (nI_ti (by omega)) d5_reckon_16 rfl (fun c16 => absurd c16 (by omega)) (fun _ => ?_)
          refine g_aload_n d5_reckon_19 rfl ?_
          refine g_get fl5_36 d5_reckon_20 f_22_3 ?_
          refine g_topI ((0 : Int32)) (h3) ?_
          refine g_iz_ne (0) 201 (by decide) d5_reckon_23 rfl (fun c23 => absurd c23 (by decide)) (fun _ => ?_)
          refine g_aload_n d5_reckon_26 rfl ?_
          refine g_get fl5_59 d5_reckon_27 (hX.f5) ?_
          refine g_iload d5_reckon_30 rfl ?_
          refine g_ialdN (k) d5_reckon_32 hX.a5 (rfl) (by omega) (by omega) ?_
          refine g_topI (nI 60) (by rw [v1, hs]) ?_
          refine g_istore d5_reckon_33 (by decide) ?_
          refine g_aload_n d5_reckon_35 rfl ?_
          refine g_get fl5_62 d5_reckon_36 (hX.f6) ?_
          refine g_iload d5_reckon_39 rfl ?_
          refine g_ialdN (k) d5_reckon_41 hX.a6 (rfl) (by omega) (by omega) ?_
          refine g_topI (nI (wi k)) (v2) ?_
          refine g_istore d5_reckon_42 (by decide) ?_
          refine g_iload d5_reckon_44 rfl ?_
          refine g_iz_eq (60) 55 (by decide) d5_reckon_46 rfl (fun c46 => absurd c46 (by decide)) (fun _ => ?_)
          refine g_iload d5_reckon_49 rfl ?_
          refine g_iconstv (nI 1) d5_reckon_51 rfl ?_
          refine g_ic_ne (60) (1) 66 (by decide) (by decide) d5_reckon_52 rfl (fun _ => ?_) (fun c52 => absurd c52 (by decide))
          refine g_aload_n d5_reckon_66 rfl ?_
          refine g_get fl5_56 d5_reckon_67 f_22_2 ?_
          refine g_topI (nI ((r.length + 2))) (hn) ?_
          refine g_iz_ne (((r.length + 2) : Nat) : Int) 81 (nI_ti (by omega)) d5_reckon_70 rfl (fun _ => ?_) (fun c70 => absurd c70 (by omega))
          refine g_iload d5_reckon_81 rfl ?_
          refine g_iconstv (nI 2) d5_reckon_83 rfl ?_
          refine g_ic_ne (60) (2) 114 (by decide) (by decide) d5_reckon_84 rfl (fun _ => ?_) (fun c84 => absurd c84 (by decide))
          refine g_iload d5_reckon_114 rfl ?_
          refine g_iconstv (nI 3) d5_reckon_116 rfl ?_
          refine g_ic_eq (60) (3) 135 (by decide) (by decide) d5_reckon_117 rfl (fun c117 => absurd c117 (by decide)) (fun _ => ?_)
          refine g_iload d5_reckon_120 rfl ?_
          refine g_iconstv (nI 4) d5_reckon_122 rfl ?_
          refine g_ic_eq (60) (4) 135 (by decide) (by decide) d5_reckon_123 rfl (fun c123 => absurd c123 (by decide)) (fun _ => ?_)
          refine g_aload_n d5_reckon_126 rfl ?_
          refine g_iload d5_reckon_127 rfl ?_
          refine g_VV1 vm5_join ml5_69 c_22 (r5_22_j25 (I := I2) (L := L2) (r.length + 2) hn (by omega) h64b a b hRa hRb (Nat.le_refl 0)) (by omega) (Nat.le_of_ble_eq_true rfl) d5_reckon_129 ?_
          refine g_goto 195 d5_reckon_132 rfl ?_
          refine g_iincN d5_reckon_195 rfl (by decide) ?_
          refine g_goto 13 d5_reckon_198 rfl ?_
          refine g_lo [(0, .ref 22), (1, .ref T), (2, .int fr), (3, .int (nI last)), (4, .int (nI (k + 1)))] ⟨rfl, rfl, rfl, rfl, rfl, trivial⟩ ?_
          rw [if_neg hin]
          exact r5_22_bk _ _ (fun c hc => by rw [uI_n hc, uI_n hc]; exact i1 c hc) (fun j j1 j2 => by rw [uI_sn j2, uI_sn j1]; exact i2 j j1 j2) (fun c hc => by rw [uL_n hc]; exact l1 c hc) (r.length + 1) (by rw [uI_sn (by decide), uI_ss]; rfl) (by omega) uI_ss (k + 1) (by omega) (by omega) none rfl
      · -- 62
        have ho : cop st wi k = 26 := by unfold cop; rw [if_neg (by omega)]; rw [if_neg (by omega)]; rw [if_neg (by omega)]; rw [if_neg (by omega)]; rw [if_neg (by omega)]; rw [if_neg (by omega)]; rw [if_neg (by omega)]; rw [if_neg (by omega)]; rw [if_neg (by omega)]; rw [if_neg (by omega)]; rw [if_neg (by omega)]; rw [if_pos hs]
        rw [sC_bin (by omega) (by omega), ho] at he
        match s, he, hR, hn, h64 with
        | b :: a :: r, he, hR, hn, h64 =>
        have hn : I2 22 2 = nI (r.length + 2) := hn
        have h64b : r.length + 2 ≤ 64 := h64
        have hRb : L2 24 (r.length + 2 - 1) = b := hR.1
        have hRa : L2 24 (r.length + 2 - 1 - 1) = a := hR.2.1
        have hax := arX_r (o := 26) (a := a) (b := b) (fun z => absurd z.1 (by decide))
        by_cases hin : -1000000000 ≤ (ar0 26 a b).toInt ∧ (ar0 26 a b).toInt ≤ 1000000000
        · replace he : eC (cop st wi) (carg st wi) env last f (k + 1) (ar0 26 a b :: r) = some res := by dsimp only at he; rw [if_neg (fun z => hax.1 z hin)] at he; exact he
          refine g_iload d5_reckon_13 rfl ?_
          refine g_iload_n d5_reckon_15 rfl ?_
          refine g_ic_ge ((k : Nat) : Int) ((last : Nat) : Int) 201 (nI_ti (by omega)) (nI_ti (by omega)) d5_reckon_16 rfl (fun c16 => absurd c16 (by omega)) (fun _ => ?_)
          refine g_aload_n d5_reckon_19 rfl ?_
          refine g_get fl5_36 d5_reckon_20 f_22_3 ?_
          refine g_topI ((0 : Int32)) (h3) ?_
          refine g_iz_ne (0) 201 (by decide) d5_reckon_23 rfl (fun c23 => absurd c23 (by decide)) (fun _ => ?_)
          refine g_aload_n d5_reckon_26 rfl ?_
          refine g_get fl5_59 d5_reckon_27 (hX.f5) ?_
          refine g_iload d5_reckon_30 rfl ?_
          refine g_ialdN (k) d5_reckon_32 hX.a5 (rfl) (by omega) (by omega) ?_
          refine g_topI (nI 62) (by rw [v1, hs]) ?_
          refine g_istore d5_reckon_33 (by decide) ?_
          refine g_aload_n d5_reckon_35 rfl ?_
          refine g_get fl5_62 d5_reckon_36 (hX.f6) ?_
          refine g_iload d5_reckon_39 rfl ?_
          refine g_ialdN (k) d5_reckon_41 hX.a6 (rfl) (by omega) (by omega) ?_
          refine g_topI (nI (wi k)) (v2) ?_
          refine g_istore d5_reckon_42 (by decide) ?_
          refine g_iload d5_reckon_44 rfl ?_
          refine g_iz_eq (62) 55 (by decide) d5_reckon_46 rfl (fun c46 => absurd c46 (by decide)) (fun _ => ?_)
          refine g_iload d5_reckon_49 rfl ?_
          refine g_iconstv (nI 1) d5_reckon_51 rfl ?_
          refine g_ic_ne (62) (1) 66 (by decide) (by decide) d5_reckon_52 rfl (fun _ => ?_) (fun c52 => absurd c52 (by decide))
          refine g_aload_n d5_reckon_66 rfl ?_
          refine g_get fl5_56 d5_reckon_67 f_22_2 ?_
          refine g_topI (nI ((r.length + 2))) (hn) ?_
          refine g_iz_ne (((r.length + 2) : Nat) : Int) 81 (nI_ti (by omega)) d5_reckon_70 rfl (fun _ => ?_) (fun c70 => absurd c70 (by omega))
          refine g_iload d5_reckon_81 rfl ?_
          refine g_iconstv (nI 2) d5_reckon_83 rfl ?_
          refine g_ic_ne (62) (2) 114 (by decide) (by decide) d5_reckon_84 rfl (fun _ => ?_) (fun c84 => absurd c84 (by decide))
          refine g_iload d5_reckon_114 rfl ?_
          refine g_iconstv (nI 3) d5_reckon_116 rfl ?_
          refine g_ic_eq (62) (3) 135 (by decide) (by decide) d5_reckon_117 rfl (fun c117 => absurd c117 (by decide)) (fun _ => ?_)
          refine g_iload d5_reckon_120 rfl ?_
          refine g_iconstv (nI 4) d5_reckon_122 rfl ?_
          refine g_ic_eq (62) (4) 135 (by decide) (by decide) d5_reckon_123 rfl (fun c123 => absurd c123 (by decide)) (fun _ => ?_)
          refine g_aload_n d5_reckon_126 rfl ?_
          refine g_iload d5_reckon_127 rfl ?_
          refine g_VV1 vm5_join ml5_69 c_22 (r5_22_j26 (I := I2) (L := L2) (r.length + 2) hn (by omega) h64b a b hRa hRb (Nat.le_refl 0)) (by omega) (Nat.le_of_ble_eq_true rfl) d5_reckon_129 ?_
          refine g_goto 195 d5_reckon_132 rfl ?_
          refine g_iincN d5_reckon_195 rfl (by decide) ?_
          refine g_goto 13 d5_reckon_198 rfl ?_
          refine g_lo [(0, .ref 22), (1, .ref T), (2, .int fr), (3, .int (nI last)), (4, .int (nI (k + 1)))] ⟨rfl, rfl, rfl, rfl, rfl, trivial⟩ ?_
          rw [if_pos hin]
          exact ih (k + 1) (ar0 26 a b :: r) _ _ res ⟨by rw [show r.length + 2 - 1 - 1 = r.length from rfl, uL_ss], by rw [uL_s]; exact RR_up (Nat.le_refl _) hR.2.2⟩ (fun c hc => by rw [uI_n hc, uI_n hc]; exact i1 c hc) (fun j j1 j2 => by rw [uI_sn j2, uI_sn j1]; exact i2 j j1 j2) (fun c hc => by rw [uL_n hc]; exact l1 c hc) (by rw [uI_sn (by decide), uI_ss]; rfl) uI_ss (by show r.length + 1 ≤ 64; omega) (by omega) he
        · replace he : some none = some res := by dsimp only at he; rw [if_pos (hax.2 hin)] at he; exact he
          obtain rfl : none = res := by injection he
          refine g_iload d5_reckon_13 rfl ?_
          refine g_iload_n d5_reckon_15 rfl ?_
          refine g_ic_ge ((k : Nat) : Int) ((last : Nat) : Int) 201 (nI_ti (by omega)) (nI_ti (by omega)) d5_reckon_16 rfl (fun c16 => absurd c16 (by omega)) (fun _ => ?_)
          refine g_aload_n d5_reckon_19 rfl ?_
          refine g_get fl5_36 d5_reckon_20 f_22_3 ?_
          refine g_topI ((0 : Int32)) (h3) ?_
          refine g_iz_ne (0) 201 (by decide) d5_reckon_23 rfl (fun c23 => absurd c23 (by decide)) (fun _ => ?_)
          refine g_aload_n d5_reckon_26 rfl ?_
          refine g_get fl5_59 d5_reckon_27 (hX.f5) ?_
          refine g_iload d5_reckon_30 rfl ?_
          refine g_ialdN (k) d5_reckon_32 hX.a5 (rfl) (by omega) (by omega) ?_
          refine g_topI (nI 62) (by rw [v1, hs]) ?_
          refine g_istore d5_reckon_33 (by decide) ?_
          refine g_aload_n d5_reckon_35 rfl ?_
          refine g_get fl5_62 d5_reckon_36 (hX.f6) ?_
          refine g_iload d5_reckon_39 rfl ?_
          refine g_ialdN (k) d5_reckon_41 hX.a6 (rfl) (by omega) (by omega) ?_
          refine g_topI (nI (wi k)) (v2) ?_
          refine g_istore d5_reckon_42 (by decide) ?_
          refine g_iload d5_reckon_44 rfl ?_
          refine g_iz_eq (62) 55 (by decide) d5_reckon_46 rfl (fun c46 => absurd c46 (by decide)) (fun _ => ?_)
          refine g_iload d5_reckon_49 rfl ?_
          refine g_iconstv (nI 1) d5_reckon_51 rfl ?_
          refine g_ic_ne (62) (1) 66 (by decide) (by decide) d5_reckon_52 rfl (fun _ => ?_) (fun c52 => absurd c52 (by decide))
          refine g_aload_n d5_reckon_66 rfl ?_
          refine g_get fl5_56 d5_reckon_67 f_22_2 ?_
          refine g_topI (nI ((r.length + 2))) (hn) ?_
          refine g_iz_ne (((r.length + 2) : Nat) : Int) 81 (nI_ti (by omega)) d5_reckon_70 rfl (fun _ => ?_) (fun c70 => absurd c70 (by omega))
          refine g_iload d5_reckon_81 rfl ?_
          refine g_iconstv (nI 2) d5_reckon_83 rfl ?_
          refine g_ic_ne (62) (2) 114 (by decide) (by decide) d5_reckon_84 rfl (fun _ => ?_) (fun c84 => absurd c84 (by decide))
          refine g_iload d5_reckon_114 rfl ?_
          refine g_iconstv (nI 3) d5_reckon_116 rfl ?_
          refine g_ic_eq (62) (3) 135 (by decide) (by decide) d5_reckon_117 rfl (fun c117 => absurd c117 (by decide)) (fun _ => ?_)
          refine g_iload d5_reckon_120 rfl ?_
          refine g_iconstv (nI 4) d5_reckon_122 rfl ?_
          refine g_ic_eq (62) (4) 135 (by decide) (by decide) d5_reckon_123 rfl (fun c123 => absurd c123 (by decide)) (fun _ => ?_)
          refine g_aload_n d5_reckon_126 rfl ?_
          refine g_iload d5_reckon_127 rfl ?_
          refine g_VV1 vm5_join ml5_69 c_22 (r5_22_j26 (I := I2) (L := L2) (r.length + 2) hn (by omega) h64b a b hRa hRb (Nat.le_refl 0)) (by omega) (Nat.le_of_ble_eq_true rfl) d5_reckon_129 ?_
          refine g_goto 195 d5_reckon_132 rfl ?_
          refine g_iincN d5_reckon_195 rfl (by decide) ?_
          refine g_goto 13 d5_reckon_198 rfl ?_
          refine g_lo [(0, .ref 22), (1, .ref T), (2, .int fr), (3, .int (nI last)), (4, .int (nI (k + 1)))] ⟨rfl, rfl, rfl, rfl, rfl, trivial⟩ ?_
          rw [if_neg hin]
          exact r5_22_bk _ _ (fun c hc => by rw [uI_n hc, uI_n hc]; exact i1 c hc) (fun j j1 j2 => by rw [uI_sn j2, uI_sn j1]; exact i2 j j1 j2) (fun c hc => by rw [uL_n hc]; exact l1 c hc) (r.length + 1) (by rw [uI_sn (by decide), uI_ss]; rfl) (by omega) uI_ss (k + 1) (by omega) (by omega) none rfl
      · -- 61
        have ho : cop st wi k = 27 := by unfold cop; rw [if_neg (by omega)]; rw [if_neg (by omega)]; rw [if_neg (by omega)]; rw [if_neg (by omega)]; rw [if_neg (by omega)]; rw [if_neg (by omega)]; rw [if_neg (by omega)]; rw [if_neg (by omega)]; rw [if_neg (by omega)]; rw [if_neg (by omega)]; rw [if_neg (by omega)]; rw [if_neg (by omega)]
        rw [sC_bin (by omega) (by omega), ho] at he
        match s, he, hR, hn, h64 with
        | b :: a :: r, he, hR, hn, h64 =>
        have hn : I2 22 2 = nI (r.length + 2) := hn
        have h64b : r.length + 2 ≤ 64 := h64
        have hRb : L2 24 (r.length + 2 - 1) = b := hR.1
        have hRa : L2 24 (r.length + 2 - 1 - 1) = a := hR.2.1
        have hax := arX_r (o := 27) (a := a) (b := b) (fun z => absurd z.1 (by decide))
        by_cases hin : -1000000000 ≤ (ar0 27 a b).toInt ∧ (ar0 27 a b).toInt ≤ 1000000000
        · replace he : eC (cop st wi) (carg st wi) env last f (k + 1) (ar0 27 a b :: r) = some res := by dsimp only at he; rw [if_neg (fun z => hax.1 z hin)] at he; exact he
          refine g_iload d5_reckon_13 rfl ?_
          refine g_iload_n d5_reckon_15 rfl ?_
          refine g_ic_ge ((k : Nat) : Int) ((last : Nat) : Int) 201 (nI_ti (by omega)) (nI_ti (by omega)) d5_reckon_16 rfl (fun c16 => absurd c16 (by omega)) (fun _ => ?_)
          refine g_aload_n d5_reckon_19 rfl ?_
          refine g_get fl5_36 d5_reckon_20 f_22_3 ?_
          refine g_topI ((0 : Int32)) (h3) ?_
          refine g_iz_ne (0) 201 (by decide) d5_reckon_23 rfl (fun c23 => absurd c23 (by decide)) (fun _ => ?_)
          refine g_aload_n d5_reckon_26 rfl ?_
          refine g_get fl5_59 d5_reckon_27 (hX.f5) ?_
          refine g_iload d5_reckon_30 rfl ?_
          refine g_ialdN (k) d5_reckon_32 hX.a5 (rfl) (by omega) (by omega) ?_
          refine g_topI (nI 61) (by rw [v1, hs]) ?_
          refine g_istore d5_reckon_33 (by decide) ?_
          refine g_aload_n d5_reckon_35 rfl ?_
          refine g_get fl5_62 d5_reckon_36 (hX.f6) ?_
          refine g_iload d5_reckon_39 rfl ?_
          refine g_ialdN (k) d5_reckon_41 hX.a6 (rfl) (by omega) (by omega) ?_
          refine g_topI (nI (wi k)) (v2) ?_
          refine g_istore d5_reckon_42 (by decide) ?_
          refine g_iload d5_reckon_44 rfl ?_
          refine g_iz_eq (61) 55 (by decide) d5_reckon_46 rfl (fun c46 => absurd c46 (by decide)) (fun _ => ?_)
          refine g_iload d5_reckon_49 rfl ?_
          refine g_iconstv (nI 1) d5_reckon_51 rfl ?_
          refine g_ic_ne (61) (1) 66 (by decide) (by decide) d5_reckon_52 rfl (fun _ => ?_) (fun c52 => absurd c52 (by decide))
          refine g_aload_n d5_reckon_66 rfl ?_
          refine g_get fl5_56 d5_reckon_67 f_22_2 ?_
          refine g_topI (nI ((r.length + 2))) (hn) ?_
          refine g_iz_ne (((r.length + 2) : Nat) : Int) 81 (nI_ti (by omega)) d5_reckon_70 rfl (fun _ => ?_) (fun c70 => absurd c70 (by omega))
          refine g_iload d5_reckon_81 rfl ?_
          refine g_iconstv (nI 2) d5_reckon_83 rfl ?_
          refine g_ic_ne (61) (2) 114 (by decide) (by decide) d5_reckon_84 rfl (fun _ => ?_) (fun c84 => absurd c84 (by decide))
          refine g_iload d5_reckon_114 rfl ?_
          refine g_iconstv (nI 3) d5_reckon_116 rfl ?_
          refine g_ic_eq (61) (3) 135 (by decide) (by decide) d5_reckon_117 rfl (fun c117 => absurd c117 (by decide)) (fun _ => ?_)
          refine g_iload d5_reckon_120 rfl ?_
          refine g_iconstv (nI 4) d5_reckon_122 rfl ?_
          refine g_ic_eq (61) (4) 135 (by decide) (by decide) d5_reckon_123 rfl (fun c123 => absurd c123 (by decide)) (fun _ => ?_)
          refine g_aload_n d5_reckon_126 rfl ?_
          refine g_iload d5_reckon_127 rfl ?_
          refine g_VV1 vm5_join ml5_69 c_22 (r5_22_j27 (I := I2) (L := L2) (r.length + 2) hn (by omega) h64b a b hRa hRb (Nat.le_refl 0)) (by omega) (Nat.le_of_ble_eq_true rfl) d5_reckon_129 ?_
          refine g_goto 195 d5_reckon_132 rfl ?_
          refine g_iincN d5_reckon_195 rfl (by decide) ?_
          refine g_goto 13 d5_reckon_198 rfl ?_
          refine g_lo [(0, .ref 22), (1, .ref T), (2, .int fr), (3, .int (nI last)), (4, .int (nI (k + 1)))] ⟨rfl, rfl, rfl, rfl, rfl, trivial⟩ ?_
          rw [if_pos hin]
          exact ih (k + 1) (ar0 27 a b :: r) _ _ res ⟨by rw [show r.length + 2 - 1 - 1 = r.length from rfl, uL_ss], by rw [uL_s]; exact RR_up (Nat.le_refl _) hR.2.2⟩ (fun c hc => by rw [uI_n hc, uI_n hc]; exact i1 c hc) (fun j j1 j2 => by rw [uI_sn j2, uI_sn j1]; exact i2 j j1 j2) (fun c hc => by rw [uL_n hc]; exact l1 c hc) (by rw [uI_sn (by decide), uI_ss]; rfl) uI_ss (by show r.length + 1 ≤ 64; omega) (by omega) he
        · replace he : some none = some res := by dsimp only at he; rw [if_pos (hax.2 hin)] at he; exact he
          obtain rfl : none = res := by injection he
          refine g_iload d5_reckon_13 rfl ?_
          refine g_iload_n d5_reckon_15 rfl ?_
          refine g_ic_ge ((k : Nat) : Int) ((last : Nat) : Int) 201 (nI_ti (by omega)) (nI_ti (by omega)) d5_reckon_16 rfl (fun c16 => absurd c16 (by omega)) (fun _ => ?_)
          refine g_aload_n d5_reckon_19 rfl ?_
          refine g_get fl5_36 d5_reckon_20 f_22_3 ?_
          refine g_topI ((0 : Int32)) (h3) ?_
          refine g_iz_ne (0) 201 (by decide) d5_reckon_23 rfl (fun c23 => absurd c23 (by decide)) (fun _ => ?_)
          refine g_aload_n d5_reckon_26 rfl ?_
          refine g_get fl5_59 d5_reckon_27 (hX.f5) ?_
          refine g_iload d5_reckon_30 rfl ?_
          refine g_ialdN (k) d5_reckon_32 hX.a5 (rfl) (by omega) (by omega) ?_
          refine g_topI (nI 61) (by rw [v1, hs]) ?_
          refine g_istore d5_reckon_33 (by decide) ?_
          refine g_aload_n d5_reckon_35 rfl ?_
          refine g_get fl5_62 d5_reckon_36 (hX.f6) ?_
          refine g_iload d5_reckon_39 rfl ?_
          refine g_ialdN (k) d5_reckon_41 hX.a6 (rfl) (by omega) (by omega) ?_
          refine g_topI (nI (wi k)) (v2) ?_
          refine g_istore d5_reckon_42 (by decide) ?_
          refine g_iload d5_reckon_44 rfl ?_
          refine g_iz_eq (61) 55 (by decide) d5_reckon_46 rfl (fun c46 => absurd c46 (by decide)) (fun _ => ?_)
          refine g_iload d5_reckon_49 rfl ?_
          refine g_iconstv (nI 1) d5_reckon_51 rfl ?_
          refine g_ic_ne (61) (1) 66 (by decide) (by decide) d5_reckon_52 rfl (fun _ => ?_) (fun c52 => absurd c52 (by decide))
          refine g_aload_n d5_reckon_66 rfl ?_
          refine g_get fl5_56 d5_reckon_67 f_22_2 ?_
          refine g_topI (nI ((r.length + 2))) (hn) ?_
          refine g_iz_ne (((r.length + 2) : Nat) : Int) 81 (nI_ti (by omega)) d5_reckon_70 rfl (fun _ => ?_) (fun c70 => absurd c70 (by omega))
          refine g_iload d5_reckon_81 rfl ?_
          refine g_iconstv (nI 2) d5_reckon_83 rfl ?_
          refine g_ic_ne (61) (2) 114 (by decide) (by decide) d5_reckon_84 rfl (fun _ => ?_) (fun c84 => absurd c84 (by decide))
          refine g_iload d5_reckon_114 rfl ?_
          refine g_iconstv (nI 3) d5_reckon_116 rfl ?_
          refine g_ic_eq (61) (3) 135 (by decide) (by decide) d5_reckon_117 rfl (fun c117 => absurd c117 (by decide)) (fun _ => ?_)
          refine g_iload d5_reckon_120 rfl ?_
          refine g_iconstv (nI 4) d5_reckon_122 rfl ?_
          refine g_ic_eq (61) (4) 135 (by decide) (by decide) d5_reckon_123 rfl (fun c123 => absurd c123 (by decide)) (fun _ => ?_)
          refine g_aload_n d5_reckon_126 rfl ?_
          refine g_iload d5_reckon_127 rfl ?_
          refine g_VV1 vm5_join ml5_69 c_22 (r5_22_j27 (I := I2) (L := L2) (r.length + 2) hn (by omega) h64b a b hRa hRb (Nat.le_refl 0)) (by omega) (Nat.le_of_ble_eq_true rfl) d5_reckon_129 ?_
          refine g_goto 195 d5_reckon_132 rfl ?_
          refine g_iincN d5_reckon_195 rfl (by decide) ?_
          refine g_goto 13 d5_reckon_198 rfl ?_
          refine g_lo [(0, .ref 22), (1, .ref T), (2, .int fr), (3, .int (nI last)), (4, .int (nI (k + 1)))] ⟨rfl, rfl, rfl, rfl, rfl, trivial⟩ ?_
          rw [if_neg hin]
          exact r5_22_bk _ _ (fun c hc => by rw [uI_n hc, uI_n hc]; exact i1 c hc) (fun j j1 j2 => by rw [uI_sn j2, uI_sn j1]; exact i2 j j1 j2) (fun c hc => by rw [uL_n hc]; exact l1 c hc) (r.length + 1) (by rw [uI_sn (by decide), uI_ss]; rfl) (by omega) uI_ss (k + 1) (by omega) (by omega) none rfl
theorem r5_30_ex {l : Launch} {K : cK} {d : Nat} {I : wI} {L : wL} {R : wR} {dy : cH} (I2 : wI) (L2 : wL) (res : Option (List Int64)) (i1 : ∀ c, c ≠ 30 → I2 c = I c) (i2 : ∀ j, j ≠ 2 → j ≠ 3 → I2 30 j = I 30 j) (l1 : ∀ c, c ≠ 32 → L2 c = L c) (n : Nat) (hn : I2 30 2 = nI n) (h64 : n ≤ 64) (h3 : I2 30 3 = (if res = none then 1 else 0)) (hv : ∀ s, res = some s → (n = 0 ∧ s = []) ∨ (0 < n ∧ L2 32 (n - 1) = s.headD 1)) : GL l K m5_reckon d 0 0 201 [(0, .ref 30)] [] (hp I2 L2 R dy) (fun z h => ∃ x : wI × wL × Int64, RKP 30 32 I L res x ∧ z = some (.long x.2.2) ∧ h = hp x.1 x.2.1 R dy) := by
  by_cases h0 : n = 0
  · subst h0
    refine g_aload_n d5_reckon_201 rfl ?_
    refine g_get fl5_56 d5_reckon_202 f_30_2 ?_
    refine g_topI (nI 0) (hn) ?_
    refine g_iz_le (0) 222 (by decide) d5_reckon_205 rfl (fun _ => ?_) (fun c205 => absurd c205 (by decide))
    refine g_lconstv (1) d5_reckon_222 rfl ?_
    exact g_lret rfl d5_reckon_223 (⟨(I2, L2, 1), ⟨i1, i2, l1, h3, fun s hs => by rcases hv s hs with ⟨_, z⟩ | ⟨z, _⟩; rw [z]; rfl; omega⟩, rfl, rfl⟩)
  · skip
    refine g_aload_n d5_reckon_201 rfl ?_
    refine g_get fl5_56 d5_reckon_202 f_30_2 ?_
    refine g_topI (nI (n)) (hn) ?_
    refine g_iz_le ((n : Nat) : Int) 222 (nI_ti (by omega)) d5_reckon_205 rfl (fun c205 => absurd c205 (by omega)) (fun _ => ?_)
    refine g_aload_n d5_reckon_208 rfl ?_
    refine g_get fl5_13 d5_reckon_209 f_30_1 ?_
    refine g_aload_n d5_reckon_212 rfl ?_
    refine g_get fl5_56 d5_reckon_213 f_30_2 ?_
    refine g_topI (nI (n)) (hn) ?_
    refine g_iconstv (nI 1) d5_reckon_216 rfl ?_
    refine g_isubN (by omega) d5_reckon_217 ?_
    refine g_laldN ((n - 1)) d5_reckon_218 a_32 (rfl) (by omega) (by decide) ?_
    refine g_goto 223 d5_reckon_219 rfl ?_
    exact g_lret rfl d5_reckon_223 (⟨(I2, L2, L2 32 (n - 1)), ⟨i1, i2, l1, h3, fun s hs => by rcases hv s hs with ⟨z, _⟩ | ⟨_, z⟩; exact absurd z h0; exact z⟩, rfl, rfl⟩)
theorem r5_30_bk {l : Launch} {K : cK} {d : Nat} {I : wI} {L : wL} {R : wR} {dy : cH} {T last : Nat} {fr : Int32} (I2 : wI) (L2 : wL) (i1 : ∀ c, c ≠ 30 → I2 c = I c) (i2 : ∀ j, j ≠ 2 → j ≠ 3 → I2 30 j = I 30 j) (l1 : ∀ c, c ≠ 32 → L2 c = L c) (n : Nat) (hn : I2 30 2 = nI n) (h64 : n ≤ 64) (h3 : I2 30 3 = 1) (k : Nat) (hk : k < 2147483648) (hl : last < 2147483648) (res : Option (List Int64)) (hr : res = none) : GL l K m5_reckon d 0 0 13 [(0, .ref 30), (1, .ref T), (2, .int fr), (3, .int (nI last)), (4, .int (nI k))] [] (hp I2 L2 R dy) (fun z h => ∃ x : wI × wL × Int64, RKP 30 32 I L res x ∧ z = some (.long x.2.2) ∧ h = hp x.1 x.2.1 R dy) := by
  subst hr
  by_cases e : last ≤ k
  · skip
    refine g_iload d5_reckon_13 rfl ?_
    refine g_iload_n d5_reckon_15 rfl ?_
    refine g_ic_ge ((k : Nat) : Int) ((last : Nat) : Int) 201 (nI_ti (by omega)) (nI_ti (by omega)) d5_reckon_16 rfl (fun _ => ?_) (fun c16 => absurd c16 (by omega))
    refine g_lo [(0, .ref 30)] ⟨rfl, trivial⟩ ?_
    exact r5_30_ex I2 L2 none i1 i2 l1 n hn h64 h3 (fun s hs => by cases hs)
  · skip
    refine g_iload d5_reckon_13 rfl ?_
    refine g_iload_n d5_reckon_15 rfl ?_
    refine g_ic_ge ((k : Nat) : Int) ((last : Nat) : Int) 201 (nI_ti (by omega)) (nI_ti (by omega)) d5_reckon_16 rfl (fun c16 => absurd c16 (by omega)) (fun _ => ?_)
    refine g_aload_n d5_reckon_19 rfl ?_
    refine g_get fl5_36 d5_reckon_20 f_30_3 ?_
    refine g_topI ((1 : Int32)) (h3) ?_
    refine g_iz_ne (1) 201 (by decide) d5_reckon_23 rfl (fun _ => ?_) (fun c23 => absurd c23 (by decide))
    refine g_lo [(0, .ref 30)] ⟨rfl, trivial⟩ ?_
    exact r5_30_ex I2 L2 none i1 i2 l1 n hn h64 h3 (fun s hs => by cases hs)
set_option maxHeartbeats 2000000 in
theorem r5_30_rkL {l : Launch} {K : cK} {d : Nat} {I : wI} {L : wL} {R : wR} {dy : cH} {T nc sz : Nat} {A : Nat → Nat → Int32} (hX : TXT dy T nc sz A) (st wi : Nat → Nat) (last : Nat) (hls : last ≤ sz) (hv : ∀ k, k < last → A 5 k = nI (st k) ∧ A 6 k = nI (wi k) ∧ vst st wi k ∧ (29 ≤ cop st wi k → k < wi k)) (env : Nat → Int64) (henv : ∀ j, j < 7 → env (j + 1) = (I 31 j).toInt64) (fr : Int32) (hd : 1 ≤ d) :
    ∀ (f k : Nat) (s : List Int64) (I2 : wI) (L2 : wL) (res : Option (List Int64)), RR (L2 32) s → (∀ c, c ≠ 30 → I2 c = I c) → (∀ j, j ≠ 2 → j ≠ 3 → I2 30 j = I 30 j) → (∀ c, c ≠ 32 → L2 c = L c) → I2 30 2 = nI s.length → I2 30 3 = 0 → s.length ≤ 64 → k < 2147483648 → eC (cop st wi) (carg st wi) env last f k s = some res →
    GL l K m5_reckon d 0 0 13 [(0, .ref 30), (1, .ref T), (2, .int fr), (3, .int (nI last)), (4, .int (nI k))] [] (hp I2 L2 R dy) (fun z h => ∃ x : wI × wL × Int64, RKP 30 32 I L res x ∧ z = some (.long x.2.2) ∧ h = hp x.1 x.2.1 R dy) := by
  have hsz := hX
  obtain ⟨_, _, _, _, _, _, _, _, _, _, hsz4⟩ := hsz
  intro f
  induction f with
  | zero => intro k s I2 L2 res _ _ _ _ _ _ _ _ he; cases he
  | succ f ih =>
    intro k s I2 L2 res hR i1 i2 l1 hn h3 h64 hk he
    rw [eC_s] at he
    by_cases e : last ≤ k
    · rw [if_pos e] at he
      obtain rfl : some s = res := by injection he
      refine g_iload d5_reckon_13 rfl ?_
      refine g_iload_n d5_reckon_15 rfl ?_
      refine g_ic_ge ((k : Nat) : Int) ((last : Nat) : Int) 201 (nI_ti (by omega)) (nI_ti (by omega)) d5_reckon_16 rfl (fun _ => ?_) (fun c16 => absurd c16 (by omega))
      refine g_lo [(0, .ref 30)] ⟨rfl, trivial⟩ ?_
      refine r5_30_ex I2 L2 (some s) i1 i2 l1 s.length hn h64 (by rw [h3]; rfl) (fun s2 hs => ?_)
      injection hs with hs
      subst hs
      match s, hR with
      | [], _ => exact Or.inl ⟨rfl, rfl⟩
      | a :: r, hR => exact Or.inr ⟨Nat.succ_pos _, hR.1⟩
    · rw [if_neg e] at he
      obtain ⟨v1, v2, ⟨v3, v4⟩, v5⟩ := hv k (by omega)
      rcases v3 with hs | ⟨hs, hw7⟩ | hs | hs | hs | hs | hs | hs | hs | hs | hs | hs | hs
      · -- 0
        have ho : cop st wi k = 0 := by unfold cop; rw [if_pos hs]
        have hg : carg st wi k = wi k := by unfold carg; rw [if_neg (by omega)]
        rw [sC_push (by omega)] at he
        by_cases hl : s.length < 64
        rotate_left
        · rw [if_neg hl] at he; cases he
        rw [if_pos hl, ho] at he
        rw [if_pos rfl, hg] at he
        refine g_iload d5_reckon_13 rfl ?_
        refine g_iload_n d5_reckon_15 rfl ?_
        refine g_ic_ge ((k : Nat) : Int) ((last : Nat) : Int) 201 (nI_ti (by omega)) (nI_ti (by omega)) d5_reckon_16 rfl (fun c16 => absurd c16 (by omega)) (fun _ => ?_)
        refine g_aload_n d5_reckon_19 rfl ?_
        refine g_get fl5_36 d5_reckon_20 f_30_3 ?_
        refine g_topI ((0 : Int32)) (h3) ?_
        refine g_iz_ne (0) 201 (by decide) d5_reckon_23 rfl (fun c23 => absurd c23 (by decide)) (fun _ => ?_)
        refine g_aload_n d5_reckon_26 rfl ?_
        refine g_get fl5_59 d5_reckon_27 (hX.f5) ?_
        refine g_iload d5_reckon_30 rfl ?_
        refine g_ialdN (k) d5_reckon_32 hX.a5 (rfl) (by omega) (by omega) ?_
        refine g_topI (nI 0) (by rw [v1, hs]) ?_
        refine g_istore d5_reckon_33 (by decide) ?_
        refine g_aload_n d5_reckon_35 rfl ?_
        refine g_get fl5_62 d5_reckon_36 (hX.f6) ?_
        refine g_iload d5_reckon_39 rfl ?_
        refine g_ialdN (k) d5_reckon_41 hX.a6 (rfl) (by omega) (by omega) ?_
        refine g_topI (nI (wi k)) (v2) ?_
        refine g_istore d5_reckon_42 (by decide) ?_
        refine g_iload d5_reckon_44 rfl ?_
        refine g_iz_eq (0) 55 (by decide) d5_reckon_46 rfl (fun _ => ?_) (fun c46 => absurd c46 (by decide))
        refine g_aload_n d5_reckon_55 rfl ?_
        refine g_iload d5_reckon_56 rfl ?_
        refine g_iload d5_reckon_58 rfl ?_
        refine g_VV2 vm5_push ml5_65 c_30 (r5_30_push0 (I := I2) (L := L2) s.length (wi k) hn hl (by omega) (Nat.le_refl 0)) (by omega) (Nat.le_of_ble_eq_true rfl) d5_reckon_60 ?_
        refine g_goto 195 d5_reckon_63 rfl ?_
        refine g_iincN d5_reckon_195 rfl (by decide) ?_
        refine g_goto 13 d5_reckon_198 rfl ?_
        refine g_lo [(0, .ref 30), (1, .ref T), (2, .int fr), (3, .int (nI last)), (4, .int (nI (k + 1)))] ⟨rfl, rfl, rfl, rfl, rfl, trivial⟩ ?_
        exact ih (k + 1) (lN (wi k) :: s) (uI I2 30 2 (nI (s.length + 1))) (uL L2 32 s.length (lN (wi k))) res ⟨by rw [uL_ss], by rw [uL_s]; exact RR_up (Nat.le_refl _) hR⟩ (fun c hc => by rw [uI_n hc]; exact i1 c hc) (fun j j1 j2 => by rw [uI_sn j1]; exact i2 j j1 j2) (fun c hc => by rw [uL_n hc]; exact l1 c hc) uI_ss (by rw [uI_sn (by decide)]; exact h3) hl (by omega) he
      · -- 1
        have ho : cop st wi k = wi k + 1 := by unfold cop; rw [if_neg (by omega), if_pos hs]
        rw [sC_push (by omega)] at he
        by_cases hl : s.length < 64
        rotate_left
        · rw [if_neg hl] at he; cases he
        rw [if_pos hl, ho] at he
        rw [if_neg (by omega), henv (wi k) hw7] at he
        refine g_iload d5_reckon_13 rfl ?_
        refine g_iload_n d5_reckon_15 rfl ?_
        refine g_ic_ge ((k : Nat) : Int) ((last : Nat) : Int) 201 (nI_ti (by omega)) (nI_ti (by omega)) d5_reckon_16 rfl (fun c16 => absurd c16 (by omega)) (fun _ => ?_)
        refine g_aload_n d5_reckon_19 rfl ?_
        refine g_get fl5_36 d5_reckon_20 f_30_3 ?_
        refine g_topI ((0 : Int32)) (h3) ?_
        refine g_iz_ne (0) 201 (by decide) d5_reckon_23 rfl (fun c23 => absurd c23 (by decide)) (fun _ => ?_)
        refine g_aload_n d5_reckon_26 rfl ?_
        refine g_get fl5_59 d5_reckon_27 (hX.f5) ?_
        refine g_iload d5_reckon_30 rfl ?_
        refine g_ialdN (k) d5_reckon_32 hX.a5 (rfl) (by omega) (by omega) ?_
        refine g_topI (nI 1) (by rw [v1, hs]) ?_
        refine g_istore d5_reckon_33 (by decide) ?_
        refine g_aload_n d5_reckon_35 rfl ?_
        refine g_get fl5_62 d5_reckon_36 (hX.f6) ?_
        refine g_iload d5_reckon_39 rfl ?_
        refine g_ialdN (k) d5_reckon_41 hX.a6 (rfl) (by omega) (by omega) ?_
        refine g_topI (nI (wi k)) (v2) ?_
        refine g_istore d5_reckon_42 (by decide) ?_
        refine g_iload d5_reckon_44 rfl ?_
        refine g_iz_eq (1) 55 (by decide) d5_reckon_46 rfl (fun c46 => absurd c46 (by decide)) (fun _ => ?_)
        refine g_iload d5_reckon_49 rfl ?_
        refine g_iconstv (nI 1) d5_reckon_51 rfl ?_
        refine g_ic_ne (1) (1) 66 (by decide) (by decide) d5_reckon_52 rfl (fun c52 => absurd c52 (by decide)) (fun _ => ?_)
        refine g_aload_n d5_reckon_55 rfl ?_
        refine g_iload d5_reckon_56 rfl ?_
        refine g_iload d5_reckon_58 rfl ?_
        refine g_VV2 vm5_push ml5_65 c_30 (r5_30_push1 (I := I2) (L := L2) s.length (wi k) hn hl (by omega) (Nat.le_refl 0)) (by omega) (Nat.le_of_ble_eq_true rfl) d5_reckon_60 ?_
        refine g_goto 195 d5_reckon_63 rfl ?_
        refine g_iincN d5_reckon_195 rfl (by decide) ?_
        refine g_goto 13 d5_reckon_198 rfl ?_
        refine g_lo [(0, .ref 30), (1, .ref T), (2, .int fr), (3, .int (nI last)), (4, .int (nI (k + 1)))] ⟨rfl, rfl, rfl, rfl, rfl, trivial⟩ ?_
        exact ih (k + 1) ((I 31 (wi k)).toInt64 :: s) (uI I2 30 2 (nI (s.length + 1))) (uL L2 32 s.length (I2 31 (wi k)).toInt64) res ⟨by rw [uL_ss]; rw [i1 31 (by decide)], by rw [uL_s]; exact RR_up (Nat.le_refl _) hR⟩ (fun c hc => by rw [uI_n hc]; exact i1 c hc) (fun j j1 j2 => by rw [uI_sn j1]; exact i2 j j1 j2) (fun c hc => by rw [uL_n hc]; exact l1 c hc) uI_ss (by rw [uI_sn (by decide)]; exact h3) hl (by omega) he
      · -- 2
        have ho : cop st wi k = 28 := by unfold cop; rw [if_neg (by omega)]; rw [if_neg (by omega)]; rw [if_pos hs]
        rw [sC_not ho] at he
        match s, he, hR, hn, h64 with
        | a :: r, he, hR, hn, h64 =>
        have hn : I2 30 2 = nI (r.length + 1) := hn
        have h64b : r.length + 1 ≤ 64 := h64
        refine g_iload d5_reckon_13 rfl ?_
        refine g_iload_n d5_reckon_15 rfl ?_
        refine g_ic_ge ((k : Nat) : Int) ((last : Nat) : Int) 201 (nI_ti (by omega)) (nI_ti (by omega)) d5_reckon_16 rfl (fun c16 => absurd c16 (by omega)) (fun _ => ?_)
        refine g_aload_n d5_reckon_19 rfl ?_
        refine g_get fl5_36 d5_reckon_20 f_30_3 ?_
        refine g_topI ((0 : Int32)) (h3) ?_
        refine g_iz_ne (0) 201 (by decide) d5_reckon_23 rfl (fun c23 => absurd c23 (by decide)) (fun _ => ?_)
        refine g_aload_n d5_reckon_26 rfl ?_
        refine g_get fl5_59 d5_reckon_27 (hX.f5) ?_
        refine g_iload d5_reckon_30 rfl ?_
        refine g_ialdN (k) d5_reckon_32 hX.a5 (rfl) (by omega) (by omega) ?_
        refine g_topI (nI 2) (by rw [v1, hs]) ?_
        refine g_istore d5_reckon_33 (by decide) ?_
        refine g_aload_n d5_reckon_35 rfl ?_
        refine g_get fl5_62 d5_reckon_36 (hX.f6) ?_
        refine g_iload d5_reckon_39 rfl ?_
        refine g_ialdN (k) d5_reckon_41 hX.a6 (rfl) (by omega) (by omega) ?_
        refine g_topI (nI (wi k)) (v2) ?_
        refine g_istore d5_reckon_42 (by decide) ?_
        refine g_iload d5_reckon_44 rfl ?_
        refine g_iz_eq (2) 55 (by decide) d5_reckon_46 rfl (fun c46 => absurd c46 (by decide)) (fun _ => ?_)
        refine g_iload d5_reckon_49 rfl ?_
        refine g_iconstv (nI 1) d5_reckon_51 rfl ?_
        refine g_ic_ne (2) (1) 66 (by decide) (by decide) d5_reckon_52 rfl (fun _ => ?_) (fun c52 => absurd c52 (by decide))
        refine g_aload_n d5_reckon_66 rfl ?_
        refine g_get fl5_56 d5_reckon_67 f_30_2 ?_
        refine g_topI (nI ((r.length + 1))) (hn) ?_
        refine g_iz_ne (((r.length + 1) : Nat) : Int) 81 (nI_ti (by omega)) d5_reckon_70 rfl (fun _ => ?_) (fun c70 => absurd c70 (by omega))
        refine g_iload d5_reckon_81 rfl ?_
        refine g_iconstv (nI 2) d5_reckon_83 rfl ?_
        refine g_ic_ne (2) (2) 114 (by decide) (by decide) d5_reckon_84 rfl (fun c84 => absurd c84 (by decide)) (fun _ => ?_)
        refine g_aload_n d5_reckon_87 rfl ?_
        refine g_get fl5_13 d5_reckon_88 f_30_1 ?_
        refine g_aload_n d5_reckon_91 rfl ?_
        refine g_get fl5_56 d5_reckon_92 f_30_2 ?_
        refine g_topI (nI ((r.length + 1))) (hn) ?_
        refine g_iconstv (nI 1) d5_reckon_95 rfl ?_
        refine g_isubN (by omega) d5_reckon_96 ?_
        refine g_topI (nI (r.length)) (rfl) ?_
        refine g_lconstv (1) d5_reckon_97 rfl ?_
        refine g_aload_n d5_reckon_98 rfl ?_
        refine g_get fl5_13 d5_reckon_99 f_30_1 ?_
        refine g_aload_n d5_reckon_102 rfl ?_
        refine g_get fl5_56 d5_reckon_103 f_30_2 ?_
        refine g_topI (nI ((r.length + 1))) (hn) ?_
        refine g_iconstv (nI 1) d5_reckon_106 rfl ?_
        refine g_isubN (by omega) d5_reckon_107 ?_
        refine g_topI (nI (r.length)) (rfl) ?_
        refine g_laldN (r.length) d5_reckon_108 a_32 (rfl) (by omega) (by decide) ?_
        refine g_topL (a) (hR.1) ?_
        refine g_lsub d5_reckon_109 ?_
        refine g_lastN (r.length) _ d5_reckon_110 a_32 (rfl) (by omega) (by decide) t_32 ?_
        refine g_goto 195 d5_reckon_111 rfl ?_
        refine g_iincN d5_reckon_195 rfl (by decide) ?_
        refine g_goto 13 d5_reckon_198 rfl ?_
        refine g_lo [(0, .ref 30), (1, .ref T), (2, .int fr), (3, .int (nI last)), (4, .int (nI (k + 1)))] ⟨rfl, rfl, rfl, rfl, rfl, trivial⟩ ?_
        exact ih (k + 1) ((1 - a) :: r) I2 (uL L2 32 r.length (1 - a)) res ⟨uL_ss, by rw [uL_s]; exact RR_up (Nat.le_refl _) hR.2⟩ i1 i2 (fun c hc => by rw [uL_n hc]; exact l1 c hc) hn h3 h64 (by omega) he
      · -- 3
        have ho : cop st wi k = 29 := by unfold cop; rw [if_neg (by omega)]; rw [if_neg (by omega)]; rw [if_neg (by omega)]; rw [if_pos hs]
        have hg : carg st wi k = wi k := by unfold carg; rw [if_neg (by omega)]
        have hlt := v5 (by omega)
        rw [sC_jmp (by omega), ho] at he
        match s, he, hR, hn, h64 with
        | a :: r, he, hR, hn, h64 =>
        have hn : I2 30 2 = nI (r.length + 1) := hn
        have h64b : r.length + 1 ≤ 64 := h64
        by_cases ea : a = 0
        · rw [hg] at he
          replace he : eC (cop st wi) (carg st wi) env last f (wi k) (a :: r) = some res := by dsimp only at he; rw [if_pos (show a = (if 29 = 29 then 0 else 1) from ea)] at he; exact he
          by_cases e2 : wi k - 1 ≤ k
          · skip
            refine g_iload d5_reckon_13 rfl ?_
            refine g_iload_n d5_reckon_15 rfl ?_
            refine g_ic_ge ((k : Nat) : Int) ((last : Nat) : Int) 201 (nI_ti (by omega)) (nI_ti (by omega)) d5_reckon_16 rfl (fun c16 => absurd c16 (by omega)) (fun _ => ?_)
            refine g_aload_n d5_reckon_19 rfl ?_
            refine g_get fl5_36 d5_reckon_20 f_30_3 ?_
            refine g_topI ((0 : Int32)) (h3) ?_
            refine g_iz_ne (0) 201 (by decide) d5_reckon_23 rfl (fun c23 => absurd c23 (by decide)) (fun _ => ?_)
            refine g_aload_n d5_reckon_26 rfl ?_
            refine g_get fl5_59 d5_reckon_27 (hX.f5) ?_
            refine g_iload d5_reckon_30 rfl ?_
            refine g_ialdN (k) d5_reckon_32 hX.a5 (rfl) (by omega) (by omega) ?_
            refine g_topI (nI 3) (by rw [v1, hs]) ?_
            refine g_istore d5_reckon_33 (by decide) ?_
            refine g_aload_n d5_reckon_35 rfl ?_
            refine g_get fl5_62 d5_reckon_36 (hX.f6) ?_
            refine g_iload d5_reckon_39 rfl ?_
            refine g_ialdN (k) d5_reckon_41 hX.a6 (rfl) (by omega) (by omega) ?_
            refine g_topI (nI (wi k)) (v2) ?_
            refine g_istore d5_reckon_42 (by decide) ?_
            refine g_iload d5_reckon_44 rfl ?_
            refine g_iz_eq (3) 55 (by decide) d5_reckon_46 rfl (fun c46 => absurd c46 (by decide)) (fun _ => ?_)
            refine g_iload d5_reckon_49 rfl ?_
            refine g_iconstv (nI 1) d5_reckon_51 rfl ?_
            refine g_ic_ne (3) (1) 66 (by decide) (by decide) d5_reckon_52 rfl (fun _ => ?_) (fun c52 => absurd c52 (by decide))
            refine g_aload_n d5_reckon_66 rfl ?_
            refine g_get fl5_56 d5_reckon_67 f_30_2 ?_
            refine g_topI (nI ((r.length + 1))) (hn) ?_
            refine g_iz_ne (((r.length + 1) : Nat) : Int) 81 (nI_ti (by omega)) d5_reckon_70 rfl (fun _ => ?_) (fun c70 => absurd c70 (by omega))
            refine g_iload d5_reckon_81 rfl ?_
            refine g_iconstv (nI 2) d5_reckon_83 rfl ?_
            refine g_ic_ne (3) (2) 114 (by decide) (by decide) d5_reckon_84 rfl (fun _ => ?_) (fun c84 => absurd c84 (by decide))
            refine g_iload d5_reckon_114 rfl ?_
            refine g_iconstv (nI 3) d5_reckon_116 rfl ?_
            refine g_ic_eq (3) (3) 135 (by decide) (by decide) d5_reckon_117 rfl (fun _ => ?_) (fun c117 => absurd c117 (by decide))
            refine g_aload_n d5_reckon_135 rfl ?_
            refine g_get fl5_13 d5_reckon_136 f_30_1 ?_
            refine g_aload_n d5_reckon_139 rfl ?_
            refine g_get fl5_56 d5_reckon_140 f_30_2 ?_
            refine g_topI (nI ((r.length + 1))) (hn) ?_
            refine g_iconstv (nI 1) d5_reckon_143 rfl ?_
            refine g_isubN (by omega) d5_reckon_144 ?_
            refine g_topI (nI (r.length)) (rfl) ?_
            refine g_laldN (r.length) d5_reckon_145 a_32 (rfl) (by omega) (by decide) ?_
            refine g_topL (a) (hR.1) ?_
            refine g_iload d5_reckon_146 rfl ?_
            refine g_iconstv (nI 4) d5_reckon_148 rfl ?_
            refine g_ic_ne (3) (4) 156 (by decide) (by decide) d5_reckon_149 rfl (fun _ => ?_) (fun c149 => absurd c149 (by decide))
            refine g_iconstv (nI 0) d5_reckon_156 rfl ?_
            refine g_i2l d5_reckon_157 ?_
            refine g_lx_ne a.toInt (0) 185 (rfl) ((i2l_int _).trans (by decide)) d5_reckon_158 d5_reckon_159 rfl (fun c158 => absurd c158 (fun z => z (by rw [ea]; rfl))) (fun _ => ?_)
            refine g_iload d5_reckon_162 rfl ?_
            refine g_iconstv (nI 1) d5_reckon_164 rfl ?_
            refine g_isubN (by omega) d5_reckon_165 ?_
            refine g_iload d5_reckon_166 rfl ?_
            refine g_ic_le (((wi k - 1) : Nat) : Int) ((k : Nat) : Int) 178 (nI_ti (by omega)) (nI_ti (by omega)) d5_reckon_168 rfl (fun _ => ?_) (fun c168 => absurd c168 (by omega))
            refine g_iload d5_reckon_178 rfl ?_
            refine g_istore d5_reckon_180 (by decide) ?_
            refine g_goto 195 d5_reckon_182 rfl ?_
            refine g_iincN d5_reckon_195 rfl (by decide) ?_
            refine g_goto 13 d5_reckon_198 rfl ?_
            refine g_lo [(0, .ref 30), (1, .ref T), (2, .int fr), (3, .int (nI last)), (4, .int (nI (wi k)))] ⟨rfl, rfl, rfl, rfl, by rw [show wi k = k + 1 by omega]; rfl, trivial⟩ ?_
            exact ih (wi k) (a :: r) I2 L2 res hR i1 i2 l1 hn h3 h64 (by omega) he
          · skip
            refine g_iload d5_reckon_13 rfl ?_
            refine g_iload_n d5_reckon_15 rfl ?_
            refine g_ic_ge ((k : Nat) : Int) ((last : Nat) : Int) 201 (nI_ti (by omega)) (nI_ti (by omega)) d5_reckon_16 rfl (fun c16 => absurd c16 (by omega)) (fun _ => ?_)
            refine g_aload_n d5_reckon_19 rfl ?_
            refine g_get fl5_36 d5_reckon_20 f_30_3 ?_
            refine g_topI ((0 : Int32)) (h3) ?_
            refine g_iz_ne (0) 201 (by decide) d5_reckon_23 rfl (fun c23 => absurd c23 (by decide)) (fun _ => ?_)
            refine g_aload_n d5_reckon_26 rfl ?_
            refine g_get fl5_59 d5_reckon_27 (hX.f5) ?_
            refine g_iload d5_reckon_30 rfl ?_
            refine g_ialdN (k) d5_reckon_32 hX.a5 (rfl) (by omega) (by omega) ?_
            refine g_topI (nI 3) (by rw [v1, hs]) ?_
            refine g_istore d5_reckon_33 (by decide) ?_
            refine g_aload_n d5_reckon_35 rfl ?_
            refine g_get fl5_62 d5_reckon_36 (hX.f6) ?_
            refine g_iload d5_reckon_39 rfl ?_
            refine g_ialdN (k) d5_reckon_41 hX.a6 (rfl) (by omega) (by omega) ?_
            refine g_topI (nI (wi k)) (v2) ?_
            refine g_istore d5_reckon_42 (by decide) ?_
            refine g_iload d5_reckon_44 rfl ?_
            refine g_iz_eq (3) 55 (by decide) d5_reckon_46 rfl (fun c46 => absurd c46 (by decide)) (fun _ => ?_)
            refine g_iload d5_reckon_49 rfl ?_
            refine g_iconstv (nI 1) d5_reckon_51 rfl ?_
            refine g_ic_ne (3) (1) 66 (by decide) (by decide) d5_reckon_52 rfl (fun _ => ?_) (fun c52 => absurd c52 (by decide))
            refine g_aload_n d5_reckon_66 rfl ?_
            refine g_get fl5_56 d5_reckon_67 f_30_2 ?_
            refine g_topI (nI ((r.length + 1))) (hn) ?_
            refine g_iz_ne (((r.length + 1) : Nat) : Int) 81 (nI_ti (by omega)) d5_reckon_70 rfl (fun _ => ?_) (fun c70 => absurd c70 (by omega))
            refine g_iload d5_reckon_81 rfl ?_
            refine g_iconstv (nI 2) d5_reckon_83 rfl ?_
            refine g_ic_ne (3) (2) 114 (by decide) (by decide) d5_reckon_84 rfl (fun _ => ?_) (fun c84 => absurd c84 (by decide))
            refine g_iload d5_reckon_114 rfl ?_
            refine g_iconstv (nI 3) d5_reckon_116 rfl ?_
            refine g_ic_eq (3) (3) 135 (by decide) (by decide) d5_reckon_117 rfl (fun _ => ?_) (fun c117 => absurd c117 (by decide))
            refine g_aload_n d5_reckon_135 rfl ?_
            refine g_get fl5_13 d5_reckon_136 f_30_1 ?_
            refine g_aload_n d5_reckon_139 rfl ?_
            refine g_get fl5_56 d5_reckon_140 f_30_2 ?_
            refine g_topI (nI ((r.length + 1))) (hn) ?_
            refine g_iconstv (nI 1) d5_reckon_143 rfl ?_
            refine g_isubN (by omega) d5_reckon_144 ?_
            refine g_topI (nI (r.length)) (rfl) ?_
            refine g_laldN (r.length) d5_reckon_145 a_32 (rfl) (by omega) (by decide) ?_
            refine g_topL (a) (hR.1) ?_
            refine g_iload d5_reckon_146 rfl ?_
            refine g_iconstv (nI 4) d5_reckon_148 rfl ?_
            refine g_ic_ne (3) (4) 156 (by decide) (by decide) d5_reckon_149 rfl (fun _ => ?_) (fun c149 => absurd c149 (by decide))
            refine g_iconstv (nI 0) d5_reckon_156 rfl ?_
            refine g_i2l d5_reckon_157 ?_
            refine g_lx_ne a.toInt (0) 185 (rfl) ((i2l_int _).trans (by decide)) d5_reckon_158 d5_reckon_159 rfl (fun c158 => absurd c158 (fun z => z (by rw [ea]; rfl))) (fun _ => ?_)
            refine g_iload d5_reckon_162 rfl ?_
            refine g_iconstv (nI 1) d5_reckon_164 rfl ?_
            refine g_isubN (by omega) d5_reckon_165 ?_
            refine g_iload d5_reckon_166 rfl ?_
            refine g_ic_le (((wi k - 1) : Nat) : Int) ((k : Nat) : Int) 178 (nI_ti (by omega)) (nI_ti (by omega)) d5_reckon_168 rfl (fun c168 => absurd c168 (by omega)) (fun _ => ?_)
            refine g_iload d5_reckon_171 rfl ?_
            refine g_iconstv (nI 1) d5_reckon_173 rfl ?_
            refine g_isubN (by omega) d5_reckon_174 ?_
            refine g_goto 180 d5_reckon_175 rfl ?_
            refine g_istore d5_reckon_180 (by decide) ?_
            refine g_goto 195 d5_reckon_182 rfl ?_
            refine g_iincN d5_reckon_195 rfl (by decide) ?_
            refine g_goto 13 d5_reckon_198 rfl ?_
            refine g_lo [(0, .ref 30), (1, .ref T), (2, .int fr), (3, .int (nI last)), (4, .int (nI (wi k)))] ⟨rfl, rfl, rfl, rfl, by rw [show wi k = wi k - 1 + 1 by omega]; rfl, trivial⟩ ?_
            exact ih (wi k) (a :: r) I2 L2 res hR i1 i2 l1 hn h3 h64 (by omega) he
        · replace he : eC (cop st wi) (carg st wi) env last f (k + 1) r = some res := by dsimp only at he; rw [if_neg (show ¬ a = (if 29 = 29 then 0 else 1) from ea)] at he; exact he
          refine g_iload d5_reckon_13 rfl ?_
          refine g_iload_n d5_reckon_15 rfl ?_
          refine g_ic_ge ((k : Nat) : Int) ((last : Nat) : Int) 201 (nI_ti (by omega)) (nI_ti (by omega)) d5_reckon_16 rfl (fun c16 => absurd c16 (by omega)) (fun _ => ?_)
          refine g_aload_n d5_reckon_19 rfl ?_
          refine g_get fl5_36 d5_reckon_20 f_30_3 ?_
          refine g_topI ((0 : Int32)) (h3) ?_
          refine g_iz_ne (0) 201 (by decide) d5_reckon_23 rfl (fun c23 => absurd c23 (by decide)) (fun _ => ?_)
          refine g_aload_n d5_reckon_26 rfl ?_
          refine g_get fl5_59 d5_reckon_27 (hX.f5) ?_
          refine g_iload d5_reckon_30 rfl ?_
          refine g_ialdN (k) d5_reckon_32 hX.a5 (rfl) (by omega) (by omega) ?_
          refine g_topI (nI 3) (by rw [v1, hs]) ?_
          refine g_istore d5_reckon_33 (by decide) ?_
          refine g_aload_n d5_reckon_35 rfl ?_
          refine g_get fl5_62 d5_reckon_36 (hX.f6) ?_
          refine g_iload d5_reckon_39 rfl ?_
          refine g_ialdN (k) d5_reckon_41 hX.a6 (rfl) (by omega) (by omega) ?_
          refine g_topI (nI (wi k)) (v2) ?_
          refine g_istore d5_reckon_42 (by decide) ?_
          refine g_iload d5_reckon_44 rfl ?_
          refine g_iz_eq (3) 55 (by decide) d5_reckon_46 rfl (fun c46 => absurd c46 (by decide)) (fun _ => ?_)
          refine g_iload d5_reckon_49 rfl ?_
          refine g_iconstv (nI 1) d5_reckon_51 rfl ?_
          refine g_ic_ne (3) (1) 66 (by decide) (by decide) d5_reckon_52 rfl (fun _ => ?_) (fun c52 => absurd c52 (by decide))
          refine g_aload_n d5_reckon_66 rfl ?_
          refine g_get fl5_56 d5_reckon_67 f_30_2 ?_
          refine g_topI (nI ((r.length + 1))) (hn) ?_
          refine g_iz_ne (((r.length + 1) : Nat) : Int) 81 (nI_ti (by omega)) d5_reckon_70 rfl (fun _ => ?_) (fun c70 => absurd c70 (by omega))
          refine g_iload d5_reckon_81 rfl ?_
          refine g_iconstv (nI 2) d5_reckon_83 rfl ?_
          refine g_ic_ne (3) (2) 114 (by decide) (by decide) d5_reckon_84 rfl (fun _ => ?_) (fun c84 => absurd c84 (by decide))
          refine g_iload d5_reckon_114 rfl ?_
          refine g_iconstv (nI 3) d5_reckon_116 rfl ?_
          refine g_ic_eq (3) (3) 135 (by decide) (by decide) d5_reckon_117 rfl (fun _ => ?_) (fun c117 => absurd c117 (by decide))
          refine g_aload_n d5_reckon_135 rfl ?_
          refine g_get fl5_13 d5_reckon_136 f_30_1 ?_
          refine g_aload_n d5_reckon_139 rfl ?_
          refine g_get fl5_56 d5_reckon_140 f_30_2 ?_
          refine g_topI (nI ((r.length + 1))) (hn) ?_
          refine g_iconstv (nI 1) d5_reckon_143 rfl ?_
          refine g_isubN (by omega) d5_reckon_144 ?_
          refine g_topI (nI (r.length)) (rfl) ?_
          refine g_laldN (r.length) d5_reckon_145 a_32 (rfl) (by omega) (by decide) ?_
          refine g_topL (a) (hR.1) ?_
          refine g_iload d5_reckon_146 rfl ?_
          refine g_iconstv (nI 4) d5_reckon_148 rfl ?_
          refine g_ic_ne (3) (4) 156 (by decide) (by decide) d5_reckon_149 rfl (fun _ => ?_) (fun c149 => absurd c149 (by decide))
          refine g_iconstv (nI 0) d5_reckon_156 rfl ?_
          refine g_i2l d5_reckon_157 ?_
          refine g_lx_ne a.toInt (0) 185 (rfl) ((i2l_int _).trans (by decide)) d5_reckon_158 d5_reckon_159 rfl (fun _ => ?_) (fun c158 => absurd c158 (fun z => ea (by rw [l_eq]; exact z)))
          refine g_aload_n d5_reckon_185 rfl ?_
          refine g_dup d5_reckon_186 rfl ?_
          refine g_get fl5_56 d5_reckon_187 f_30_2 ?_
          refine g_topI (nI ((r.length + 1))) (hn) ?_
          refine g_iconstv (nI 1) d5_reckon_190 rfl ?_
          refine g_isubN (by omega) d5_reckon_191 ?_
          refine g_topI (nI (r.length)) (rfl) ?_
          refine g_putIh _ fl5_56 d5_reckon_192 f_30_2 s_30_2 ?_
          refine g_iincN d5_reckon_195 rfl (by decide) ?_
          refine g_goto 13 d5_reckon_198 rfl ?_
          refine g_lo [(0, .ref 30), (1, .ref T), (2, .int fr), (3, .int (nI last)), (4, .int (nI (k + 1)))] ⟨rfl, rfl, rfl, rfl, rfl, trivial⟩ ?_
          exact ih (k + 1) r (uI I2 30 2 (nI r.length)) L2 res hR.2 (fun c hc => by rw [uI_n hc]; exact i1 c hc) (fun j j1 j2 => by rw [uI_sn j1]; exact i2 j j1 j2) l1 uI_ss (by rw [uI_sn (by decide)]; exact h3) (by omega) (by omega) he
      · -- 4
        have ho : cop st wi k = 30 := by unfold cop; rw [if_neg (by omega)]; rw [if_neg (by omega)]; rw [if_neg (by omega)]; rw [if_neg (by omega)]; rw [if_pos hs]
        have hg : carg st wi k = wi k := by unfold carg; rw [if_neg (by omega)]
        have hlt := v5 (by omega)
        rw [sC_jmp (by omega), ho] at he
        match s, he, hR, hn, h64 with
        | a :: r, he, hR, hn, h64 =>
        have hn : I2 30 2 = nI (r.length + 1) := hn
        have h64b : r.length + 1 ≤ 64 := h64
        by_cases ea : a = 1
        · rw [hg] at he
          replace he : eC (cop st wi) (carg st wi) env last f (wi k) (a :: r) = some res := by dsimp only at he; rw [if_pos (show a = (if 30 = 29 then 0 else 1) from ea)] at he; exact he
          by_cases e2 : wi k - 1 ≤ k
          · skip
            refine g_iload d5_reckon_13 rfl ?_
            refine g_iload_n d5_reckon_15 rfl ?_
            refine g_ic_ge ((k : Nat) : Int) ((last : Nat) : Int) 201 (nI_ti (by omega)) (nI_ti (by omega)) d5_reckon_16 rfl (fun c16 => absurd c16 (by omega)) (fun _ => ?_)
            refine g_aload_n d5_reckon_19 rfl ?_
            refine g_get fl5_36 d5_reckon_20 f_30_3 ?_
            refine g_topI ((0 : Int32)) (h3) ?_
            refine g_iz_ne (0) 201 (by decide) d5_reckon_23 rfl (fun c23 => absurd c23 (by decide)) (fun _ => ?_)
            refine g_aload_n d5_reckon_26 rfl ?_
            refine g_get fl5_59 d5_reckon_27 (hX.f5) ?_
            refine g_iload d5_reckon_30 rfl ?_
            refine g_ialdN (k) d5_reckon_32 hX.a5 (rfl) (by omega) (by omega) ?_
            refine g_topI (nI 4) (by rw [v1, hs]) ?_
            refine g_istore d5_reckon_33 (by decide) ?_
            refine g_aload_n d5_reckon_35 rfl ?_
            refine g_get fl5_62 d5_reckon_36 (hX.f6) ?_
            refine g_iload d5_reckon_39 rfl ?_
            refine g_ialdN (k) d5_reckon_41 hX.a6 (rfl) (by omega) (by omega) ?_
            refine g_topI (nI (wi k)) (v2) ?_
            refine g_istore d5_reckon_42 (by decide) ?_
            refine g_iload d5_reckon_44 rfl ?_
            refine g_iz_eq (4) 55 (by decide) d5_reckon_46 rfl (fun c46 => absurd c46 (by decide)) (fun _ => ?_)
            refine g_iload d5_reckon_49 rfl ?_
            refine g_iconstv (nI 1) d5_reckon_51 rfl ?_
            refine g_ic_ne (4) (1) 66 (by decide) (by decide) d5_reckon_52 rfl (fun _ => ?_) (fun c52 => absurd c52 (by decide))
            refine g_aload_n d5_reckon_66 rfl ?_
            refine g_get fl5_56 d5_reckon_67 f_30_2 ?_
            refine g_topI (nI ((r.length + 1))) (hn) ?_
            refine g_iz_ne (((r.length + 1) : Nat) : Int) 81 (nI_ti (by omega)) d5_reckon_70 rfl (fun _ => ?_) (fun c70 => absurd c70 (by omega))
            refine g_iload d5_reckon_81 rfl ?_
            refine g_iconstv (nI 2) d5_reckon_83 rfl ?_
            refine g_ic_ne (4) (2) 114 (by decide) (by decide) d5_reckon_84 rfl (fun _ => ?_) (fun c84 => absurd c84 (by decide))
            refine g_iload d5_reckon_114 rfl ?_
            refine g_iconstv (nI 3) d5_reckon_116 rfl ?_
            refine g_ic_eq (4) (3) 135 (by decide) (by decide) d5_reckon_117 rfl (fun c117 => absurd c117 (by decide)) (fun _ => ?_)
            refine g_iload d5_reckon_120 rfl ?_
            refine g_iconstv (nI 4) d5_reckon_122 rfl ?_
            refine g_ic_eq (4) (4) 135 (by decide) (by decide) d5_reckon_123 rfl (fun _ => ?_) (fun c123 => absurd c123 (by decide))
            refine g_aload_n d5_reckon_135 rfl ?_
            refine g_get fl5_13 d5_reckon_136 f_30_1 ?_
            refine g_aload_n d5_reckon_139 rfl ?_
            refine g_get fl5_56 d5_reckon_140 f_30_2 ?_
            refine g_topI (nI ((r.length + 1))) (hn) ?_
            refine g_iconstv (nI 1) d5_reckon_143 rfl ?_
            refine g_isubN (by omega) d5_reckon_144 ?_
            refine g_topI (nI (r.length)) (rfl) ?_
            refine g_laldN (r.length) d5_reckon_145 a_32 (rfl) (by omega) (by decide) ?_
            refine g_topL (a) (hR.1) ?_
            refine g_iload d5_reckon_146 rfl ?_
            refine g_iconstv (nI 4) d5_reckon_148 rfl ?_
            refine g_ic_ne (4) (4) 156 (by decide) (by decide) d5_reckon_149 rfl (fun c149 => absurd c149 (by decide)) (fun _ => ?_)
            refine g_iconstv (nI 1) d5_reckon_152 rfl ?_
            refine g_goto 157 d5_reckon_153 rfl ?_
            refine g_i2l d5_reckon_157 ?_
            refine g_lx_ne a.toInt (1) 185 (rfl) ((i2l_int _).trans (by decide)) d5_reckon_158 d5_reckon_159 rfl (fun c158 => absurd c158 (fun z => z (by rw [ea]; rfl))) (fun _ => ?_)
            refine g_iload d5_reckon_162 rfl ?_
            refine g_iconstv (nI 1) d5_reckon_164 rfl ?_
            refine g_isubN (by omega) d5_reckon_165 ?_
            refine g_iload d5_reckon_166 rfl ?_
            refine g_ic_le (((wi k - 1) : Nat) : Int) ((k : Nat) : Int) 178 (nI_ti (by omega)) (nI_ti (by omega)) d5_reckon_168 rfl (fun _ => ?_) (fun c168 => absurd c168 (by omega))
            refine g_iload d5_reckon_178 rfl ?_
            refine g_istore d5_reckon_180 (by decide) ?_
            refine g_goto 195 d5_reckon_182 rfl ?_
            refine g_iincN d5_reckon_195 rfl (by decide) ?_
            refine g_goto 13 d5_reckon_198 rfl ?_
            refine g_lo [(0, .ref 30), (1, .ref T), (2, .int fr), (3, .int (nI last)), (4, .int (nI (wi k)))] ⟨rfl, rfl, rfl, rfl, by rw [show wi k = k + 1 by omega]; rfl, trivial⟩ ?_
            exact ih (wi k) (a :: r) I2 L2 res hR i1 i2 l1 hn h3 h64 (by omega) he
          · skip
            refine g_iload d5_reckon_13 rfl ?_
            refine g_iload_n d5_reckon_15 rfl ?_
            refine g_ic_ge ((k : Nat) : Int) ((last : Nat) : Int) 201 (nI_ti (by omega)) (nI_ti (by omega)) d5_reckon_16 rfl (fun c16 => absurd c16 (by omega)) (fun _ => ?_)
            refine g_aload_n d5_reckon_19 rfl ?_
            refine g_get fl5_36 d5_reckon_20 f_30_3 ?_
            refine g_topI ((0 : Int32)) (h3) ?_
            refine g_iz_ne (0) 201 (by decide) d5_reckon_23 rfl (fun c23 => absurd c23 (by decide)) (fun _ => ?_)
            refine g_aload_n d5_reckon_26 rfl ?_
            refine g_get fl5_59 d5_reckon_27 (hX.f5) ?_
            refine g_iload d5_reckon_30 rfl ?_
            refine g_ialdN (k) d5_reckon_32 hX.a5 (rfl) (by omega) (by omega) ?_
            refine g_topI (nI 4) (by rw [v1, hs]) ?_
            refine g_istore d5_reckon_33 (by decide) ?_
            refine g_aload_n d5_reckon_35 rfl ?_
            refine g_get fl5_62 d5_reckon_36 (hX.f6) ?_
            refine g_iload d5_reckon_39 rfl ?_
            refine g_ialdN (k) d5_reckon_41 hX.a6 (rfl) (by omega) (by omega) ?_
            refine g_topI (nI (wi k)) (v2) ?_
            refine g_istore d5_reckon_42 (by decide) ?_
            refine g_iload d5_reckon_44 rfl ?_
            refine g_iz_eq (4) 55 (by decide) d5_reckon_46 rfl (fun c46 => absurd c46 (by decide)) (fun _ => ?_)
            refine g_iload d5_reckon_49 rfl ?_
            refine g_iconstv (nI 1) d5_reckon_51 rfl ?_
            refine g_ic_ne (4) (1) 66 (by decide) (by decide) d5_reckon_52 rfl (fun _ => ?_) (fun c52 => absurd c52 (by decide))
            refine g_aload_n d5_reckon_66 rfl ?_
            refine g_get fl5_56 d5_reckon_67 f_30_2 ?_
            refine g_topI (nI ((r.length + 1))) (hn) ?_
            refine g_iz_ne (((r.length + 1) : Nat) : Int) 81 (nI_ti (by omega)) d5_reckon_70 rfl (fun _ => ?_) (fun c70 => absurd c70 (by omega))
            refine g_iload d5_reckon_81 rfl ?_
            refine g_iconstv (nI 2) d5_reckon_83 rfl ?_
            refine g_ic_ne (4) (2) 114 (by decide) (by decide) d5_reckon_84 rfl (fun _ => ?_) (fun c84 => absurd c84 (by decide))
            refine g_iload d5_reckon_114 rfl ?_
            refine g_iconstv (nI 3) d5_reckon_116 rfl ?_
            refine g_ic_eq (4) (3) 135 (by decide) (by decide) d5_reckon_117 rfl (fun c117 => absurd c117 (by decide)) (fun _ => ?_)
            refine g_iload d5_reckon_120 rfl ?_
            refine g_iconstv (nI 4) d5_reckon_122 rfl ?_
            refine g_ic_eq (4) (4) 135 (by decide) (by decide) d5_reckon_123 rfl (fun _ => ?_) (fun c123 => absurd c123 (by decide))
            refine g_aload_n d5_reckon_135 rfl ?_
            refine g_get fl5_13 d5_reckon_136 f_30_1 ?_
            refine g_aload_n d5_reckon_139 rfl ?_
            refine g_get fl5_56 d5_reckon_140 f_30_2 ?_
            refine g_topI (nI ((r.length + 1))) (hn) ?_
            refine g_iconstv (nI 1) d5_reckon_143 rfl ?_
            refine g_isubN (by omega) d5_reckon_144 ?_
            refine g_topI (nI (r.length)) (rfl) ?_
            refine g_laldN (r.length) d5_reckon_145 a_32 (rfl) (by omega) (by decide) ?_
            refine g_topL (a) (hR.1) ?_
            refine g_iload d5_reckon_146 rfl ?_
            refine g_iconstv (nI 4) d5_reckon_148 rfl ?_
            refine g_ic_ne (4) (4) 156 (by decide) (by decide) d5_reckon_149 rfl (fun c149 => absurd c149 (by decide)) (fun _ => ?_)
            refine g_iconstv (nI 1) d5_reckon_152 rfl ?_
            refine g_goto 157 d5_reckon_153 rfl ?_
            refine g_i2l d5_reckon_157 ?_
            refine g_lx_ne a.toInt (1) 185 (rfl) ((i2l_int _).trans (by decide)) d5_reckon_158 d5_reckon_159 rfl (fun c158 => absurd c158 (fun z => z (by rw [ea]; rfl))) (fun _ => ?_)
            refine g_iload d5_reckon_162 rfl ?_
            refine g_iconstv (nI 1) d5_reckon_164 rfl ?_
            refine g_isubN (by omega) d5_reckon_165 ?_
            refine g_iload d5_reckon_166 rfl ?_
            refine g_ic_le (((wi k - 1) : Nat) : Int) ((k : Nat) : Int) 178 (nI_ti (by omega)) (nI_ti (by omega)) d5_reckon_168 rfl (fun c168 => absurd c168 (by omega)) (fun _ => ?_)
            refine g_iload d5_reckon_171 rfl ?_
            refine g_iconstv (nI 1) d5_reckon_173 rfl ?_
            refine g_isubN (by omega) d5_reckon_174 ?_
            refine g_goto 180 d5_reckon_175 rfl ?_
            refine g_istore d5_reckon_180 (by decide) ?_
            refine g_goto 195 d5_reckon_182 rfl ?_
            refine g_iincN d5_reckon_195 rfl (by decide) ?_
            refine g_goto 13 d5_reckon_198 rfl ?_
            refine g_lo [(0, .ref 30), (1, .ref T), (2, .int fr), (3, .int (nI last)), (4, .int (nI (wi k)))] ⟨rfl, rfl, rfl, rfl, by rw [show wi k = wi k - 1 + 1 by omega]; rfl, trivial⟩ ?_
            exact ih (wi k) (a :: r) I2 L2 res hR i1 i2 l1 hn h3 h64 (by omega) he
        · replace he : eC (cop st wi) (carg st wi) env last f (k + 1) r = some res := by dsimp only at he; rw [if_neg (show ¬ a = (if 30 = 29 then 0 else 1) from ea)] at he; exact he
          refine g_iload d5_reckon_13 rfl ?_
          refine g_iload_n d5_reckon_15 rfl ?_
          refine g_ic_ge ((k : Nat) : Int) ((last : Nat) : Int) 201 (nI_ti (by omega)) (nI_ti (by omega)) d5_reckon_16 rfl (fun c16 => absurd c16 (by omega)) (fun _ => ?_)
          refine g_aload_n d5_reckon_19 rfl ?_
          refine g_get fl5_36 d5_reckon_20 f_30_3 ?_
          refine g_topI ((0 : Int32)) (h3) ?_
          refine g_iz_ne (0) 201 (by decide) d5_reckon_23 rfl (fun c23 => absurd c23 (by decide)) (fun _ => ?_)
          refine g_aload_n d5_reckon_26 rfl ?_
          refine g_get fl5_59 d5_reckon_27 (hX.f5) ?_
          refine g_iload d5_reckon_30 rfl ?_
          refine g_ialdN (k) d5_reckon_32 hX.a5 (rfl) (by omega) (by omega) ?_
          refine g_topI (nI 4) (by rw [v1, hs]) ?_
          refine g_istore d5_reckon_33 (by decide) ?_
          refine g_aload_n d5_reckon_35 rfl ?_
          refine g_get fl5_62 d5_reckon_36 (hX.f6) ?_
          refine g_iload d5_reckon_39 rfl ?_
          refine g_ialdN (k) d5_reckon_41 hX.a6 (rfl) (by omega) (by omega) ?_
          refine g_topI (nI (wi k)) (v2) ?_
          refine g_istore d5_reckon_42 (by decide) ?_
          refine g_iload d5_reckon_44 rfl ?_
          refine g_iz_eq (4) 55 (by decide) d5_reckon_46 rfl (fun c46 => absurd c46 (by decide)) (fun _ => ?_)
          refine g_iload d5_reckon_49 rfl ?_
          refine g_iconstv (nI 1) d5_reckon_51 rfl ?_
          refine g_ic_ne (4) (1) 66 (by decide) (by decide) d5_reckon_52 rfl (fun _ => ?_) (fun c52 => absurd c52 (by decide))
          refine g_aload_n d5_reckon_66 rfl ?_
          refine g_get fl5_56 d5_reckon_67 f_30_2 ?_
          refine g_topI (nI ((r.length + 1))) (hn) ?_
          refine g_iz_ne (((r.length + 1) : Nat) : Int) 81 (nI_ti (by omega)) d5_reckon_70 rfl (fun _ => ?_) (fun c70 => absurd c70 (by omega))
          refine g_iload d5_reckon_81 rfl ?_
          refine g_iconstv (nI 2) d5_reckon_83 rfl ?_
          refine g_ic_ne (4) (2) 114 (by decide) (by decide) d5_reckon_84 rfl (fun _ => ?_) (fun c84 => absurd c84 (by decide))
          refine g_iload d5_reckon_114 rfl ?_
          refine g_iconstv (nI 3) d5_reckon_116 rfl ?_
          refine g_ic_eq (4) (3) 135 (by decide) (by decide) d5_reckon_117 rfl (fun c117 => absurd c117 (by decide)) (fun _ => ?_)
          refine g_iload d5_reckon_120 rfl ?_
          refine g_iconstv (nI 4) d5_reckon_122 rfl ?_
          refine g_ic_eq (4) (4) 135 (by decide) (by decide) d5_reckon_123 rfl (fun _ => ?_) (fun c123 => absurd c123 (by decide))
          refine g_aload_n d5_reckon_135 rfl ?_
          refine g_get fl5_13 d5_reckon_136 f_30_1 ?_
          refine g_aload_n d5_reckon_139 rfl ?_
          refine g_get fl5_56 d5_reckon_140 f_30_2 ?_
          refine g_topI (nI ((r.length + 1))) (hn) ?_
          refine g_iconstv (nI 1) d5_reckon_143 rfl ?_
          refine g_isubN (by omega) d5_reckon_144 ?_
          refine g_topI (nI (r.length)) (rfl) ?_
          refine g_laldN (r.length) d5_reckon_145 a_32 (rfl) (by omega) (by decide) ?_
          refine g_topL (a) (hR.1) ?_
          refine g_iload d5_reckon_146 rfl ?_
          refine g_iconstv (nI 4) d5_reckon_148 rfl ?_
          refine g_ic_ne (4) (4) 156 (by decide) (by decide) d5_reckon_149 rfl (fun c149 => absurd c149 (by decide)) (fun _ => ?_)
          refine g_iconstv (nI 1) d5_reckon_152 rfl ?_
          refine g_goto 157 d5_reckon_153 rfl ?_
          refine g_i2l d5_reckon_157 ?_
          refine g_lx_ne a.toInt (1) 185 (rfl) ((i2l_int _).trans (by decide)) d5_reckon_158 d5_reckon_159 rfl (fun _ => ?_) (fun c158 => absurd c158 (fun z => ea (by rw [l_eq]; exact z)))
          refine g_aload_n d5_reckon_185 rfl ?_
          refine g_dup d5_reckon_186 rfl ?_
          refine g_get fl5_56 d5_reckon_187 f_30_2 ?_
          refine g_topI (nI ((r.length + 1))) (hn) ?_
          refine g_iconstv (nI 1) d5_reckon_190 rfl ?_
          refine g_isubN (by omega) d5_reckon_191 ?_
          refine g_topI (nI (r.length)) (rfl) ?_
          refine g_putIh _ fl5_56 d5_reckon_192 f_30_2 s_30_2 ?_
          refine g_iincN d5_reckon_195 rfl (by decide) ?_
          refine g_goto 13 d5_reckon_198 rfl ?_
          refine g_lo [(0, .ref 30), (1, .ref T), (2, .int fr), (3, .int (nI last)), (4, .int (nI (k + 1)))] ⟨rfl, rfl, rfl, rfl, rfl, trivial⟩ ?_
          exact ih (k + 1) r (uI I2 30 2 (nI r.length)) L2 res hR.2 (fun c hc => by rw [uI_n hc]; exact i1 c hc) (fun j j1 j2 => by rw [uI_sn j1]; exact i2 j j1 j2) l1 uI_ss (by rw [uI_sn (by decide)]; exact h3) (by omega) (by omega) he
      · -- 43
        have ho : cop st wi k = 20 := by unfold cop; rw [if_neg (by omega)]; rw [if_neg (by omega)]; rw [if_neg (by omega)]; rw [if_neg (by omega)]; rw [if_neg (by omega)]; rw [if_pos hs]
        rw [sC_bin (by omega) (by omega), ho] at he
        match s, he, hR, hn, h64 with
        | b :: a :: r, he, hR, hn, h64 =>
        have hn : I2 30 2 = nI (r.length + 2) := hn
        have h64b : r.length + 2 ≤ 64 := h64
        have hRb : L2 32 (r.length + 2 - 1) = b := hR.1
        have hRa : L2 32 (r.length + 2 - 1 - 1) = a := hR.2.1
        have hax := arX_r (o := 20) (a := a) (b := b) (fun z => absurd z.1 (by decide))
        by_cases hin : -1000000000 ≤ (ar0 20 a b).toInt ∧ (ar0 20 a b).toInt ≤ 1000000000
        · replace he : eC (cop st wi) (carg st wi) env last f (k + 1) (ar0 20 a b :: r) = some res := by dsimp only at he; rw [if_neg (fun z => hax.1 z hin)] at he; exact he
          refine g_iload d5_reckon_13 rfl ?_
          refine g_iload_n d5_reckon_15 rfl ?_
          refine g_ic_ge ((k : Nat) : Int) ((last : Nat) : Int) 201 (nI_ti (by omega)) (nI_ti (by omega)) d5_reckon_16 rfl (fun c16 => absurd c16 (by omega)) (fun _ => ?_)
          refine g_aload_n d5_reckon_19 rfl ?_
          refine g_get fl5_36 d5_reckon_20 f_30_3 ?_
          refine g_topI ((0 : Int32)) (h3) ?_
          refine g_iz_ne (0) 201 (by decide) d5_reckon_23 rfl (fun c23 => absurd c23 (by decide)) (fun _ => ?_)
          refine g_aload_n d5_reckon_26 rfl ?_
          refine g_get fl5_59 d5_reckon_27 (hX.f5) ?_
          refine g_iload d5_reckon_30 rfl ?_
          refine g_ialdN (k) d5_reckon_32 hX.a5 (rfl) (by omega) (by omega) ?_
          refine g_topI (nI 43) (by rw [v1, hs]) ?_
          refine g_istore d5_reckon_33 (by decide) ?_
          refine g_aload_n d5_reckon_35 rfl ?_
          refine g_get fl5_62 d5_reckon_36 (hX.f6) ?_
          refine g_iload d5_reckon_39 rfl ?_
          refine g_ialdN (k) d5_reckon_41 hX.a6 (rfl) (by omega) (by omega) ?_
          refine g_topI (nI (wi k)) (v2) ?_
          refine g_istore d5_reckon_42 (by decide) ?_
          refine g_iload d5_reckon_44 rfl ?_
          refine g_iz_eq (43) 55 (by decide) d5_reckon_46 rfl (fun c46 => absurd c46 (by decide)) (fun _ => ?_)
          refine g_iload d5_reckon_49 rfl ?_
          refine g_iconstv (nI 1) d5_reckon_51 rfl ?_
          refine g_ic_ne (43) (1) 66 (by decide) (by decide) d5_reckon_52 rfl (fun _ => ?_) (fun c52 => absurd c52 (by decide))
          refine g_aload_n d5_reckon_66 rfl ?_
          refine g_get fl5_56 d5_reckon_67 f_30_2 ?_
          refine g_topI (nI ((r.length + 2))) (hn) ?_
          refine g_iz_ne (((r.length + 2) : Nat) : Int) 81 (nI_ti (by omega)) d5_reckon_70 rfl (fun _ => ?_) (fun c70 => absurd c70 (by omega))
          refine g_iload d5_reckon_81 rfl ?_
          refine g_iconstv (nI 2) d5_reckon_83 rfl ?_
          refine g_ic_ne (43) (2) 114 (by decide) (by decide) d5_reckon_84 rfl (fun _ => ?_) (fun c84 => absurd c84 (by decide))
          refine g_iload d5_reckon_114 rfl ?_
          refine g_iconstv (nI 3) d5_reckon_116 rfl ?_
          refine g_ic_eq (43) (3) 135 (by decide) (by decide) d5_reckon_117 rfl (fun c117 => absurd c117 (by decide)) (fun _ => ?_)
          refine g_iload d5_reckon_120 rfl ?_
          refine g_iconstv (nI 4) d5_reckon_122 rfl ?_
          refine g_ic_eq (43) (4) 135 (by decide) (by decide) d5_reckon_123 rfl (fun c123 => absurd c123 (by decide)) (fun _ => ?_)
          refine g_aload_n d5_reckon_126 rfl ?_
          refine g_iload d5_reckon_127 rfl ?_
          refine g_VV1 vm5_join ml5_69 c_30 (r5_30_j20 (I := I2) (L := L2) (r.length + 2) hn (by omega) h64b a b hRa hRb (Nat.le_refl 0)) (by omega) (Nat.le_of_ble_eq_true rfl) d5_reckon_129 ?_
          refine g_goto 195 d5_reckon_132 rfl ?_
          refine g_iincN d5_reckon_195 rfl (by decide) ?_
          refine g_goto 13 d5_reckon_198 rfl ?_
          refine g_lo [(0, .ref 30), (1, .ref T), (2, .int fr), (3, .int (nI last)), (4, .int (nI (k + 1)))] ⟨rfl, rfl, rfl, rfl, rfl, trivial⟩ ?_
          rw [if_pos hin]
          exact ih (k + 1) (ar0 20 a b :: r) _ _ res ⟨by rw [show r.length + 2 - 1 - 1 = r.length from rfl, uL_ss], by rw [uL_s]; exact RR_up (Nat.le_refl _) hR.2.2⟩ (fun c hc => by rw [uI_n hc, uI_n hc]; exact i1 c hc) (fun j j1 j2 => by rw [uI_sn j2, uI_sn j1]; exact i2 j j1 j2) (fun c hc => by rw [uL_n hc]; exact l1 c hc) (by rw [uI_sn (by decide), uI_ss]; rfl) uI_ss (by show r.length + 1 ≤ 64; omega) (by omega) he
        · replace he : some none = some res := by dsimp only at he; rw [if_pos (hax.2 hin)] at he; exact he
          obtain rfl : none = res := by injection he
          refine g_iload d5_reckon_13 rfl ?_
          refine g_iload_n d5_reckon_15 rfl ?_
          refine g_ic_ge ((k : Nat) : Int) ((last : Nat) : Int) 201 (nI_ti (by omega)) (nI_ti (by omega)) d5_reckon_16 rfl (fun c16 => absurd c16 (by omega)) (fun _ => ?_)
          refine g_aload_n d5_reckon_19 rfl ?_
          refine g_get fl5_36 d5_reckon_20 f_30_3 ?_
          refine g_topI ((0 : Int32)) (h3) ?_
          refine g_iz_ne (0) 201 (by decide) d5_reckon_23 rfl (fun c23 => absurd c23 (by decide)) (fun _ => ?_)
          refine g_aload_n d5_reckon_26 rfl ?_
          refine g_get fl5_59 d5_reckon_27 (hX.f5) ?_
          refine g_iload d5_reckon_30 rfl ?_
          refine g_ialdN (k) d5_reckon_32 hX.a5 (rfl) (by omega) (by omega) ?_
          refine g_topI (nI 43) (by rw [v1, hs]) ?_
          refine g_istore d5_reckon_33 (by decide) ?_
          refine g_aload_n d5_reckon_35 rfl ?_
          refine g_get fl5_62 d5_reckon_36 (hX.f6) ?_
          refine g_iload d5_reckon_39 rfl ?_
          refine g_ialdN (k) d5_reckon_41 hX.a6 (rfl) (by omega) (by omega) ?_
          refine g_topI (nI (wi k)) (v2) ?_
          refine g_istore d5_reckon_42 (by decide) ?_
          refine g_iload d5_reckon_44 rfl ?_
          refine g_iz_eq (43) 55 (by decide) d5_reckon_46 rfl (fun c46 => absurd c46 (by decide)) (fun _ => ?_)
          refine g_iload d5_reckon_49 rfl ?_
          refine g_iconstv (nI 1) d5_reckon_51 rfl ?_
          refine g_ic_ne (43) (1) 66 (by decide) (by decide) d5_reckon_52 rfl (fun _ => ?_) (fun c52 => absurd c52 (by decide))
          refine g_aload_n d5_reckon_66 rfl ?_
          refine g_get fl5_56 d5_reckon_67 f_30_2 ?_
          refine g_topI (nI ((r.length + 2))) (hn) ?_
          refine g_iz_ne (((r.length + 2) : Nat) : Int) 81 (nI_ti (by omega)) d5_reckon_70 rfl (fun _ => ?_) (fun c70 => absurd c70 (by omega))
          refine g_iload d5_reckon_81 rfl ?_
          refine g_iconstv (nI 2) d5_reckon_83 rfl ?_
          refine g_ic_ne (43) (2) 114 (by decide) (by decide) d5_reckon_84 rfl (fun _ => ?_) (fun c84 => absurd c84 (by decide))
          refine g_iload d5_reckon_114 rfl ?_
          refine g_iconstv (nI 3) d5_reckon_116 rfl ?_
          refine g_ic_eq (43) (3) 135 (by decide) (by decide) d5_reckon_117 rfl (fun c117 => absurd c117 (by decide)) (fun _ => ?_)
          refine g_iload d5_reckon_120 rfl ?_
          refine g_iconstv (nI 4) d5_reckon_122 rfl ?_
          refine g_ic_eq (43) (4) 135 (by decide) (by decide) d5_reckon_123 rfl (fun c123 => absurd c123 (by decide)) (fun _ => ?_)
          refine g_aload_n d5_reckon_126 rfl ?_
          refine g_iload d5_reckon_127 rfl ?_
          refine g_VV1 vm5_join ml5_69 c_30 (r5_30_j20 (I := I2) (L := L2) (r.length + 2) hn (by omega) h64b a b hRa hRb (Nat.le_refl 0)) (by omega) (Nat.le_of_ble_eq_true rfl) d5_reckon_129 ?_
          refine g_goto 195 d5_reckon_132 rfl ?_
          refine g_iincN d5_reckon_195 rfl (by decide) ?_
          refine g_goto 13 d5_reckon_198 rfl ?_
          refine g_lo [(0, .ref 30), (1, .ref T), (2, .int fr), (3, .int (nI last)), (4, .int (nI (k + 1)))] ⟨rfl, rfl, rfl, rfl, rfl, trivial⟩ ?_
          rw [if_neg hin]
          exact r5_30_bk _ _ (fun c hc => by rw [uI_n hc, uI_n hc]; exact i1 c hc) (fun j j1 j2 => by rw [uI_sn j2, uI_sn j1]; exact i2 j j1 j2) (fun c hc => by rw [uL_n hc]; exact l1 c hc) (r.length + 1) (by rw [uI_sn (by decide), uI_ss]; rfl) (by omega) uI_ss (k + 1) (by omega) (by omega) none rfl
      · -- 45
        have ho : cop st wi k = 21 := by unfold cop; rw [if_neg (by omega)]; rw [if_neg (by omega)]; rw [if_neg (by omega)]; rw [if_neg (by omega)]; rw [if_neg (by omega)]; rw [if_neg (by omega)]; rw [if_pos hs]
        rw [sC_bin (by omega) (by omega), ho] at he
        match s, he, hR, hn, h64 with
        | b :: a :: r, he, hR, hn, h64 =>
        have hn : I2 30 2 = nI (r.length + 2) := hn
        have h64b : r.length + 2 ≤ 64 := h64
        have hRb : L2 32 (r.length + 2 - 1) = b := hR.1
        have hRa : L2 32 (r.length + 2 - 1 - 1) = a := hR.2.1
        have hax := arX_r (o := 21) (a := a) (b := b) (fun z => absurd z.1 (by decide))
        by_cases hin : -1000000000 ≤ (ar0 21 a b).toInt ∧ (ar0 21 a b).toInt ≤ 1000000000
        · replace he : eC (cop st wi) (carg st wi) env last f (k + 1) (ar0 21 a b :: r) = some res := by dsimp only at he; rw [if_neg (fun z => hax.1 z hin)] at he; exact he
          refine g_iload d5_reckon_13 rfl ?_
          refine g_iload_n d5_reckon_15 rfl ?_
          refine g_ic_ge ((k : Nat) : Int) ((last : Nat) : Int) 201 (nI_ti (by omega)) (nI_ti (by omega)) d5_reckon_16 rfl (fun c16 => absurd c16 (by omega)) (fun _ => ?_)
          refine g_aload_n d5_reckon_19 rfl ?_
          refine g_get fl5_36 d5_reckon_20 f_30_3 ?_
          refine g_topI ((0 : Int32)) (h3) ?_
          refine g_iz_ne (0) 201 (by decide) d5_reckon_23 rfl (fun c23 => absurd c23 (by decide)) (fun _ => ?_)
          refine g_aload_n d5_reckon_26 rfl ?_
          refine g_get fl5_59 d5_reckon_27 (hX.f5) ?_
          refine g_iload d5_reckon_30 rfl ?_
          refine g_ialdN (k) d5_reckon_32 hX.a5 (rfl) (by omega) (by omega) ?_
          refine g_topI (nI 45) (by rw [v1, hs]) ?_
          refine g_istore d5_reckon_33 (by decide) ?_
          refine g_aload_n d5_reckon_35 rfl ?_
          refine g_get fl5_62 d5_reckon_36 (hX.f6) ?_
          refine g_iload d5_reckon_39 rfl ?_
          refine g_ialdN (k) d5_reckon_41 hX.a6 (rfl) (by omega) (by omega) ?_
          refine g_topI (nI (wi k)) (v2) ?_
          refine g_istore d5_reckon_42 (by decide) ?_
          refine g_iload d5_reckon_44 rfl ?_
          refine g_iz_eq (45) 55 (by decide) d5_reckon_46 rfl (fun c46 => absurd c46 (by decide)) (fun _ => ?_)
          refine g_iload d5_reckon_49 rfl ?_
          refine g_iconstv (nI 1) d5_reckon_51 rfl ?_
          refine g_ic_ne (45) (1) 66 (by decide) (by decide) d5_reckon_52 rfl (fun _ => ?_) (fun c52 => absurd c52 (by decide))
          refine g_aload_n d5_reckon_66 rfl ?_
          refine g_get fl5_56 d5_reckon_67 f_30_2 ?_
          refine g_topI (nI ((r.length + 2))) (hn) ?_
          refine g_iz_ne (((r.length + 2) : Nat) : Int) 81 (nI_ti (by omega)) d5_reckon_70 rfl (fun _ => ?_) (fun c70 => absurd c70 (by omega))
          refine g_iload d5_reckon_81 rfl ?_
          refine g_iconstv (nI 2) d5_reckon_83 rfl ?_
          refine g_ic_ne (45) (2) 114 (by decide) (by decide) d5_reckon_84 rfl (fun _ => ?_) (fun c84 => absurd c84 (by decide))
          refine g_iload d5_reckon_114 rfl ?_
          refine g_iconstv (nI 3) d5_reckon_116 rfl ?_
          refine g_ic_eq (45) (3) 135 (by decide) (by decide) d5_reckon_117 rfl (fun c117 => absurd c117 (by decide)) (fun _ => ?_)
          refine g_iload d5_reckon_120 rfl ?_
          refine g_iconstv (nI 4) d5_reckon_122 rfl ?_
          refine g_ic_eq (45) (4) 135 (by decide) (by decide) d5_reckon_123 rfl (fun c123 => absurd c123 (by decide)) (fun _ => ?_)
          refine g_aload_n d5_reckon_126 rfl ?_
          refine g_iload d5_reckon_127 rfl ?_
          refine g_VV1 vm5_join ml5_69 c_30 (r5_30_j21 (I := I2) (L := L2) (r.length + 2) hn (by omega) h64b a b hRa hRb (Nat.le_refl 0)) (by omega) (Nat.le_of_ble_eq_true rfl) d5_reckon_129 ?_
          refine g_goto 195 d5_reckon_132 rfl ?_
          refine g_iincN d5_reckon_195 rfl (by decide) ?_
          refine g_goto 13 d5_reckon_198 rfl ?_
          refine g_lo [(0, .ref 30), (1, .ref T), (2, .int fr), (3, .int (nI last)), (4, .int (nI (k + 1)))] ⟨rfl, rfl, rfl, rfl, rfl, trivial⟩ ?_
          rw [if_pos hin]
          exact ih (k + 1) (ar0 21 a b :: r) _ _ res ⟨by rw [show r.length + 2 - 1 - 1 = r.length from rfl, uL_ss], by rw [uL_s]; exact RR_up (Nat.le_refl _) hR.2.2⟩ (fun c hc => by rw [uI_n hc, uI_n hc]; exact i1 c hc) (fun j j1 j2 => by rw [uI_sn j2, uI_sn j1]; exact i2 j j1 j2) (fun c hc => by rw [uL_n hc]; exact l1 c hc) (by rw [uI_sn (by decide), uI_ss]; rfl) uI_ss (by show r.length + 1 ≤ 64; omega) (by omega) he
        · replace he : some none = some res := by dsimp only at he; rw [if_pos (hax.2 hin)] at he; exact he
          obtain rfl : none = res := by injection he
          refine g_iload d5_reckon_13 rfl ?_
          refine g_iload_n d5_reckon_15 rfl ?_
          refine g_ic_ge ((k : Nat) : Int) ((last : Nat) : Int) 201 (nI_ti (by omega)) (nI_ti (by omega)) d5_reckon_16 rfl (fun c16 => absurd c16 (by omega)) (fun _ => ?_)
          refine g_aload_n d5_reckon_19 rfl ?_
          refine g_get fl5_36 d5_reckon_20 f_30_3 ?_
          refine g_topI ((0 : Int32)) (h3) ?_
          refine g_iz_ne (0) 201 (by decide) d5_reckon_23 rfl (fun c23 => absurd c23 (by decide)) (fun _ => ?_)
          refine g_aload_n d5_reckon_26 rfl ?_
          refine g_get fl5_59 d5_reckon_27 (hX.f5) ?_
          refine g_iload d5_reckon_30 rfl ?_
          refine g_ialdN (k) d5_reckon_32 hX.a5 (rfl) (by omega) (by omega) ?_
          refine g_topI (nI 45) (by rw [v1, hs]) ?_
          refine g_istore d5_reckon_33 (by decide) ?_
          refine g_aload_n d5_reckon_35 rfl ?_
          refine g_get fl5_62 d5_reckon_36 (hX.f6) ?_
          refine g_iload d5_reckon_39 rfl ?_
          refine g_ialdN (k) d5_reckon_41 hX.a6 (rfl) (by omega) (by omega) ?_
          refine g_topI (nI (wi k)) (v2) ?_
          refine g_istore d5_reckon_42 (by decide) ?_
          refine g_iload d5_reckon_44 rfl ?_
          refine g_iz_eq (45) 55 (by decide) d5_reckon_46 rfl (fun c46 => absurd c46 (by decide)) (fun _ => ?_)
          refine g_iload d5_reckon_49 rfl ?_
          refine g_iconstv (nI 1) d5_reckon_51 rfl ?_
          refine g_ic_ne (45) (1) 66 (by decide) (by decide) d5_reckon_52 rfl (fun _ => ?_) (fun c52 => absurd c52 (by decide))
          refine g_aload_n d5_reckon_66 rfl ?_
          refine g_get fl5_56 d5_reckon_67 f_30_2 ?_
          refine g_topI (nI ((r.length + 2))) (hn) ?_
          refine g_iz_ne (((r.length + 2) : Nat) : Int) 81 (nI_ti (by omega)) d5_reckon_70 rfl (fun _ => ?_) (fun c70 => absurd c70 (by omega))
          refine g_iload d5_reckon_81 rfl ?_
          refine g_iconstv (nI 2) d5_reckon_83 rfl ?_
          refine g_ic_ne (45) (2) 114 (by decide) (by decide) d5_reckon_84 rfl (fun _ => ?_) (fun c84 => absurd c84 (by decide))
          refine g_iload d5_reckon_114 rfl ?_
          refine g_iconstv (nI 3) d5_reckon_116 rfl ?_
          refine g_ic_eq (45) (3) 135 (by decide) (by decide) d5_reckon_117 rfl (fun c117 => absurd c117 (by decide)) (fun _ => ?_)
          refine g_iload d5_reckon_120 rfl ?_
          refine g_iconstv (nI 4) d5_reckon_122 rfl ?_
          refine g_ic_eq (45) (4) 135 (by decide) (by decide) d5_reckon_123 rfl (fun c123 => absurd c123 (by decide)) (fun _ => ?_)
          refine g_aload_n d5_reckon_126 rfl ?_
          refine g_iload d5_reckon_127 rfl ?_
          refine g_VV1 vm5_join ml5_69 c_30 (r5_30_j21 (I := I2) (L := L2) (r.length + 2) hn (by omega) h64b a b hRa hRb (Nat.le_refl 0)) (by omega) (Nat.le_of_ble_eq_true rfl) d5_reckon_129 ?_
          refine g_goto 195 d5_reckon_132 rfl ?_
          refine g_iincN d5_reckon_195 rfl (by decide) ?_
          refine g_goto 13 d5_reckon_198 rfl ?_
          refine g_lo [(0, .ref 30), (1, .ref T), (2, .int fr), (3, .int (nI last)), (4, .int (nI (k + 1)))] ⟨rfl, rfl, rfl, rfl, rfl, trivial⟩ ?_
          rw [if_neg hin]
          exact r5_30_bk _ _ (fun c hc => by rw [uI_n hc, uI_n hc]; exact i1 c hc) (fun j j1 j2 => by rw [uI_sn j2, uI_sn j1]; exact i2 j j1 j2) (fun c hc => by rw [uL_n hc]; exact l1 c hc) (r.length + 1) (by rw [uI_sn (by decide), uI_ss]; rfl) (by omega) uI_ss (k + 1) (by omega) (by omega) none rfl
      · -- 42
        have ho : cop st wi k = 22 := by unfold cop; rw [if_neg (by omega)]; rw [if_neg (by omega)]; rw [if_neg (by omega)]; rw [if_neg (by omega)]; rw [if_neg (by omega)]; rw [if_neg (by omega)]; rw [if_neg (by omega)]; rw [if_pos hs]
        rw [sC_bin (by omega) (by omega), ho] at he
        match s, he, hR, hn, h64 with
        | b :: a :: r, he, hR, hn, h64 =>
        have hn : I2 30 2 = nI (r.length + 2) := hn
        have h64b : r.length + 2 ≤ 64 := h64
        have hRb : L2 32 (r.length + 2 - 1) = b := hR.1
        have hRa : L2 32 (r.length + 2 - 1 - 1) = a := hR.2.1
        have hax := arX_r (o := 22) (a := a) (b := b) (fun z => absurd z.1 (by decide))
        by_cases hin : -1000000000 ≤ (ar0 22 a b).toInt ∧ (ar0 22 a b).toInt ≤ 1000000000
        · replace he : eC (cop st wi) (carg st wi) env last f (k + 1) (ar0 22 a b :: r) = some res := by dsimp only at he; rw [if_neg (fun z => hax.1 z hin)] at he; exact he
          refine g_iload d5_reckon_13 rfl ?_
          refine g_iload_n d5_reckon_15 rfl ?_
          refine g_ic_ge ((k : Nat) : Int) ((last : Nat) : Int) 201 (nI_ti (by omega)) (nI_ti (by omega)) d5_reckon_16 rfl (fun c16 => absurd c16 (by omega)) (fun _ => ?_)
          refine g_aload_n d5_reckon_19 rfl ?_
          refine g_get fl5_36 d5_reckon_20 f_30_3 ?_
          refine g_topI ((0 : Int32)) (h3) ?_
          refine g_iz_ne (0) 201 (by decide) d5_reckon_23 rfl (fun c23 => absurd c23 (by decide)) (fun _ => ?_)
          refine g_aload_n d5_reckon_26 rfl ?_
          refine g_get fl5_59 d5_reckon_27 (hX.f5) ?_
          refine g_iload d5_reckon_30 rfl ?_
          refine g_ialdN (k) d5_reckon_32 hX.a5 (rfl) (by omega) (by omega) ?_
          refine g_topI (nI 42) (by rw [v1, hs]) ?_
          refine g_istore d5_reckon_33 (by decide) ?_
          refine g_aload_n d5_reckon_35 rfl ?_
          refine g_get fl5_62 d5_reckon_36 (hX.f6) ?_
          refine g_iload d5_reckon_39 rfl ?_
          refine g_ialdN (k) d5_reckon_41 hX.a6 (rfl) (by omega) (by omega) ?_
          refine g_topI (nI (wi k)) (v2) ?_
          refine g_istore d5_reckon_42 (by decide) ?_
          refine g_iload d5_reckon_44 rfl ?_
          refine g_iz_eq (42) 55 (by decide) d5_reckon_46 rfl (fun c46 => absurd c46 (by decide)) (fun _ => ?_)
          refine g_iload d5_reckon_49 rfl ?_
          refine g_iconstv (nI 1) d5_reckon_51 rfl ?_
          refine g_ic_ne (42) (1) 66 (by decide) (by decide) d5_reckon_52 rfl (fun _ => ?_) (fun c52 => absurd c52 (by decide))
          refine g_aload_n d5_reckon_66 rfl ?_
          refine g_get fl5_56 d5_reckon_67 f_30_2 ?_
          refine g_topI (nI ((r.length + 2))) (hn) ?_
          refine g_iz_ne (((r.length + 2) : Nat) : Int) 81 (nI_ti (by omega)) d5_reckon_70 rfl (fun _ => ?_) (fun c70 => absurd c70 (by omega))
          refine g_iload d5_reckon_81 rfl ?_
          refine g_iconstv (nI 2) d5_reckon_83 rfl ?_
          refine g_ic_ne (42) (2) 114 (by decide) (by decide) d5_reckon_84 rfl (fun _ => ?_) (fun c84 => absurd c84 (by decide))
          refine g_iload d5_reckon_114 rfl ?_
          refine g_iconstv (nI 3) d5_reckon_116 rfl ?_
          refine g_ic_eq (42) (3) 135 (by decide) (by decide) d5_reckon_117 rfl (fun c117 => absurd c117 (by decide)) (fun _ => ?_)
          refine g_iload d5_reckon_120 rfl ?_
          refine g_iconstv (nI 4) d5_reckon_122 rfl ?_
          refine g_ic_eq (42) (4) 135 (by decide) (by decide) d5_reckon_123 rfl (fun c123 => absurd c123 (by decide)) (fun _ => ?_)
          refine g_aload_n d5_reckon_126 rfl ?_
          refine g_iload d5_reckon_127 rfl ?_
          refine g_VV1 vm5_join ml5_69 c_30 (r5_30_j22 (I := I2) (L := L2) (r.length + 2) hn (by omega) h64b a b hRa hRb (Nat.le_refl 0)) (by omega) (Nat.le_of_ble_eq_true rfl) d5_reckon_129 ?_
          refine g_goto 195 d5_reckon_132 rfl ?_
          refine g_iincN d5_reckon_195 rfl (by decide) ?_
          refine g_goto 13 d5_reckon_198 rfl ?_
          refine g_lo [(0, .ref 30), (1, .ref T), (2, .int fr), (3, .int (nI last)), (4, .int (nI (k + 1)))] ⟨rfl, rfl, rfl, rfl, rfl, trivial⟩ ?_
          rw [if_pos hin]
          exact ih (k + 1) (ar0 22 a b :: r) _ _ res ⟨by rw [show r.length + 2 - 1 - 1 = r.length from rfl, uL_ss], by rw [uL_s]; exact RR_up (Nat.le_refl _) hR.2.2⟩ (fun c hc => by rw [uI_n hc, uI_n hc]; exact i1 c hc) (fun j j1 j2 => by rw [uI_sn j2, uI_sn j1]; exact i2 j j1 j2) (fun c hc => by rw [uL_n hc]; exact l1 c hc) (by rw [uI_sn (by decide), uI_ss]; rfl) uI_ss (by show r.length + 1 ≤ 64; omega) (by omega) he
        · replace he : some none = some res := by dsimp only at he; rw [if_pos (hax.2 hin)] at he; exact he
          obtain rfl : none = res := by injection he
          refine g_iload d5_reckon_13 rfl ?_
          refine g_iload_n d5_reckon_15 rfl ?_
          refine g_ic_ge ((k : Nat) : Int) ((last : Nat) : Int) 201 (nI_ti (by omega)) (nI_ti (by omega)) d5_reckon_16 rfl (fun c16 => absurd c16 (by omega)) (fun _ => ?_)
          refine g_aload_n d5_reckon_19 rfl ?_
          refine g_get fl5_36 d5_reckon_20 f_30_3 ?_
          refine g_topI ((0 : Int32)) (h3) ?_
          refine g_iz_ne (0) 201 (by decide) d5_reckon_23 rfl (fun c23 => absurd c23 (by decide)) (fun _ => ?_)
          refine g_aload_n d5_reckon_26 rfl ?_
          refine g_get fl5_59 d5_reckon_27 (hX.f5) ?_
          refine g_iload d5_reckon_30 rfl ?_
          refine g_ialdN (k) d5_reckon_32 hX.a5 (rfl) (by omega) (by omega) ?_
          refine g_topI (nI 42) (by rw [v1, hs]) ?_
          refine g_istore d5_reckon_33 (by decide) ?_
          refine g_aload_n d5_reckon_35 rfl ?_
          refine g_get fl5_62 d5_reckon_36 (hX.f6) ?_
          refine g_iload d5_reckon_39 rfl ?_
          refine g_ialdN (k) d5_reckon_41 hX.a6 (rfl) (by omega) (by omega) ?_
          refine g_topI (nI (wi k)) (v2) ?_
          refine g_istore d5_reckon_42 (by decide) ?_
          refine g_iload d5_reckon_44 rfl ?_
          refine g_iz_eq (42) 55 (by decide) d5_reckon_46 rfl (fun c46 => absurd c46 (by decide)) (fun _ => ?_)
          refine g_iload d5_reckon_49 rfl ?_
          refine g_iconstv (nI 1) d5_reckon_51 rfl ?_
          refine g_ic_ne (42) (1) 66 (by decide) (by decide) d5_reckon_52 rfl (fun _ => ?_) (fun c52 => absurd c52 (by decide))
          refine g_aload_n d5_reckon_66 rfl ?_
          refine g_get fl5_56 d5_reckon_67 f_30_2 ?_
          refine g_topI (nI ((r.length + 2))) (hn) ?_
          refine g_iz_ne (((r.length + 2) : Nat) : Int) 81 (nI_ti (by omega)) d5_reckon_70 rfl (fun _ => ?_) (fun c70 => absurd c70 (by omega))
          refine g_iload d5_reckon_81 rfl ?_
          refine g_iconstv (nI 2) d5_reckon_83 rfl ?_
          refine g_ic_ne (42) (2) 114 (by decide) (by decide) d5_reckon_84 rfl (fun _ => ?_) (fun c84 => absurd c84 (by decide))
          refine g_iload d5_reckon_114 rfl ?_
          refine g_iconstv (nI 3) d5_reckon_116 rfl ?_
          refine g_ic_eq (42) (3) 135 (by decide) (by decide) d5_reckon_117 rfl (fun c117 => absurd c117 (by decide)) (fun _ => ?_)
          refine g_iload d5_reckon_120 rfl ?_
          refine g_iconstv (nI 4) d5_reckon_122 rfl ?_
          refine g_ic_eq (42) (4) 135 (by decide) (by decide) d5_reckon_123 rfl (fun c123 => absurd c123 (by decide)) (fun _ => ?_)
          refine g_aload_n d5_reckon_126 rfl ?_
          refine g_iload d5_reckon_127 rfl ?_
          refine g_VV1 vm5_join ml5_69 c_30 (r5_30_j22 (I := I2) (L := L2) (r.length + 2) hn (by omega) h64b a b hRa hRb (Nat.le_refl 0)) (by omega) (Nat.le_of_ble_eq_true rfl) d5_reckon_129 ?_
          refine g_goto 195 d5_reckon_132 rfl ?_
          refine g_iincN d5_reckon_195 rfl (by decide) ?_
          refine g_goto 13 d5_reckon_198 rfl ?_
          refine g_lo [(0, .ref 30), (1, .ref T), (2, .int fr), (3, .int (nI last)), (4, .int (nI (k + 1)))] ⟨rfl, rfl, rfl, rfl, rfl, trivial⟩ ?_
          rw [if_neg hin]
          exact r5_30_bk _ _ (fun c hc => by rw [uI_n hc, uI_n hc]; exact i1 c hc) (fun j j1 j2 => by rw [uI_sn j2, uI_sn j1]; exact i2 j j1 j2) (fun c hc => by rw [uL_n hc]; exact l1 c hc) (r.length + 1) (by rw [uI_sn (by decide), uI_ss]; rfl) (by omega) uI_ss (k + 1) (by omega) (by omega) none rfl
      · -- 47
        have ho : cop st wi k = 23 := by unfold cop; rw [if_neg (by omega)]; rw [if_neg (by omega)]; rw [if_neg (by omega)]; rw [if_neg (by omega)]; rw [if_neg (by omega)]; rw [if_neg (by omega)]; rw [if_neg (by omega)]; rw [if_neg (by omega)]; rw [if_pos hs]
        rw [sC_bin (by omega) (by omega), ho] at he
        match s, he, hR, hn, h64 with
        | b :: a :: r, he, hR, hn, h64 =>
        have hn : I2 30 2 = nI (r.length + 2) := hn
        have h64b : r.length + 2 ≤ 64 := h64
        have hRb : L2 32 (r.length + 2 - 1) = b := hR.1
        have hRa : L2 32 (r.length + 2 - 1 - 1) = a := hR.2.1
        by_cases hb0 : b = 0
        · replace he : some none = some res := by dsimp only at he; rw [if_pos (Or.inl ⟨by decide, hb0⟩)] at he; exact he
          obtain rfl : none = res := by injection he
          refine g_iload d5_reckon_13 rfl ?_
          refine g_iload_n d5_reckon_15 rfl ?_
          refine g_ic_ge ((k : Nat) : Int) ((last : Nat) : Int) 201 (nI_ti (by omega)) (nI_ti (by omega)) d5_reckon_16 rfl (fun c16 => absurd c16 (by omega)) (fun _ => ?_)
          refine g_aload_n d5_reckon_19 rfl ?_
          refine g_get fl5_36 d5_reckon_20 f_30_3 ?_
          refine g_topI ((0 : Int32)) (h3) ?_
          refine g_iz_ne (0) 201 (by decide) d5_reckon_23 rfl (fun c23 => absurd c23 (by decide)) (fun _ => ?_)
          refine g_aload_n d5_reckon_26 rfl ?_
          refine g_get fl5_59 d5_reckon_27 (hX.f5) ?_
          refine g_iload d5_reckon_30 rfl ?_
          refine g_ialdN (k) d5_reckon_32 hX.a5 (rfl) (by omega) (by omega) ?_
          refine g_topI (nI 47) (by rw [v1, hs]) ?_
          refine g_istore d5_reckon_33 (by decide) ?_
          refine g_aload_n d5_reckon_35 rfl ?_
          refine g_get fl5_62 d5_reckon_36 (hX.f6) ?_
          refine g_iload d5_reckon_39 rfl ?_
          refine g_ialdN (k) d5_reckon_41 hX.a6 (rfl) (by omega) (by omega) ?_
          refine g_topI (nI (wi k)) (v2) ?_
          refine g_istore d5_reckon_42 (by decide) ?_
          refine g_iload d5_reckon_44 rfl ?_
          refine g_iz_eq (47) 55 (by decide) d5_reckon_46 rfl (fun c46 => absurd c46 (by decide)) (fun _ => ?_)
          refine g_iload d5_reckon_49 rfl ?_
          refine g_iconstv (nI 1) d5_reckon_51 rfl ?_
          refine g_ic_ne (47) (1) 66 (by decide) (by decide) d5_reckon_52 rfl (fun _ => ?_) (fun c52 => absurd c52 (by decide))
          refine g_aload_n d5_reckon_66 rfl ?_
          refine g_get fl5_56 d5_reckon_67 f_30_2 ?_
          refine g_topI (nI ((r.length + 2))) (hn) ?_
          refine g_iz_ne (((r.length + 2) : Nat) : Int) 81 (nI_ti (by omega)) d5_reckon_70 rfl (fun _ => ?_) (fun c70 => absurd c70 (by omega))
          refine g_iload d5_reckon_81 rfl ?_
          refine g_iconstv (nI 2) d5_reckon_83 rfl ?_
          refine g_ic_ne (47) (2) 114 (by decide) (by decide) d5_reckon_84 rfl (fun _ => ?_) (fun c84 => absurd c84 (by decide))
          refine g_iload d5_reckon_114 rfl ?_
          refine g_iconstv (nI 3) d5_reckon_116 rfl ?_
          refine g_ic_eq (47) (3) 135 (by decide) (by decide) d5_reckon_117 rfl (fun c117 => absurd c117 (by decide)) (fun _ => ?_)
          refine g_iload d5_reckon_120 rfl ?_
          refine g_iconstv (nI 4) d5_reckon_122 rfl ?_
          refine g_ic_eq (47) (4) 135 (by decide) (by decide) d5_reckon_123 rfl (fun c123 => absurd c123 (by decide)) (fun _ => ?_)
          refine g_aload_n d5_reckon_126 rfl ?_
          refine g_iload d5_reckon_127 rfl ?_
          refine g_VV1 vm5_join ml5_69 c_30 (r5_30_jz23 (I := I2) (L := L2) (r.length + 2) hn (by omega) h64b a b hRa hRb hb0 (Nat.le_refl 0)) (by omega) (Nat.le_of_ble_eq_true rfl) d5_reckon_129 ?_
          refine g_goto 195 d5_reckon_132 rfl ?_
          refine g_iincN d5_reckon_195 rfl (by decide) ?_
          refine g_goto 13 d5_reckon_198 rfl ?_
          refine g_lo [(0, .ref 30), (1, .ref T), (2, .int fr), (3, .int (nI last)), (4, .int (nI (k + 1)))] ⟨rfl, rfl, rfl, rfl, rfl, trivial⟩ ?_
          exact r5_30_bk _ L2 (fun c hc => by rw [uI_n hc, uI_n hc]; exact i1 c hc) (fun j j1 j2 => by rw [uI_sn j2, uI_sn j1]; exact i2 j j1 j2) l1 (r.length + 1) (by rw [uI_sn (by decide), uI_ss]; rfl) (by omega) uI_ss (k + 1) (by omega) (by omega) none rfl
        have hax := arX_r (o := 23) (a := a) (b := b) (fun z => hb0 z.2)
        by_cases hin : -1000000000 ≤ (ar0 23 a b).toInt ∧ (ar0 23 a b).toInt ≤ 1000000000
        · replace he : eC (cop st wi) (carg st wi) env last f (k + 1) (ar0 23 a b :: r) = some res := by dsimp only at he; rw [if_neg (fun z => hax.1 z hin)] at he; exact he
          refine g_iload d5_reckon_13 rfl ?_
          refine g_iload_n d5_reckon_15 rfl ?_
          refine g_ic_ge ((k : Nat) : Int) ((last : Nat) : Int) 201 (nI_ti (by omega)) (nI_ti (by omega)) d5_reckon_16 rfl (fun c16 => absurd c16 (by omega)) (fun _ => ?_)
          refine g_aload_n d5_reckon_19 rfl ?_
          refine g_get fl5_36 d5_reckon_20 f_30_3 ?_
          refine g_topI ((0 : Int32)) (h3) ?_
          refine g_iz_ne (0) 201 (by decide) d5_reckon_23 rfl (fun c23 => absurd c23 (by decide)) (fun _ => ?_)
          refine g_aload_n d5_reckon_26 rfl ?_
          refine g_get fl5_59 d5_reckon_27 (hX.f5) ?_
          refine g_iload d5_reckon_30 rfl ?_
          refine g_ialdN (k) d5_reckon_32 hX.a5 (rfl) (by omega) (by omega) ?_
          refine g_topI (nI 47) (by rw [v1, hs]) ?_
          refine g_istore d5_reckon_33 (by decide) ?_
          refine g_aload_n d5_reckon_35 rfl ?_
          refine g_get fl5_62 d5_reckon_36 (hX.f6) ?_
          refine g_iload d5_reckon_39 rfl ?_
          refine g_ialdN (k) d5_reckon_41 hX.a6 (rfl) (by omega) (by omega) ?_
          refine g_topI (nI (wi k)) (v2) ?_
          refine g_istore d5_reckon_42 (by decide) ?_
          refine g_iload d5_reckon_44 rfl ?_
          refine g_iz_eq (47) 55 (by decide) d5_reckon_46 rfl (fun c46 => absurd c46 (by decide)) (fun _ => ?_)
          refine g_iload d5_reckon_49 rfl ?_
          refine g_iconstv (nI 1) d5_reckon_51 rfl ?_
          refine g_ic_ne (47) (1) 66 (by decide) (by decide) d5_reckon_52 rfl (fun _ => ?_) (fun c52 => absurd c52 (by decide))
          refine g_aload_n d5_reckon_66 rfl ?_
          refine g_get fl5_56 d5_reckon_67 f_30_2 ?_
          refine g_topI (nI ((r.length + 2))) (hn) ?_
          refine g_iz_ne (((r.length + 2) : Nat) : Int) 81 (nI_ti (by omega)) d5_reckon_70 rfl (fun _ => ?_) (fun c70 => absurd c70 (by omega))
          refine g_iload d5_reckon_81 rfl ?_
          refine g_iconstv (nI 2) d5_reckon_83 rfl ?_
          refine g_ic_ne (47) (2) 114 (by decide) (by decide) d5_reckon_84 rfl (fun _ => ?_) (fun c84 => absurd c84 (by decide))
          refine g_iload d5_reckon_114 rfl ?_
          refine g_iconstv (nI 3) d5_reckon_116 rfl ?_
          refine g_ic_eq (47) (3) 135 (by decide) (by decide) d5_reckon_117 rfl (fun c117 => absurd c117 (by decide)) (fun _ => ?_)
          refine g_iload d5_reckon_120 rfl ?_
          refine g_iconstv (nI 4) d5_reckon_122 rfl ?_
          refine g_ic_eq (47) (4) 135 (by decide) (by decide) d5_reckon_123 rfl (fun c123 => absurd c123 (by decide)) (fun _ => ?_)
          refine g_aload_n d5_reckon_126 rfl ?_
          refine g_iload d5_reckon_127 rfl ?_
          refine g_VV1 vm5_join ml5_69 c_30 (r5_30_j23 (I := I2) (L := L2) (r.length + 2) hn (by omega) h64b a b hRa hRb hb0 (Nat.le_refl 0)) (by omega) (Nat.le_of_ble_eq_true rfl) d5_reckon_129 ?_
          refine g_goto 195 d5_reckon_132 rfl ?_
          refine g_iincN d5_reckon_195 rfl (by decide) ?_
          refine g_goto 13 d5_reckon_198 rfl ?_
          refine g_lo [(0, .ref 30), (1, .ref T), (2, .int fr), (3, .int (nI last)), (4, .int (nI (k + 1)))] ⟨rfl, rfl, rfl, rfl, rfl, trivial⟩ ?_
          rw [if_pos hin]
          exact ih (k + 1) (ar0 23 a b :: r) _ _ res ⟨by rw [show r.length + 2 - 1 - 1 = r.length from rfl, uL_ss], by rw [uL_s]; exact RR_up (Nat.le_refl _) hR.2.2⟩ (fun c hc => by rw [uI_n hc, uI_n hc]; exact i1 c hc) (fun j j1 j2 => by rw [uI_sn j2, uI_sn j1]; exact i2 j j1 j2) (fun c hc => by rw [uL_n hc]; exact l1 c hc) (by rw [uI_sn (by decide), uI_ss]; rfl) uI_ss (by show r.length + 1 ≤ 64; omega) (by omega) he
        · replace he : some none = some res := by dsimp only at he; rw [if_pos (hax.2 hin)] at he; exact he
          obtain rfl : none = res := by injection he
          refine g_iload d5_reckon_13 rfl ?_
          refine g_iload_n d5_reckon_15 rfl ?_
          refine g_ic_ge ((k : Nat) : Int) ((last : Nat) : Int) 201 (nI_ti (by omega)) (nI_ti (by omega)) d5_reckon_16 rfl (fun c16 => absurd c16 (by omega)) (fun _ => ?_)
          refine g_aload_n d5_reckon_19 rfl ?_
          refine g_get fl5_36 d5_reckon_20 f_30_3 ?_
          refine g_topI ((0 : Int32)) (h3) ?_
          refine g_iz_ne (0) 201 (by decide) d5_reckon_23 rfl (fun c23 => absurd c23 (by decide)) (fun _ => ?_)
          refine g_aload_n d5_reckon_26 rfl ?_
          refine g_get fl5_59 d5_reckon_27 (hX.f5) ?_
          refine g_iload d5_reckon_30 rfl ?_
          refine g_ialdN (k) d5_reckon_32 hX.a5 (rfl) (by omega) (by omega) ?_
          refine g_topI (nI 47) (by rw [v1, hs]) ?_
          refine g_istore d5_reckon_33 (by decide) ?_
          refine g_aload_n d5_reckon_35 rfl ?_
          refine g_get fl5_62 d5_reckon_36 (hX.f6) ?_
          refine g_iload d5_reckon_39 rfl ?_
          refine g_ialdN (k) d5_reckon_41 hX.a6 (rfl) (by omega) (by omega) ?_
          refine g_topI (nI (wi k)) (v2) ?_
          refine g_istore d5_reckon_42 (by decide) ?_
          refine g_iload d5_reckon_44 rfl ?_
          refine g_iz_eq (47) 55 (by decide) d5_reckon_46 rfl (fun c46 => absurd c46 (by decide)) (fun _ => ?_)
          refine g_iload d5_reckon_49 rfl ?_
          refine g_iconstv (nI 1) d5_reckon_51 rfl ?_
          refine g_ic_ne (47) (1) 66 (by decide) (by decide) d5_reckon_52 rfl (fun _ => ?_) (fun c52 => absurd c52 (by decide))
          refine g_aload_n d5_reckon_66 rfl ?_
          refine g_get fl5_56 d5_reckon_67 f_30_2 ?_
          refine g_topI (nI ((r.length + 2))) (hn) ?_
          refine g_iz_ne (((r.length + 2) : Nat) : Int) 81 (nI_ti (by omega)) d5_reckon_70 rfl (fun _ => ?_) (fun c70 => absurd c70 (by omega))
          refine g_iload d5_reckon_81 rfl ?_
          refine g_iconstv (nI 2) d5_reckon_83 rfl ?_
          refine g_ic_ne (47) (2) 114 (by decide) (by decide) d5_reckon_84 rfl (fun _ => ?_) (fun c84 => absurd c84 (by decide))
          refine g_iload d5_reckon_114 rfl ?_
          refine g_iconstv (nI 3) d5_reckon_116 rfl ?_
          refine g_ic_eq (47) (3) 135 (by decide) (by decide) d5_reckon_117 rfl (fun c117 => absurd c117 (by decide)) (fun _ => ?_)
          refine g_iload d5_reckon_120 rfl ?_
          refine g_iconstv (nI 4) d5_reckon_122 rfl ?_
          refine g_ic_eq (47) (4) 135 (by decide) (by decide) d5_reckon_123 rfl (fun c123 => absurd c123 (by decide)) (fun _ => ?_)
          refine g_aload_n d5_reckon_126 rfl ?_
          refine g_iload d5_reckon_127 rfl ?_
          refine g_VV1 vm5_join ml5_69 c_30 (r5_30_j23 (I := I2) (L := L2) (r.length + 2) hn (by omega) h64b a b hRa hRb hb0 (Nat.le_refl 0)) (by omega) (Nat.le_of_ble_eq_true rfl) d5_reckon_129 ?_
          refine g_goto 195 d5_reckon_132 rfl ?_
          refine g_iincN d5_reckon_195 rfl (by decide) ?_
          refine g_goto 13 d5_reckon_198 rfl ?_
          refine g_lo [(0, .ref 30), (1, .ref T), (2, .int fr), (3, .int (nI last)), (4, .int (nI (k + 1)))] ⟨rfl, rfl, rfl, rfl, rfl, trivial⟩ ?_
          rw [if_neg hin]
          exact r5_30_bk _ _ (fun c hc => by rw [uI_n hc, uI_n hc]; exact i1 c hc) (fun j j1 j2 => by rw [uI_sn j2, uI_sn j1]; exact i2 j j1 j2) (fun c hc => by rw [uL_n hc]; exact l1 c hc) (r.length + 1) (by rw [uI_sn (by decide), uI_ss]; rfl) (by omega) uI_ss (k + 1) (by omega) (by omega) none rfl
      · -- 37
        have ho : cop st wi k = 24 := by unfold cop; rw [if_neg (by omega)]; rw [if_neg (by omega)]; rw [if_neg (by omega)]; rw [if_neg (by omega)]; rw [if_neg (by omega)]; rw [if_neg (by omega)]; rw [if_neg (by omega)]; rw [if_neg (by omega)]; rw [if_neg (by omega)]; rw [if_pos hs]
        rw [sC_bin (by omega) (by omega), ho] at he
        match s, he, hR, hn, h64 with
        | b :: a :: r, he, hR, hn, h64 =>
        have hn : I2 30 2 = nI (r.length + 2) := hn
        have h64b : r.length + 2 ≤ 64 := h64
        have hRb : L2 32 (r.length + 2 - 1) = b := hR.1
        have hRa : L2 32 (r.length + 2 - 1 - 1) = a := hR.2.1
        by_cases hb0 : b = 0
        · replace he : some none = some res := by dsimp only at he; rw [if_pos (Or.inl ⟨by decide, hb0⟩)] at he; exact he
          obtain rfl : none = res := by injection he
          refine g_iload d5_reckon_13 rfl ?_
          refine g_iload_n d5_reckon_15 rfl ?_
          refine g_ic_ge ((k : Nat) : Int) ((last : Nat) : Int) 201 (nI_ti (by omega)) (nI_ti (by omega)) d5_reckon_16 rfl (fun c16 => absurd c16 (by omega)) (fun _ => ?_)
          refine g_aload_n d5_reckon_19 rfl ?_
          refine g_get fl5_36 d5_reckon_20 f_30_3 ?_
          refine g_topI ((0 : Int32)) (h3) ?_
          refine g_iz_ne (0) 201 (by decide) d5_reckon_23 rfl (fun c23 => absurd c23 (by decide)) (fun _ => ?_)
          refine g_aload_n d5_reckon_26 rfl ?_
          refine g_get fl5_59 d5_reckon_27 (hX.f5) ?_
          refine g_iload d5_reckon_30 rfl ?_
          refine g_ialdN (k) d5_reckon_32 hX.a5 (rfl) (by omega) (by omega) ?_
          refine g_topI (nI 37) (by rw [v1, hs]) ?_
          refine g_istore d5_reckon_33 (by decide) ?_
          refine g_aload_n d5_reckon_35 rfl ?_
          refine g_get fl5_62 d5_reckon_36 (hX.f6) ?_
          refine g_iload d5_reckon_39 rfl ?_
          refine g_ialdN (k) d5_reckon_41 hX.a6 (rfl) (by omega) (by omega) ?_
          refine g_topI (nI (wi k)) (v2) ?_
          refine g_istore d5_reckon_42 (by decide) ?_
          refine g_iload d5_reckon_44 rfl ?_
          refine g_iz_eq (37) 55 (by decide) d5_reckon_46 rfl (fun c46 => absurd c46 (by decide)) (fun _ => ?_)
          refine g_iload d5_reckon_49 rfl ?_
          refine g_iconstv (nI 1) d5_reckon_51 rfl ?_
          refine g_ic_ne (37) (1) 66 (by decide) (by decide) d5_reckon_52 rfl (fun _ => ?_) (fun c52 => absurd c52 (by decide))
          refine g_aload_n d5_reckon_66 rfl ?_
          refine g_get fl5_56 d5_reckon_67 f_30_2 ?_
          refine g_topI (nI ((r.length + 2))) (hn) ?_
          refine g_iz_ne (((r.length + 2) : Nat) : Int) 81 (nI_ti (by omega)) d5_reckon_70 rfl (fun _ => ?_) (fun c70 => absurd c70 (by omega))
          refine g_iload d5_reckon_81 rfl ?_
          refine g_iconstv (nI 2) d5_reckon_83 rfl ?_
          refine g_ic_ne (37) (2) 114 (by decide) (by decide) d5_reckon_84 rfl (fun _ => ?_) (fun c84 => absurd c84 (by decide))
          refine g_iload d5_reckon_114 rfl ?_
          refine g_iconstv (nI 3) d5_reckon_116 rfl ?_
          refine g_ic_eq (37) (3) 135 (by decide) (by decide) d5_reckon_117 rfl (fun c117 => absurd c117 (by decide)) (fun _ => ?_)
          refine g_iload d5_reckon_120 rfl ?_
          refine g_iconstv (nI 4) d5_reckon_122 rfl ?_
          refine g_ic_eq (37) (4) 135 (by decide) (by decide) d5_reckon_123 rfl (fun c123 => absurd c123 (by decide)) (fun _ => ?_)
          refine g_aload_n d5_reckon_126 rfl ?_
          refine g_iload d5_reckon_127 rfl ?_
          refine g_VV1 vm5_join ml5_69 c_30 (r5_30_jz24 (I := I2) (L := L2) (r.length + 2) hn (by omega) h64b a b hRa hRb hb0 (Nat.le_refl 0)) (by omega) (Nat.le_of_ble_eq_true rfl) d5_reckon_129 ?_
          refine g_goto 195 d5_reckon_132 rfl ?_
          refine g_iincN d5_reckon_195 rfl (by decide) ?_
          refine g_goto 13 d5_reckon_198 rfl ?_
          refine g_lo [(0, .ref 30), (1, .ref T), (2, .int fr), (3, .int (nI last)), (4, .int (nI (k + 1)))] ⟨rfl, rfl, rfl, rfl, rfl, trivial⟩ ?_
          exact r5_30_bk _ L2 (fun c hc => by rw [uI_n hc, uI_n hc]; exact i1 c hc) (fun j j1 j2 => by rw [uI_sn j2, uI_sn j1]; exact i2 j j1 j2) l1 (r.length + 1) (by rw [uI_sn (by decide), uI_ss]; rfl) (by omega) uI_ss (k + 1) (by omega) (by omega) none rfl
        have hax := arX_r (o := 24) (a := a) (b := b) (fun z => hb0 z.2)
        by_cases hin : -1000000000 ≤ (ar0 24 a b).toInt ∧ (ar0 24 a b).toInt ≤ 1000000000
        · replace he : eC (cop st wi) (carg st wi) env last f (k + 1) (ar0 24 a b :: r) = some res := by dsimp only at he; rw [if_neg (fun z => hax.1 z hin)] at he; exact he
          refine g_iload d5_reckon_13 rfl ?_
          refine g_iload_n d5_reckon_15 rfl ?_
          refine g_ic_ge ((k : Nat) : Int) ((last : Nat) : Int) 201 (nI_ti (by omega)) (nI_ti (by omega)) d5_reckon_16 rfl (fun c16 => absurd c16 (by omega)) (fun _ => ?_)
          refine g_aload_n d5_reckon_19 rfl ?_
          refine g_get fl5_36 d5_reckon_20 f_30_3 ?_
          refine g_topI ((0 : Int32)) (h3) ?_
          refine g_iz_ne (0) 201 (by decide) d5_reckon_23 rfl (fun c23 => absurd c23 (by decide)) (fun _ => ?_)
          refine g_aload_n d5_reckon_26 rfl ?_
          refine g_get fl5_59 d5_reckon_27 (hX.f5) ?_
          refine g_iload d5_reckon_30 rfl ?_
          refine g_ialdN (k) d5_reckon_32 hX.a5 (rfl) (by omega) (by omega) ?_
          refine g_topI (nI 37) (by rw [v1, hs]) ?_
          refine g_istore d5_reckon_33 (by decide) ?_
          refine g_aload_n d5_reckon_35 rfl ?_
          refine g_get fl5_62 d5_reckon_36 (hX.f6) ?_
          refine g_iload d5_reckon_39 rfl ?_
          refine g_ialdN (k) d5_reckon_41 hX.a6 (rfl) (by omega) (by omega) ?_
          refine g_topI (nI (wi k)) (v2) ?_
          refine g_istore d5_reckon_42 (by decide) ?_
          refine g_iload d5_reckon_44 rfl ?_
          refine g_iz_eq (37) 55 (by decide) d5_reckon_46 rfl (fun c46 => absurd c46 (by decide)) (fun _ => ?_)
          refine g_iload d5_reckon_49 rfl ?_
          refine g_iconstv (nI 1) d5_reckon_51 rfl ?_
          refine g_ic_ne (37) (1) 66 (by decide) (by decide) d5_reckon_52 rfl (fun _ => ?_) (fun c52 => absurd c52 (by decide))
          refine g_aload_n d5_reckon_66 rfl ?_
          refine g_get fl5_56 d5_reckon_67 f_30_2 ?_
          refine g_topI (nI ((r.length + 2))) (hn) ?_
          refine g_iz_ne (((r.length + 2) : Nat) : Int) 81 (nI_ti (by omega)) d5_reckon_70 rfl (fun _ => ?_) (fun c70 => absurd c70 (by omega))
          refine g_iload d5_reckon_81 rfl ?_
          refine g_iconstv (nI 2) d5_reckon_83 rfl ?_
          refine g_ic_ne (37) (2) 114 (by decide) (by decide) d5_reckon_84 rfl (fun _ => ?_) (fun c84 => absurd c84 (by decide))
          refine g_iload d5_reckon_114 rfl ?_
          refine g_iconstv (nI 3) d5_reckon_116 rfl ?_
          refine g_ic_eq (37) (3) 135 (by decide) (by decide) d5_reckon_117 rfl (fun c117 => absurd c117 (by decide)) (fun _ => ?_)
          refine g_iload d5_reckon_120 rfl ?_
          refine g_iconstv (nI 4) d5_reckon_122 rfl ?_
          refine g_ic_eq (37) (4) 135 (by decide) (by decide) d5_reckon_123 rfl (fun c123 => absurd c123 (by decide)) (fun _ => ?_)
          refine g_aload_n d5_reckon_126 rfl ?_
          refine g_iload d5_reckon_127 rfl ?_
          refine g_VV1 vm5_join ml5_69 c_30 (r5_30_j24 (I := I2) (L := L2) (r.length + 2) hn (by omega) h64b a b hRa hRb hb0 (Nat.le_refl 0)) (by omega) (Nat.le_of_ble_eq_true rfl) d5_reckon_129 ?_
          refine g_goto 195 d5_reckon_132 rfl ?_
          refine g_iincN d5_reckon_195 rfl (by decide) ?_
          refine g_goto 13 d5_reckon_198 rfl ?_
          refine g_lo [(0, .ref 30), (1, .ref T), (2, .int fr), (3, .int (nI last)), (4, .int (nI (k + 1)))] ⟨rfl, rfl, rfl, rfl, rfl, trivial⟩ ?_
          rw [if_pos hin]
          exact ih (k + 1) (ar0 24 a b :: r) _ _ res ⟨by rw [show r.length + 2 - 1 - 1 = r.length from rfl, uL_ss], by rw [uL_s]; exact RR_up (Nat.le_refl _) hR.2.2⟩ (fun c hc => by rw [uI_n hc, uI_n hc]; exact i1 c hc) (fun j j1 j2 => by rw [uI_sn j2, uI_sn j1]; exact i2 j j1 j2) (fun c hc => by rw [uL_n hc]; exact l1 c hc) (by rw [uI_sn (by decide), uI_ss]; rfl) uI_ss (by show r.length + 1 ≤ 64; omega) (by omega) he
        · replace he : some none = some res := by dsimp only at he; rw [if_pos (hax.2 hin)] at he; exact he
          obtain rfl : none = res := by injection he
          refine g_iload d5_reckon_13 rfl ?_
          refine g_iload_n d5_reckon_15 rfl ?_
          refine g_ic_ge ((k : Nat) : Int) ((last : Nat) : Int) 201 (nI_ti (by omega)) (nI_ti (by omega)) d5_reckon_16 rfl (fun c16 => absurd c16 (by omega)) (fun _ => ?_)
          refine g_aload_n d5_reckon_19 rfl ?_
          refine g_get fl5_36 d5_reckon_20 f_30_3 ?_
          refine g_topI ((0 : Int32)) (h3) ?_
          refine g_iz_ne (0) 201 (by decide) d5_reckon_23 rfl (fun c23 => absurd c23 (by decide)) (fun _ => ?_)
          refine g_aload_n d5_reckon_26 rfl ?_
          refine g_get fl5_59 d5_reckon_27 (hX.f5) ?_
          refine g_iload d5_reckon_30 rfl ?_
          refine g_ialdN (k) d5_reckon_32 hX.a5 (rfl) (by omega) (by omega) ?_
          refine g_topI (nI 37) (by rw [v1, hs]) ?_
          refine g_istore d5_reckon_33 (by decide) ?_
          refine g_aload_n d5_reckon_35 rfl ?_
          refine g_get fl5_62 d5_reckon_36 (hX.f6) ?_
          refine g_iload d5_reckon_39 rfl ?_
          refine g_ialdN (k) d5_reckon_41 hX.a6 (rfl) (by omega) (by omega) ?_
          refine g_topI (nI (wi k)) (v2) ?_
          refine g_istore d5_reckon_42 (by decide) ?_
          refine g_iload d5_reckon_44 rfl ?_
          refine g_iz_eq (37) 55 (by decide) d5_reckon_46 rfl (fun c46 => absurd c46 (by decide)) (fun _ => ?_)
          refine g_iload d5_reckon_49 rfl ?_
          refine g_iconstv (nI 1) d5_reckon_51 rfl ?_
          refine g_ic_ne (37) (1) 66 (by decide) (by decide) d5_reckon_52 rfl (fun _ => ?_) (fun c52 => absurd c52 (by decide))
          refine g_aload_n d5_reckon_66 rfl ?_
          refine g_get fl5_56 d5_reckon_67 f_30_2 ?_
          refine g_topI (nI ((r.length + 2))) (hn) ?_
          refine g_iz_ne (((r.length + 2) : Nat) : Int) 81 (nI_ti (by omega)) d5_reckon_70 rfl (fun _ => ?_) (fun c70 => absurd c70 (by omega))
          refine g_iload d5_reckon_81 rfl ?_
          refine g_iconstv (nI 2) d5_reckon_83 rfl ?_
          refine g_ic_ne (37) (2) 114 (by decide) (by decide) d5_reckon_84 rfl (fun _ => ?_) (fun c84 => absurd c84 (by decide))
          refine g_iload d5_reckon_114 rfl ?_
          refine g_iconstv (nI 3) d5_reckon_116 rfl ?_
          refine g_ic_eq (37) (3) 135 (by decide) (by decide) d5_reckon_117 rfl (fun c117 => absurd c117 (by decide)) (fun _ => ?_)
          refine g_iload d5_reckon_120 rfl ?_
          refine g_iconstv (nI 4) d5_reckon_122 rfl ?_
          refine g_ic_eq (37) (4) 135 (by decide) (by decide) d5_reckon_123 rfl (fun c123 => absurd c123 (by decide)) (fun _ => ?_)
          refine g_aload_n d5_reckon_126 rfl ?_
          refine g_iload d5_reckon_127 rfl ?_
          refine g_VV1 vm5_join ml5_69 c_30 (r5_30_j24 (I := I2) (L := L2) (r.length + 2) hn (by omega) h64b a b hRa hRb hb0 (Nat.le_refl 0)) (by omega) (Nat.le_of_ble_eq_true rfl) d5_reckon_129 ?_
          refine g_goto 195 d5_reckon_132 rfl ?_
          refine g_iincN d5_reckon_195 rfl (by decide) ?_
          refine g_goto 13 d5_reckon_198 rfl ?_
          refine g_lo [(0, .ref 30), (1, .ref T), (2, .int fr), (3, .int (nI last)), (4, .int (nI (k + 1)))] ⟨rfl, rfl, rfl, rfl, rfl, trivial⟩ ?_
          rw [if_neg hin]
          exact r5_30_bk _ _ (fun c hc => by rw [uI_n hc, uI_n hc]; exact i1 c hc) (fun j j1 j2 => by rw [uI_sn j2, uI_sn j1]; exact i2 j j1 j2) (fun c hc => by rw [uL_n hc]; exact l1 c hc) (r.length + 1) (by rw [uI_sn (by decide), uI_ss]; rfl) (by omega) uI_ss (k + 1) (by omega) (by omega) none rfl
      · -- 60
        have ho : cop st wi k = 25 := by unfold cop; rw [if_neg (by omega)]; rw [if_neg (by omega)]; rw [if_neg (by omega)]; rw [if_neg (by omega)]; rw [if_neg (by omega)]; rw [if_neg (by omega)]; rw [if_neg (by omega)]; rw [if_neg (by omega)]; rw [if_neg (by omega)]; rw [if_neg (by omega)]; rw [if_pos hs]
        rw [sC_bin (by omega) (by omega), ho] at he
        match s, he, hR, hn, h64 with
        | b :: a :: r, he, hR, hn, h64 =>
        have hn : I2 30 2 = nI (r.length + 2) := hn
        have h64b : r.length + 2 ≤ 64 := h64
        have hRb : L2 32 (r.length + 2 - 1) = b := hR.1
        have hRa : L2 32 (r.length + 2 - 1 - 1) = a := hR.2.1
        have hax := arX_r (o := 25) (a := a) (b := b) (fun z => absurd z.1 (by decide))
        by_cases hin : -1000000000 ≤ (ar0 25 a b).toInt ∧ (ar0 25 a b).toInt ≤ 1000000000
        · replace he : eC (cop st wi) (carg st wi) env last f (k + 1) (ar0 25 a b :: r) = some res := by dsimp only at he; rw [if_neg (fun z => hax.1 z hin)] at he; exact he
          refine g_iload d5_reckon_13 rfl ?_
          refine g_iload_n d5_reckon_15 rfl ?_
          refine g_ic_ge ((k : Nat) : Int) ((last : Nat) : Int) 201 (nI_ti (by omega)) (nI_ti (by omega)) d5_reckon_16 rfl (fun c16 => absurd c16 (by omega)) (fun _ => ?_)
          refine g_aload_n d5_reckon_19 rfl ?_
          refine g_get fl5_36 d5_reckon_20 f_30_3 ?_
          refine g_topI ((0 : Int32)) (h3) ?_
          refine g_iz_ne (0) 201 (by decide) d5_reckon_23 rfl (fun c23 => absurd c23 (by decide)) (fun _ => ?_)
          refine g_aload_n d5_reckon_26 rfl ?_
          refine g_get fl5_59 d5_reckon_27 (hX.f5) ?_
          refine g_iload d5_reckon_30 rfl ?_
          refine g_ialdN (k) d5_reckon_32 hX.a5 (rfl) (by omega) (by omega) ?_
          refine g_topI (nI 60) (by rw [v1, hs]) ?_
          refine g_istore d5_reckon_33 (by decide) ?_
          refine g_aload_n d5_reckon_35 rfl ?_
          refine g_get fl5_62 d5_reckon_36 (hX.f6) ?_
          refine g_iload d5_reckon_39 rfl ?_
          refine g_ialdN (k) d5_reckon_41 hX.a6 (rfl) (by omega) (by omega) ?_
          refine g_topI (nI (wi k)) (v2) ?_
          refine g_istore d5_reckon_42 (by decide) ?_
          refine g_iload d5_reckon_44 rfl ?_
          refine g_iz_eq (60) 55 (by decide) d5_reckon_46 rfl (fun c46 => absurd c46 (by decide)) (fun _ => ?_)
          refine g_iload d5_reckon_49 rfl ?_
          refine g_iconstv (nI 1) d5_reckon_51 rfl ?_
          refine g_ic_ne (60) (1) 66 (by decide) (by decide) d5_reckon_52 rfl (fun _ => ?_) (fun c52 => absurd c52 (by decide))
          refine g_aload_n d5_reckon_66 rfl ?_
          refine g_get fl5_56 d5_reckon_67 f_30_2 ?_
          refine g_topI (nI ((r.length + 2))) (hn) ?_
          refine g_iz_ne (((r.length + 2) : Nat) : Int) 81 (nI_ti (by omega)) d5_reckon_70 rfl (fun _ => ?_) (fun c70 => absurd c70 (by omega))
          refine g_iload d5_reckon_81 rfl ?_
          refine g_iconstv (nI 2) d5_reckon_83 rfl ?_
          refine g_ic_ne (60) (2) 114 (by decide) (by decide) d5_reckon_84 rfl (fun _ => ?_) (fun c84 => absurd c84 (by decide))
          refine g_iload d5_reckon_114 rfl ?_
          refine g_iconstv (nI 3) d5_reckon_116 rfl ?_
          refine g_ic_eq (60) (3) 135 (by decide) (by decide) d5_reckon_117 rfl (fun c117 => absurd c117 (by decide)) (fun _ => ?_)
          refine g_iload d5_reckon_120 rfl ?_
          refine g_iconstv (nI 4) d5_reckon_122 rfl ?_
          refine g_ic_eq (60) (4) 135 (by decide) (by decide) d5_reckon_123 rfl (fun c123 => absurd c123 (by decide)) (fun _ => ?_)
          refine g_aload_n d5_reckon_126 rfl ?_
          refine g_iload d5_reckon_127 rfl ?_
          refine g_VV1 vm5_join ml5_69 c_30 (r5_30_j25 (I := I2) (L := L2) (r.length + 2) hn (by omega) h64b a b hRa hRb (Nat.le_refl 0)) (by omega) (Nat.le_of_ble_eq_true rfl) d5_reckon_129 ?_
          refine g_goto 195 d5_reckon_132 rfl ?_
          refine g_iincN d5_reckon_195 rfl (by decide) ?_
          refine g_goto 13 d5_reckon_198 rfl ?_
          refine g_lo [(0, .ref 30), (1, .ref T), (2, .int fr), (3, .int (nI last)), (4, .int (nI (k + 1)))] ⟨rfl, rfl, rfl, rfl, rfl, trivial⟩ ?_
          rw [if_pos hin]
          exact ih (k + 1) (ar0 25 a b :: r) _ _ res ⟨by rw [show r.length + 2 - 1 - 1 = r.length from rfl, uL_ss], by rw [uL_s]; exact RR_up (Nat.le_refl _) hR.2.2⟩ (fun c hc => by rw [uI_n hc, uI_n hc]; exact i1 c hc) (fun j j1 j2 => by rw [uI_sn j2, uI_sn j1]; exact i2 j j1 j2) (fun c hc => by rw [uL_n hc]; exact l1 c hc) (by rw [uI_sn (by decide), uI_ss]; rfl) uI_ss (by show r.length + 1 ≤ 64; omega) (by omega) he
        · replace he : some none = some res := by dsimp only at he; rw [if_pos (hax.2 hin)] at he; exact he
          obtain rfl : none = res := by injection he
          refine g_iload d5_reckon_13 rfl ?_
          refine g_iload_n d5_reckon_15 rfl ?_
          refine g_ic_ge ((k : Nat) : Int) ((last : Nat) : Int) 201 (nI_ti (by omega)) (nI_ti (by omega)) d5_reckon_16 rfl (fun c16 => absurd c16 (by omega)) (fun _ => ?_)
          refine g_aload_n d5_reckon_19 rfl ?_
          refine g_get fl5_36 d5_reckon_20 f_30_3 ?_
          refine g_topI ((0 : Int32)) (h3) ?_
          refine g_iz_ne (0) 201 (by decide) d5_reckon_23 rfl (fun c23 => absurd c23 (by decide)) (fun _ => ?_)
          refine g_aload_n d5_reckon_26 rfl ?_
          refine g_get fl5_59 d5_reckon_27 (hX.f5) ?_
          refine g_iload d5_reckon_30 rfl ?_
          refine g_ialdN (k) d5_reckon_32 hX.a5 (rfl) (by omega) (by omega) ?_
          refine g_topI (nI 60) (by rw [v1, hs]) ?_
          refine g_istore d5_reckon_33 (by decide) ?_
          refine g_aload_n d5_reckon_35 rfl ?_
          refine g_get fl5_62 d5_reckon_36 (hX.f6) ?_
          refine g_iload d5_reckon_39 rfl ?_
          refine g_ialdN (k) d5_reckon_41 hX.a6 (rfl) (by omega) (by omega) ?_
          refine g_topI (nI (wi k)) (v2) ?_
          refine g_istore d5_reckon_42 (by decide) ?_
          refine g_iload d5_reckon_44 rfl ?_
          refine g_iz_eq (60) 55 (by decide) d5_reckon_46 rfl (fun c46 => absurd c46 (by decide)) (fun _ => ?_)
          refine g_iload d5_reckon_49 rfl ?_
          refine g_iconstv (nI 1) d5_reckon_51 rfl ?_
          refine g_ic_ne (60) (1) 66 (by decide) (by decide) d5_reckon_52 rfl (fun _ => ?_) (fun c52 => absurd c52 (by decide))
          refine g_aload_n d5_reckon_66 rfl ?_
          refine g_get fl5_56 d5_reckon_67 f_30_2 ?_
          refine g_topI (nI ((r.length + 2))) (hn) ?_
          refine g_iz_ne (((r.length + 2) : Nat) : Int) 81 (nI_ti (by omega)) d5_reckon_70 rfl (fun _ => ?_) (fun c70 => absurd c70 (by omega))
          refine g_iload d5_reckon_81 rfl ?_
          refine g_iconstv (nI 2) d5_reckon_83 rfl ?_
          refine g_ic_ne (60) (2) 114 (by decide) (by decide) d5_reckon_84 rfl (fun _ => ?_) (fun c84 => absurd c84 (by decide))
          refine g_iload d5_reckon_114 rfl ?_
          refine g_iconstv (nI 3) d5_reckon_116 rfl ?_
          refine g_ic_eq (60) (3) 135 (by decide) (by decide) d5_reckon_117 rfl (fun c117 => absurd c117 (by decide)) (fun _ => ?_)
          refine g_iload d5_reckon_120 rfl ?_
          refine g_iconstv (nI 4) d5_reckon_122 rfl ?_
          refine g_ic_eq (60) (4) 135 (by decide) (by decide) d5_reckon_123 rfl (fun c123 => absurd c123 (by decide)) (fun _ => ?_)
          refine g_aload_n d5_reckon_126 rfl ?_
          refine g_iload d5_reckon_127 rfl ?_
          refine g_VV1 vm5_join ml5_69 c_30 (r5_30_j25 (I := I2) (L := L2) (r.length + 2) hn (by omega) h64b a b hRa hRb (Nat.le_refl 0)) (by omega) (Nat.le_of_ble_eq_true rfl) d5_reckon_129 ?_
          refine g_goto 195 d5_reckon_132 rfl ?_
          refine g_iincN d5_reckon_195 rfl (by decide) ?_
          refine g_goto 13 d5_reckon_198 rfl ?_
          refine g_lo [(0, .ref 30), (1, .ref T), (2, .int fr), (3, .int (nI last)), (4, .int (nI (k + 1)))] ⟨rfl, rfl, rfl, rfl, rfl, trivial⟩ ?_
          rw [if_neg hin]
          exact r5_30_bk _ _ (fun c hc => by rw [uI_n hc, uI_n hc]; exact i1 c hc) (fun j j1 j2 => by rw [uI_sn j2, uI_sn j1]; exact i2 j j1 j2) (fun c hc => by rw [uL_n hc]; exact l1 c hc) (r.length + 1) (by rw [uI_sn (by decide), uI_ss]; rfl) (by omega) uI_ss (k + 1) (by omega) (by omega) none rfl
      · -- 62
        have ho : cop st wi k = 26 := by unfold cop; rw [if_neg (by omega)]; rw [if_neg (by omega)]; rw [if_neg (by omega)]; rw [if_neg (by omega)]; rw [if_neg (by omega)]; rw [if_neg (by omega)]; rw [if_neg (by omega)]; rw [if_neg (by omega)]; rw [if_neg (by omega)]; rw [if_neg (by omega)]; rw [if_neg (by omega)]; rw [if_pos hs]
        rw [sC_bin (by omega) (by omega), ho] at he
        match s, he, hR, hn, h64 with
        | b :: a :: r, he, hR, hn, h64 =>
        have hn : I2 30 2 = nI (r.length + 2) := hn
        have h64b : r.length + 2 ≤ 64 := h64
        have hRb : L2 32 (r.length + 2 - 1) = b := hR.1
        have hRa : L2 32 (r.length + 2 - 1 - 1) = a := hR.2.1
        have hax := arX_r (o := 26) (a := a) (b := b) (fun z => absurd z.1 (by decide))
        by_cases hin : -1000000000 ≤ (ar0 26 a b).toInt ∧ (ar0 26 a b).toInt ≤ 1000000000
        · replace he : eC (cop st wi) (carg st wi) env last f (k + 1) (ar0 26 a b :: r) = some res := by dsimp only at he; rw [if_neg (fun z => hax.1 z hin)] at he; exact he
          refine g_iload d5_reckon_13 rfl ?_
          refine g_iload_n d5_reckon_15 rfl ?_
          refine g_ic_ge ((k : Nat) : Int) ((last : Nat) : Int) 201 (nI_ti (by omega)) (nI_ti (by omega)) d5_reckon_16 rfl (fun c16 => absurd c16 (by omega)) (fun _ => ?_)
          refine g_aload_n d5_reckon_19 rfl ?_
          refine g_get fl5_36 d5_reckon_20 f_30_3 ?_
          refine g_topI ((0 : Int32)) (h3) ?_
          refine g_iz_ne (0) 201 (by decide) d5_reckon_23 rfl (fun c23 => absurd c23 (by decide)) (fun _ => ?_)
          refine g_aload_n d5_reckon_26 rfl ?_
          refine g_get fl5_59 d5_reckon_27 (hX.f5) ?_
          refine g_iload d5_reckon_30 rfl ?_
          refine g_ialdN (k) d5_reckon_32 hX.a5 (rfl) (by omega) (by omega) ?_
          refine g_topI (nI 62) (by rw [v1, hs]) ?_
          refine g_istore d5_reckon_33 (by decide) ?_
          refine g_aload_n d5_reckon_35 rfl ?_
          refine g_get fl5_62 d5_reckon_36 (hX.f6) ?_
          refine g_iload d5_reckon_39 rfl ?_
          refine g_ialdN (k) d5_reckon_41 hX.a6 (rfl) (by omega) (by omega) ?_
          refine g_topI (nI (wi k)) (v2) ?_
          refine g_istore d5_reckon_42 (by decide) ?_
          refine g_iload d5_reckon_44 rfl ?_
          refine g_iz_eq (62) 55 (by decide) d5_reckon_46 rfl (fun c46 => absurd c46 (by decide)) (fun _ => ?_)
          refine g_iload d5_reckon_49 rfl ?_
          refine g_iconstv (nI 1) d5_reckon_51 rfl ?_
          refine g_ic_ne (62) (1) 66 (by decide) (by decide) d5_reckon_52 rfl (fun _ => ?_) (fun c52 => absurd c52 (by decide))
          refine g_aload_n d5_reckon_66 rfl ?_
          refine g_get fl5_56 d5_reckon_67 f_30_2 ?_
          refine g_topI (nI ((r.length + 2))) (hn) ?_
          refine g_iz_ne (((r.length + 2) : Nat) : Int) 81 (nI_ti (by omega)) d5_reckon_70 rfl (fun _ => ?_) (fun c70 => absurd c70 (by omega))
          refine g_iload d5_reckon_81 rfl ?_
          refine g_iconstv (nI 2) d5_reckon_83 rfl ?_
          refine g_ic_ne (62) (2) 114 (by decide) (by decide) d5_reckon_84 rfl (fun _ => ?_) (fun c84 => absurd c84 (by decide))
          refine g_iload d5_reckon_114 rfl ?_
          refine g_iconstv (nI 3) d5_reckon_116 rfl ?_
          refine g_ic_eq (62) (3) 135 (by decide) (by decide) d5_reckon_117 rfl (fun c117 => absurd c117 (by decide)) (fun _ => ?_)
          refine g_iload d5_reckon_120 rfl ?_
          refine g_iconstv (nI 4) d5_reckon_122 rfl ?_
          refine g_ic_eq (62) (4) 135 (by decide) (by decide) d5_reckon_123 rfl (fun c123 => absurd c123 (by decide)) (fun _ => ?_)
          refine g_aload_n d5_reckon_126 rfl ?_
          refine g_iload d5_reckon_127 rfl ?_
          refine g_VV1 vm5_join ml5_69 c_30 (r5_30_j26 (I := I2) (L := L2) (r.length + 2) hn (by omega) h64b a b hRa hRb (Nat.le_refl 0)) (by omega) (Nat.le_of_ble_eq_true rfl) d5_reckon_129 ?_
          refine g_goto 195 d5_reckon_132 rfl ?_
          refine g_iincN d5_reckon_195 rfl (by decide) ?_
          refine g_goto 13 d5_reckon_198 rfl ?_
          refine g_lo [(0, .ref 30), (1, .ref T), (2, .int fr), (3, .int (nI last)), (4, .int (nI (k + 1)))] ⟨rfl, rfl, rfl, rfl, rfl, trivial⟩ ?_
          rw [if_pos hin]
          exact ih (k + 1) (ar0 26 a b :: r) _ _ res ⟨by rw [show r.length + 2 - 1 - 1 = r.length from rfl, uL_ss], by rw [uL_s]; exact RR_up (Nat.le_refl _) hR.2.2⟩ (fun c hc => by rw [uI_n hc, uI_n hc]; exact i1 c hc) (fun j j1 j2 => by rw [uI_sn j2, uI_sn j1]; exact i2 j j1 j2) (fun c hc => by rw [uL_n hc]; exact l1 c hc) (by rw [uI_sn (by decide), uI_ss]; rfl) uI_ss (by show r.length + 1 ≤ 64; omega) (by omega) he
        · replace he : some none = some res := by dsimp only at he; rw [if_pos (hax.2 hin)] at he; exact he
          obtain rfl : none = res := by injection he
          refine g_iload d5_reckon_13 rfl ?_
          refine g_iload_n d5_reckon_15 rfl ?_
          refine g_ic_ge ((k : Nat) : Int) ((last : Nat) : Int) 201 (nI_ti (by omega)) (nI_ti (by omega)) d5_reckon_16 rfl (fun c16 => absurd c16 (by omega)) (fun _ => ?_)
          refine g_aload_n d5_reckon_19 rfl ?_
          refine g_get fl5_36 d5_reckon_20 f_30_3 ?_
          refine g_topI ((0 : Int32)) (h3) ?_
          refine g_iz_ne (0) 201 (by decide) d5_reckon_23 rfl (fun c23 => absurd c23 (by decide)) (fun _ => ?_)
          refine g_aload_n d5_reckon_26 rfl ?_
          refine g_get fl5_59 d5_reckon_27 (hX.f5) ?_
          refine g_iload d5_reckon_30 rfl ?_
          refine g_ialdN (k) d5_reckon_32 hX.a5 (rfl) (by omega) (by omega) ?_
          refine g_topI (nI 62) (by rw [v1, hs]) ?_
          refine g_istore d5_reckon_33 (by decide) ?_
          refine g_aload_n d5_reckon_35 rfl ?_
          refine g_get fl5_62 d5_reckon_36 (hX.f6) ?_
          refine g_iload d5_reckon_39 rfl ?_
          refine g_ialdN (k) d5_reckon_41 hX.a6 (rfl) (by omega) (by omega) ?_
          refine g_topI (nI (wi k)) (v2) ?_
          refine g_istore d5_reckon_42 (by decide) ?_
          refine g_iload d5_reckon_44 rfl ?_
          refine g_iz_eq (62) 55 (by decide) d5_reckon_46 rfl (fun c46 => absurd c46 (by decide)) (fun _ => ?_)
          refine g_iload d5_reckon_49 rfl ?_
          refine g_iconstv (nI 1) d5_reckon_51 rfl ?_
          refine g_ic_ne (62) (1) 66 (by decide) (by decide) d5_reckon_52 rfl (fun _ => ?_) (fun c52 => absurd c52 (by decide))
          refine g_aload_n d5_reckon_66 rfl ?_
          refine g_get fl5_56 d5_reckon_67 f_30_2 ?_
          refine g_topI (nI ((r.length + 2))) (hn) ?_
          refine g_iz_ne (((r.length + 2) : Nat) : Int) 81 (nI_ti (by omega)) d5_reckon_70 rfl (fun _ => ?_) (fun c70 => absurd c70 (by omega))
          refine g_iload d5_reckon_81 rfl ?_
          refine g_iconstv (nI 2) d5_reckon_83 rfl ?_
          refine g_ic_ne (62) (2) 114 (by decide) (by decide) d5_reckon_84 rfl (fun _ => ?_) (fun c84 => absurd c84 (by decide))
          refine g_iload d5_reckon_114 rfl ?_
          refine g_iconstv (nI 3) d5_reckon_116 rfl ?_
          refine g_ic_eq (62) (3) 135 (by decide) (by decide) d5_reckon_117 rfl (fun c117 => absurd c117 (by decide)) (fun _ => ?_)
          refine g_iload d5_reckon_120 rfl ?_
          refine g_iconstv (nI 4) d5_reckon_122 rfl ?_
          refine g_ic_eq (62) (4) 135 (by decide) (by decide) d5_reckon_123 rfl (fun c123 => absurd c123 (by decide)) (fun _ => ?_)
          refine g_aload_n d5_reckon_126 rfl ?_
          refine g_iload d5_reckon_127 rfl ?_
          refine g_VV1 vm5_join ml5_69 c_30 (r5_30_j26 (I := I2) (L := L2) (r.length + 2) hn (by omega) h64b a b hRa hRb (Nat.le_refl 0)) (by omega) (Nat.le_of_ble_eq_true rfl) d5_reckon_129 ?_
          refine g_goto 195 d5_reckon_132 rfl ?_
          refine g_iincN d5_reckon_195 rfl (by decide) ?_
          refine g_goto 13 d5_reckon_198 rfl ?_
          refine g_lo [(0, .ref 30), (1, .ref T), (2, .int fr), (3, .int (nI last)), (4, .int (nI (k + 1)))] ⟨rfl, rfl, rfl, rfl, rfl, trivial⟩ ?_
          rw [if_neg hin]
          exact r5_30_bk _ _ (fun c hc => by rw [uI_n hc, uI_n hc]; exact i1 c hc) (fun j j1 j2 => by rw [uI_sn j2, uI_sn j1]; exact i2 j j1 j2) (fun c hc => by rw [uL_n hc]; exact l1 c hc) (r.length + 1) (by rw [uI_sn (by decide), uI_ss]; rfl) (by omega) uI_ss (k + 1) (by omega) (by omega) none rfl
      · -- 61
        have ho : cop st wi k = 27 := by unfold cop; rw [if_neg (by omega)]; rw [if_neg (by omega)]; rw [if_neg (by omega)]; rw [if_neg (by omega)]; rw [if_neg (by omega)]; rw [if_neg (by omega)]; rw [if_neg (by omega)]; rw [if_neg (by omega)]; rw [if_neg (by omega)]; rw [if_neg (by omega)]; rw [if_neg (by omega)]; rw [if_neg (by omega)]
        rw [sC_bin (by omega) (by omega), ho] at he
        match s, he, hR, hn, h64 with
        | b :: a :: r, he, hR, hn, h64 =>
        have hn : I2 30 2 = nI (r.length + 2) := hn
        have h64b : r.length + 2 ≤ 64 := h64
        have hRb : L2 32 (r.length + 2 - 1) = b := hR.1
        have hRa : L2 32 (r.length + 2 - 1 - 1) = a := hR.2.1
        have hax := arX_r (o := 27) (a := a) (b := b) (fun z => absurd z.1 (by decide))
        by_cases hin : -1000000000 ≤ (ar0 27 a b).toInt ∧ (ar0 27 a b).toInt ≤ 1000000000
        · replace he : eC (cop st wi) (carg st wi) env last f (k + 1) (ar0 27 a b :: r) = some res := by dsimp only at he; rw [if_neg (fun z => hax.1 z hin)] at he; exact he
          refine g_iload d5_reckon_13 rfl ?_
          refine g_iload_n d5_reckon_15 rfl ?_
          refine g_ic_ge ((k : Nat) : Int) ((last : Nat) : Int) 201 (nI_ti (by omega)) (nI_ti (by omega)) d5_reckon_16 rfl (fun c16 => absurd c16 (by omega)) (fun _ => ?_)
          refine g_aload_n d5_reckon_19 rfl ?_
          refine g_get fl5_36 d5_reckon_20 f_30_3 ?_
          refine g_topI ((0 : Int32)) (h3) ?_
          refine g_iz_ne (0) 201 (by decide) d5_reckon_23 rfl (fun c23 => absurd c23 (by decide)) (fun _ => ?_)
          refine g_aload_n d5_reckon_26 rfl ?_
          refine g_get fl5_59 d5_reckon_27 (hX.f5) ?_
          refine g_iload d5_reckon_30 rfl ?_
          refine g_ialdN (k) d5_reckon_32 hX.a5 (rfl) (by omega) (by omega) ?_
          refine g_topI (nI 61) (by rw [v1, hs]) ?_
          refine g_istore d5_reckon_33 (by decide) ?_
          refine g_aload_n d5_reckon_35 rfl ?_
          refine g_get fl5_62 d5_reckon_36 (hX.f6) ?_
          refine g_iload d5_reckon_39 rfl ?_
          refine g_ialdN (k) d5_reckon_41 hX.a6 (rfl) (by omega) (by omega) ?_
          refine g_topI (nI (wi k)) (v2) ?_
          refine g_istore d5_reckon_42 (by decide) ?_
          refine g_iload d5_reckon_44 rfl ?_
          refine g_iz_eq (61) 55 (by decide) d5_reckon_46 rfl (fun c46 => absurd c46 (by decide)) (fun _ => ?_)
          refine g_iload d5_reckon_49 rfl ?_
          refine g_iconstv (nI 1) d5_reckon_51 rfl ?_
          refine g_ic_ne (61) (1) 66 (by decide) (by decide) d5_reckon_52 rfl (fun _ => ?_) (fun c52 => absurd c52 (by decide))
          refine g_aload_n d5_reckon_66 rfl ?_
          refine g_get fl5_56 d5_reckon_67 f_30_2 ?_
          refine g_topI (nI ((r.length + 2))) (hn) ?_
          refine g_iz_ne (((r.length + 2) : Nat) : Int) 81 (nI_ti (by omega)) d5_reckon_70 rfl (fun _ => ?_) (fun c70 => absurd c70 (by omega))
          refine g_iload d5_reckon_81 rfl ?_
          refine g_iconstv (nI 2) d5_reckon_83 rfl ?_
          refine g_ic_ne (61) (2) 114 (by decide) (by decide) d5_reckon_84 rfl (fun _ => ?_) (fun c84 => absurd c84 (by decide))
          refine g_iload d5_reckon_114 rfl ?_
          refine g_iconstv (nI 3) d5_reckon_116 rfl ?_
          refine g_ic_eq (61) (3) 135 (by decide) (by decide) d5_reckon_117 rfl (fun c117 => absurd c117 (by decide)) (fun _ => ?_)
          refine g_iload d5_reckon_120 rfl ?_
          refine g_iconstv (nI 4) d5_reckon_122 rfl ?_
          refine g_ic_eq (61) (4) 135 (by decide) (by decide) d5_reckon_123 rfl (fun c123 => absurd c123 (by decide)) (fun _ => ?_)
          refine g_aload_n d5_reckon_126 rfl ?_
          refine g_iload d5_reckon_127 rfl ?_
          refine g_VV1 vm5_join ml5_69 c_30 (r5_30_j27 (I := I2) (L := L2) (r.length + 2) hn (by omega) h64b a b hRa hRb (Nat.le_refl 0)) (by omega) (Nat.le_of_ble_eq_true rfl) d5_reckon_129 ?_
          refine g_goto 195 d5_reckon_132 rfl ?_
          refine g_iincN d5_reckon_195 rfl (by decide) ?_
          refine g_goto 13 d5_reckon_198 rfl ?_
          refine g_lo [(0, .ref 30), (1, .ref T), (2, .int fr), (3, .int (nI last)), (4, .int (nI (k + 1)))] ⟨rfl, rfl, rfl, rfl, rfl, trivial⟩ ?_
          rw [if_pos hin]
          exact ih (k + 1) (ar0 27 a b :: r) _ _ res ⟨by rw [show r.length + 2 - 1 - 1 = r.length from rfl, uL_ss], by rw [uL_s]; exact RR_up (Nat.le_refl _) hR.2.2⟩ (fun c hc => by rw [uI_n hc, uI_n hc]; exact i1 c hc) (fun j j1 j2 => by rw [uI_sn j2, uI_sn j1]; exact i2 j j1 j2) (fun c hc => by rw [uL_n hc]; exact l1 c hc) (by rw [uI_sn (by decide), uI_ss]; rfl) uI_ss (by show r.length + 1 ≤ 64; omega) (by omega) he
        · replace he : some none = some res := by dsimp only at he; rw [if_pos (hax.2 hin)] at he; exact he
          obtain rfl : none = res := by injection he
          refine g_iload d5_reckon_13 rfl ?_
          refine g_iload_n d5_reckon_15 rfl ?_
          refine g_ic_ge ((k : Nat) : Int) ((last : Nat) : Int) 201 (nI_ti (by omega)) (nI_ti (by omega)) d5_reckon_16 rfl (fun c16 => absurd c16 (by omega)) (fun _ => ?_)
          refine g_aload_n d5_reckon_19 rfl ?_
          refine g_get fl5_36 d5_reckon_20 f_30_3 ?_
          refine g_topI ((0 : Int32)) (h3) ?_
          refine g_iz_ne (0) 201 (by decide) d5_reckon_23 rfl (fun c23 => absurd c23 (by decide)) (fun _ => ?_)
          refine g_aload_n d5_reckon_26 rfl ?_
          refine g_get fl5_59 d5_reckon_27 (hX.f5) ?_
          refine g_iload d5_reckon_30 rfl ?_
          refine g_ialdN (k) d5_reckon_32 hX.a5 (rfl) (by omega) (by omega) ?_
          refine g_topI (nI 61) (by rw [v1, hs]) ?_
          refine g_istore d5_reckon_33 (by decide) ?_
          refine g_aload_n d5_reckon_35 rfl ?_
          refine g_get fl5_62 d5_reckon_36 (hX.f6) ?_
          refine g_iload d5_reckon_39 rfl ?_
          refine g_ialdN (k) d5_reckon_41 hX.a6 (rfl) (by omega) (by omega) ?_
          refine g_topI (nI (wi k)) (v2) ?_
          refine g_istore d5_reckon_42 (by decide) ?_
          refine g_iload d5_reckon_44 rfl ?_
          refine g_iz_eq (61) 55 (by decide) d5_reckon_46 rfl (fun c46 => absurd c46 (by decide)) (fun _ => ?_)
          refine g_iload d5_reckon_49 rfl ?_
          refine g_iconstv (nI 1) d5_reckon_51 rfl ?_
          refine g_ic_ne (61) (1) 66 (by decide) (by decide) d5_reckon_52 rfl (fun _ => ?_) (fun c52 => absurd c52 (by decide))
          refine g_aload_n d5_reckon_66 rfl ?_
          refine g_get fl5_56 d5_reckon_67 f_30_2 ?_
          refine g_topI (nI ((r.length + 2))) (hn) ?_
          refine g_iz_ne (((r.length + 2) : Nat) : Int) 81 (nI_ti (by omega)) d5_reckon_70 rfl (fun _ => ?_) (fun c70 => absurd c70 (by omega))
          refine g_iload d5_reckon_81 rfl ?_
          refine g_iconstv (nI 2) d5_reckon_83 rfl ?_
          refine g_ic_ne (61) (2) 114 (by decide) (by decide) d5_reckon_84 rfl (fun _ => ?_) (fun c84 => absurd c84 (by decide))
          refine g_iload d5_reckon_114 rfl ?_
          refine g_iconstv (nI 3) d5_reckon_116 rfl ?_
          refine g_ic_eq (61) (3) 135 (by decide) (by decide) d5_reckon_117 rfl (fun c117 => absurd c117 (by decide)) (fun _ => ?_)
          refine g_iload d5_reckon_120 rfl ?_
          refine g_iconstv (nI 4) d5_reckon_122 rfl ?_
          refine g_ic_eq (61) (4) 135 (by decide) (by decide) d5_reckon_123 rfl (fun c123 => absurd c123 (by decide)) (fun _ => ?_)
          refine g_aload_n d5_reckon_126 rfl ?_
          refine g_iload d5_reckon_127 rfl ?_
          refine g_VV1 vm5_join ml5_69 c_30 (r5_30_j27 (I := I2) (L := L2) (r.length + 2) hn (by omega) h64b a b hRa hRb (Nat.le_refl 0)) (by omega) (Nat.le_of_ble_eq_true rfl) d5_reckon_129 ?_
          refine g_goto 195 d5_reckon_132 rfl ?_
          refine g_iincN d5_reckon_195 rfl (by decide) ?_
          refine g_goto 13 d5_reckon_198 rfl ?_
          refine g_lo [(0, .ref 30), (1, .ref T), (2, .int fr), (3, .int (nI last)), (4, .int (nI (k + 1)))] ⟨rfl, rfl, rfl, rfl, rfl, trivial⟩ ?_
          rw [if_neg hin]
          exact r5_30_bk _ _ (fun c hc => by rw [uI_n hc, uI_n hc]; exact i1 c hc) (fun j j1 j2 => by rw [uI_sn j2, uI_sn j1]; exact i2 j j1 j2) (fun c hc => by rw [uL_n hc]; exact l1 c hc) (r.length + 1) (by rw [uI_sn (by decide), uI_ss]; rfl) (by omega) uI_ss (k + 1) (by omega) (by omega) none rfl
