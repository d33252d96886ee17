/-- a heap and an array behind it -/
def hA12 (h : cH) (A : Nat → Int32) : cH := h ++ [.inl (0, 12, .inl A)]
theorem hA12_a (h : cH) (A : Nat → Int32) : aI (hA12 h A) h.length 0 = some (12, A) := by
  have e : (hA12 h A)[h.length]? = some (.inl (0, 12, .inl A)) := by
    unfold hA12; rw [List.getElem?_append_right (Nat.le_refl _), Nat.sub_self]; rfl
  unfold aI; rw [e]; rfl
theorem hA12_t (h : cH) (A B : Nat → Int32) : (hA12 h A).set h.length (.inl (0, 12, .inl B)) = hA12 h B := by
  unfold hA12; rw [List.set_append_right _ _ (Nat.le_refl _), Nat.sub_self]; rfl
theorem dec_mk (j : Nat) : nI j + Int32.ofInt (-1) = mkI j := by
  cases j with
  | zero => rfl
  | succ j => rw [mkI_s]; exact nI_dec (Nat.succ_pos j)
/-- what the search keeps -/
def cmS (rd lim j F : Nat) (A : Nat → Int32) (f : Nat → Nat) : Prop := (∀ r, j ≤ r → r < 12 → bt rd r = 1 → A r = nI (f r) ∧ goD rd lim r (f r)) ∧ ((∀ r, j ≤ r → r < 12 → bt rd r ≠ 1) ∧ F = 0 ∨ ∃ r, j ≤ r ∧ r < 12 ∧ bt rd r = 1 ∧ (∀ q, j ≤ q → q < r → bt rd q ≠ 1) ∧ F = f r)
theorem cmS_end {rd lim F : Nat} {A : Nat → Int32} {f : Nat → Nat} (h : cmS rd lim 0 F A f) : cb rd lim 4096 = (on12 F 12, F) ∧ F < 4096 := by
  obtain ⟨h1, ⟨h2, rfl⟩ | ⟨r, a, b, c, e, rfl⟩⟩ := h
  · exact ⟨cb_no (fun k hk => h2 k (Nat.zero_le _) hk), by decide⟩
  · exact ⟨cb_go b c (fun k hk => e k (Nat.zero_le _) hk) (h1 r a b c).2, (h1 r a b c).2.1.2.1⟩
theorem cmS_no {rd lim j F : Nat} {A : Nat → Int32} {f : Nat → Nat} (h : cmS rd lim (j + 1) F A f) (hn : bt rd j ≠ 1) : cmS rd lim j F A f := by
  have hj : ∀ r, j ≤ r → bt rd r = 1 → j + 1 ≤ r := fun r a b => by
    by_cases e : r = j
    · subst e; exact absurd b hn
    · omega
  obtain ⟨h1, h2⟩ := h
  refine ⟨fun r a b c => h1 r (hj r a c) b c, ?_⟩
  rcases h2 with ⟨h2, rfl⟩ | ⟨r, a, b, c, e, rfl⟩
  · exact Or.inl ⟨fun r a b c => h2 r (hj r a c) b c, rfl⟩
  · exact Or.inr ⟨r, by omega, b, c, fun q x y z => e q (hj q x z) y z, rfl⟩
theorem cmS_y {rd lim j F : Nat} {A : Nat → Int32} {f : Nat → Nat} (hj : j < 12) (h : cmS rd lim (j + 1) F A f) (hn : bt rd j = 1) (G : Nat) (hG : goD rd lim j G) : cmS rd lim j G (upd A j (nI G)) (fun q => if q = j then G else f q) := by
  refine ⟨fun r a b c => ?_, Or.inr ⟨j, Nat.le_refl _, hj, hn, fun q x y => absurd x (by omega), (if_pos rfl).symm⟩⟩
  by_cases e : r = j
  · subst e
    exact ⟨(if_pos rfl : upd A r (nI G) r = nI G).trans (congrArg nI (if_pos rfl).symm), by show goD rd lim r (if r = r then G else f r); rw [if_pos rfl]; exact hG⟩
  · obtain ⟨q1, q2⟩ := h.1 r (by omega) b c
    exact ⟨(if_neg e : upd A j (nI G) r = A r).trans (q1.trans (congrArg nI (if_neg e).symm)), by show goD rd lim r (if r = j then G else f r); rw [if_neg e]; exact q2⟩
set_option maxHeartbeats 1000000 in
theorem r11_cmL {l : Launch} {K : cK} {d : Nat} {h : cH} (rd lim : Nat) (hr : rd < 4096) (hl : lim ≤ 12) (hd : 3 ≤ d) :
    ∀ (j F : Nat) (A : Nat → Int32) (f : Nat → Nat), j ≤ 12 → cmS rd lim j F A f → GL l K m11_chalkMoves d 0 0 11 [(0, .int (nI rd)), (1, .int (nI lim)), (2, .ref h.length), (3, .int (nI F)), (4, .int (mkI j))] [] (hA12 h A) (fun r h1 => ∃ B, (r = some (.int (nI (cb rd lim 4096).2)) ∧ h1 = hA12 h B) ∧ (cb rd lim 4096).1 = on12 (cb rd lim 4096).2 12 ∧ (cb rd lim 4096).2 < 4096) := by
  intro j
  induction j with
  | zero =>
    intro F A f hj hS
    have e := cmS_end hS
    refine g_iload d11_chalkMoves_11 rfl ?_
    refine g_iz_lt (-1) 48 (by decide) d11_chalkMoves_13 rfl (fun _ => ?_) (fun c13 => absurd c13 (by decide))
    refine g_iload_n d11_chalkMoves_48 rfl ?_
    exact g_iret rfl d11_chalkMoves_49 (⟨A, ⟨by rw [e.1], rfl⟩, by rw [e.1], by rw [e.1]; exact e.2⟩)
  | succ j ih =>
    intro F A f hj hS
    rw [mkI_s]
    by_cases hrd : bt rd j = 1
    · have hG : goD rd lim j (mvB rd lim f j (11 - j) (j + 1) j none) := mvB_go (by omega) (fun r a b c => (hS.1 r a b c).2)
      refine g_iload d11_chalkMoves_11 rfl ?_
      refine g_iz_lt ((j : Nat) : Int) 48 (nI_ti (by omega)) d11_chalkMoves_13 rfl (fun c13 => absurd c13 (by omega)) (fun _ => ?_)
      refine g_iload_n d11_chalkMoves_16 rfl ?_
      refine g_iload d11_chalkMoves_17 rfl ?_
      refine g_ES2 sm11_hasBit ml11_358 (r11_hasBit (rd) (j) (by omega) (by omega) (Nat.le_refl 0)) (by omega) (Nat.le_of_ble_eq_true rfl) d11_chalkMoves_19 ?_
      refine g_bz 42 d11_chalkMoves_22 rfl (fun c22 => absurd c22 (by omega)) (fun _ => ?_)
      refine g_aload_n d11_chalkMoves_25 rfl ?_
      refine g_iload d11_chalkMoves_26 rfl ?_
      refine g_iload_n d11_chalkMoves_28 rfl ?_
      refine g_iload_n d11_chalkMoves_29 rfl ?_
      refine g_iload d11_chalkMoves_30 rfl ?_
      refine g_aload_n d11_chalkMoves_32 rfl ?_
      refine g_ES4 sm11_movesBehind ml11_362 (r11_movesBehind rd lim j h.length A f hr hl (by omega) (hA12_a h A) (fun r a b c => ⟨(hS.1 r a b c).1, (hS.1 r a b c).2.1.2.1⟩) (Nat.le_refl 2)) (by omega) (Nat.le_of_ble_eq_true rfl) d11_chalkMoves_33 ?_
      refine g_iastN (j) _ d11_chalkMoves_36 (hA12_a h A) (rfl) (by omega) (by decide) (hA12_t h A _) ?_
      refine g_aload_n d11_chalkMoves_37 rfl ?_
      refine g_iload d11_chalkMoves_38 rfl ?_
      refine g_ialdN (j) d11_chalkMoves_40 (hA12_a h _) (rfl) (by omega) (by decide) ?_
      refine g_topI (nI ((mvB rd lim f j (11 - j) (j + 1) j none))) (if_pos rfl) ?_
      refine g_istore_n d11_chalkMoves_41 (by decide) ?_
      refine g_iinc (mkI j) d11_chalkMoves_42 rfl (dec_mk j) (by decide) ?_
      refine g_goto 11 d11_chalkMoves_45 rfl ?_
      refine g_lo [(0, .int (nI rd)), (1, .int (nI lim)), (2, .ref h.length), (3, .int (nI (mvB rd lim f j (11 - j) (j + 1) j none))), (4, .int (mkI j))] ⟨rfl, rfl, rfl, rfl, rfl, trivial⟩ ?_
      exact ih _ _ _ (by omega) (cmS_y (by omega) hS hrd _ hG)
    · skip
      refine g_iload d11_chalkMoves_11 rfl ?_
      refine g_iz_lt ((j : Nat) : Int) 48 (nI_ti (by omega)) d11_chalkMoves_13 rfl (fun c13 => absurd c13 (by omega)) (fun _ => ?_)
      refine g_iload_n d11_chalkMoves_16 rfl ?_
      refine g_iload d11_chalkMoves_17 rfl ?_
      refine g_ES2 sm11_hasBit ml11_358 (r11_hasBit (rd) (j) (by omega) (by omega) (Nat.le_refl 0)) (by omega) (Nat.le_of_ble_eq_true rfl) d11_chalkMoves_19 ?_
      refine g_bz 42 d11_chalkMoves_22 rfl (fun _ => ?_) (fun c22 => absurd c22 (by omega))
      refine g_iinc (mkI j) d11_chalkMoves_42 rfl (dec_mk j) (by decide) ?_
      refine g_goto 11 d11_chalkMoves_45 rfl ?_
      refine g_lo [(0, .int (nI rd)), (1, .int (nI lim)), (2, .ref h.length), (3, .int (nI F)), (4, .int (mkI j))] ⟨rfl, rfl, rfl, rfl, rfl, trivial⟩ ?_
      exact ih F A f (by omega) (cmS_no hS hrd)
set_option maxHeartbeats 200000 in
theorem r11_chalkMoves {l : Launch} {K : cK} {d : Nat} {h : cH} (rd lim : Nat) (hr : rd < 4096) (hl : lim ≤ 12) (hd : 3 ≤ d) : CC l K m11_chalkMoves d 1 12 [.int (nI rd), .int (nI lim)] h (fun r h1 => ∃ B, (r = some (.int (nI (cb rd lim 4096).2)) ∧ h1 = hA12 h B) ∧ (cb rd lim 4096).1 = on12 (cb rd lim 4096).2 12 ∧ (cb rd lim 4096).2 < 4096) := by
  refine CC.of ok11_chalkMoves (Nat.le_of_ble_eq_true rfl) ?_
  refine g_bipushv (nI 12) d11_chalkMoves_0 rfl ?_
  refine g_newI (N := 12) (by decide) (by decide) (by decide) d11_chalkMoves_2 ?_
  refine g_astore_n d11_chalkMoves_4 (by decide) ?_
  refine g_iconstv (nI 0) d11_chalkMoves_5 rfl ?_
  refine g_istore_n d11_chalkMoves_6 (by decide) ?_
  refine g_bipushv (nI 11) d11_chalkMoves_7 rfl ?_
  refine g_istore d11_chalkMoves_9 (by decide) ?_
  refine g_lo [(0, .int (nI rd)), (1, .int (nI lim)), (2, .ref h.length), (3, .int (nI 0)), (4, .int (mkI 12))] ⟨rfl, rfl, rfl, rfl, rfl, trivial⟩ ?_
  exact r11_cmL rd lim hr hl hd 12 0 _ (fun _ => 0) (Nat.le_refl _) ⟨fun r a b => absurd a (by omega), Or.inl ⟨fun r a b => absurd a (by omega), rfl⟩⟩
theorem hp_A12 (I : wI) (L : wL) (R : wR) (dy : cH) (B : Nat → Int32) : hA12 (hp I L R dy) B = hp I L R (hA12 dy B) := rfl
set_option maxHeartbeats 200000 in
theorem r11_chalk_no {l : Launch} {K : cK} {d : Nat} {I : wI} {L : wL} {R : wR} {dy : cH} (a b c e : Int32) (hbad : ¬ (0 ≤ a.toInt ∧ a.toInt ≤ 4095 ∧ 0 ≤ b.toInt ∧ b.toInt ≤ 4095 ∧ 1 ≤ c.toInt ∧ c.toInt ≤ 12 ∧ 0 ≤ e.toInt ∧ e.toInt ≤ 2)) (hd : 0 ≤ d) : CE l K m11_chalk d [.ref 0, .int a, .int b, .int c, .int e] (hp I L R dy) (.int (-1)) (hp I L R dy) := by
  refine CC.of ok11_chalk (Nat.le_of_ble_eq_true rfl) ?_
  refine g_iload_n d11_chalk_0 rfl ?_
  refine g_iz_lt _ 22 (rfl) d11_chalk_1 rfl (fun c1 => ?_) (fun c1 => ?_)
  · refine g_iconstv ((-1 : Int32)) d11_chalk_22 rfl ?_
    exact g_iret rfl d11_chalk_23 (⟨rfl, rfl⟩)
  · refine g_iload_n d11_chalk_4 rfl ?_
    refine g_sipushv (nI 4095) d11_chalk_5 rfl ?_
    refine g_ic_gt _ (4095) 22 (rfl) (by decide) d11_chalk_8 rfl (fun c8 => ?_) (fun c8 => ?_)
    · refine g_iconstv ((-1 : Int32)) d11_chalk_22 rfl ?_
      exact g_iret rfl d11_chalk_23 (⟨rfl, rfl⟩)
    · refine g_iload_n d11_chalk_11 rfl ?_
      refine g_iz_lt _ 22 (rfl) d11_chalk_12 rfl (fun c12 => ?_) (fun c12 => ?_)
      · refine g_iconstv ((-1 : Int32)) d11_chalk_22 rfl ?_
        exact g_iret rfl d11_chalk_23 (⟨rfl, rfl⟩)
      · refine g_iload_n d11_chalk_15 rfl ?_
        refine g_sipushv (nI 4095) d11_chalk_16 rfl ?_
        refine g_ic_le _ (4095) 24 (rfl) (by decide) d11_chalk_19 rfl (fun c19 => ?_) (fun c19 => ?_)
        · refine g_iload_n d11_chalk_24 rfl ?_
          refine g_iconstv (nI 1) d11_chalk_25 rfl ?_
          refine g_ic_lt _ (1) 46 (rfl) (by decide) d11_chalk_26 rfl (fun c26 => ?_) (fun c26 => ?_)
          · refine g_iconstv ((-1 : Int32)) d11_chalk_46 rfl ?_
            exact g_iret rfl d11_chalk_47 (⟨rfl, rfl⟩)
          · refine g_iload_n d11_chalk_29 rfl ?_
            refine g_bipushv (nI 12) d11_chalk_30 rfl ?_
            refine g_ic_gt _ (12) 46 (rfl) (by decide) d11_chalk_32 rfl (fun c32 => ?_) (fun c32 => ?_)
            · refine g_iconstv ((-1 : Int32)) d11_chalk_46 rfl ?_
              exact g_iret rfl d11_chalk_47 (⟨rfl, rfl⟩)
            · refine g_iload d11_chalk_35 rfl ?_
              refine g_iz_lt _ 46 (rfl) d11_chalk_37 rfl (fun c37 => ?_) (fun c37 => ?_)
              · refine g_iconstv ((-1 : Int32)) d11_chalk_46 rfl ?_
                exact g_iret rfl d11_chalk_47 (⟨rfl, rfl⟩)
              · refine g_iload d11_chalk_40 rfl ?_
                refine g_iconstv (nI 2) d11_chalk_42 rfl ?_
                refine g_ic_le _ (2) 48 (rfl) (by decide) d11_chalk_43 rfl (fun c43 => ?_) (fun c43 => ?_)
                · exact absurd (by omega) hbad
                · refine g_iconstv ((-1 : Int32)) d11_chalk_46 rfl ?_
                  exact g_iret rfl d11_chalk_47 (⟨rfl, rfl⟩)
        · refine g_iconstv ((-1 : Int32)) d11_chalk_22 rfl ?_
          exact g_iret rfl d11_chalk_23 (⟨rfl, rfl⟩)
set_option maxHeartbeats 200000 in
theorem r11_chalk_0 {l : Launch} {K : cK} {d : Nat} {I : wI} {L : wL} {R : wR} {dy : cH} (rd mv lim : Nat) (hr : rd < 4096) (hv : mv < 4096) (hl1 : 1 ≤ lim) (hl : lim ≤ 12) (hd : 2 ≤ d) : CE l K m11_chalk d [.ref 0, .int (nI rd), .int (nI mv), .int (nI lim), .int (nI 0)] (hp I L R dy) (.int (nI (ck rd mv lim 12).2)) (hp I L R dy) := by
  refine CC.of ok11_chalk (Nat.le_of_ble_eq_true rfl) ?_
  refine g_iload_n d11_chalk_0 rfl ?_
  refine g_iz_lt ((rd : Nat) : Int) 22 (nI_ti (by omega)) d11_chalk_1 rfl (fun c1 => absurd c1 (by omega)) (fun _ => ?_)
  refine g_iload_n d11_chalk_4 rfl ?_
  refine g_sipushv (nI 4095) d11_chalk_5 rfl ?_
  refine g_ic_gt ((rd : Nat) : Int) (4095) 22 (nI_ti (by omega)) (by decide) d11_chalk_8 rfl (fun c8 => absurd c8 (by omega)) (fun _ => ?_)
  refine g_iload_n d11_chalk_11 rfl ?_
  refine g_iz_lt ((mv : Nat) : Int) 22 (nI_ti (by omega)) d11_chalk_12 rfl (fun c12 => absurd c12 (by omega)) (fun _ => ?_)
  refine g_iload_n d11_chalk_15 rfl ?_
  refine g_sipushv (nI 4095) d11_chalk_16 rfl ?_
  refine g_ic_le ((mv : Nat) : Int) (4095) 24 (nI_ti (by omega)) (by decide) d11_chalk_19 rfl (fun _ => ?_) (fun c19 => absurd c19 (by omega))
  refine g_iload_n d11_chalk_24 rfl ?_
  refine g_iconstv (nI 1) d11_chalk_25 rfl ?_
  refine g_ic_lt ((lim : Nat) : Int) (1) 46 (nI_ti (by omega)) (by decide) d11_chalk_26 rfl (fun c26 => absurd c26 (by omega)) (fun _ => ?_)
  refine g_iload_n d11_chalk_29 rfl ?_
  refine g_bipushv (nI 12) d11_chalk_30 rfl ?_
  refine g_ic_gt ((lim : Nat) : Int) (12) 46 (nI_ti (by omega)) (by decide) d11_chalk_32 rfl (fun c32 => absurd c32 (by omega)) (fun _ => ?_)
  refine g_iload d11_chalk_35 rfl ?_
  refine g_iz_lt (0) 46 (by decide) d11_chalk_37 rfl (fun c37 => absurd c37 (by decide)) (fun _ => ?_)
  refine g_iload d11_chalk_40 rfl ?_
  refine g_iconstv (nI 2) d11_chalk_42 rfl ?_
  refine g_ic_le (0) (2) 48 (by decide) (by decide) d11_chalk_43 rfl (fun _ => ?_) (fun c43 => absurd c43 (by decide))
  refine g_iload d11_chalk_48 rfl ?_
  refine g_iz_ne (0) 60 (by decide) d11_chalk_50 rfl (fun c50 => absurd c50 (by decide)) (fun _ => ?_)
  refine g_iload_n d11_chalk_53 rfl ?_
  refine g_iload_n d11_chalk_54 rfl ?_
  refine g_iload_n d11_chalk_55 rfl ?_
  refine g_ES3 sm11_chalkFines ml11_256 (r11_chalkFines rd mv lim (by omega) (by omega) (by omega) (Nat.le_refl 1)) (by omega) (Nat.le_of_ble_eq_true rfl) d11_chalk_56 ?_
  exact g_iret rfl d11_chalk_59 (⟨rfl, rfl⟩)
set_option maxHeartbeats 200000 in
theorem r11_chalk_1 {l : Launch} {K : cK} {d : Nat} {I : wI} {L : wL} {R : wR} {dy : cH} (rd mv lim : Nat) (hr : rd < 4096) (hv : mv < 4096) (hl1 : 1 ≤ lim) (hl : lim ≤ 12) (hd : 4 ≤ d) : CC l K m11_chalk d 1 12 [.ref 0, .int (nI rd), .int (nI mv), .int (nI lim), .int (nI 1)] (hp I L R dy) (fun r h1 => ∃ B, r = some (.int (nI (cb rd lim 4096).1)) ∧ h1 = hp I L R (hA12 dy B)) := by
  refine CC.of ok11_chalk (Nat.le_of_ble_eq_true rfl) ?_
  refine g_iload_n d11_chalk_0 rfl ?_
  refine g_iz_lt ((rd : Nat) : Int) 22 (nI_ti (by omega)) d11_chalk_1 rfl (fun c1 => absurd c1 (by omega)) (fun _ => ?_)
  refine g_iload_n d11_chalk_4 rfl ?_
  refine g_sipushv (nI 4095) d11_chalk_5 rfl ?_
  refine g_ic_gt ((rd : Nat) : Int) (4095) 22 (nI_ti (by omega)) (by decide) d11_chalk_8 rfl (fun c8 => absurd c8 (by omega)) (fun _ => ?_)
  refine g_iload_n d11_chalk_11 rfl ?_
  refine g_iz_lt ((mv : Nat) : Int) 22 (nI_ti (by omega)) d11_chalk_12 rfl (fun c12 => absurd c12 (by omega)) (fun _ => ?_)
  refine g_iload_n d11_chalk_15 rfl ?_
  refine g_sipushv (nI 4095) d11_chalk_16 rfl ?_
  refine g_ic_le ((mv : Nat) : Int) (4095) 24 (nI_ti (by omega)) (by decide) d11_chalk_19 rfl (fun _ => ?_) (fun c19 => absurd c19 (by omega))
  refine g_iload_n d11_chalk_24 rfl ?_
  refine g_iconstv (nI 1) d11_chalk_25 rfl ?_
  refine g_ic_lt ((lim : Nat) : Int) (1) 46 (nI_ti (by omega)) (by decide) d11_chalk_26 rfl (fun c26 => absurd c26 (by omega)) (fun _ => ?_)
  refine g_iload_n d11_chalk_29 rfl ?_
  refine g_bipushv (nI 12) d11_chalk_30 rfl ?_
  refine g_ic_gt ((lim : Nat) : Int) (12) 46 (nI_ti (by omega)) (by decide) d11_chalk_32 rfl (fun c32 => absurd c32 (by omega)) (fun _ => ?_)
  refine g_iload d11_chalk_35 rfl ?_
  refine g_iz_lt (1) 46 (by decide) d11_chalk_37 rfl (fun c37 => absurd c37 (by decide)) (fun _ => ?_)
  refine g_iload d11_chalk_40 rfl ?_
  refine g_iconstv (nI 2) d11_chalk_42 rfl ?_
  refine g_ic_le (1) (2) 48 (by decide) (by decide) d11_chalk_43 rfl (fun _ => ?_) (fun c43 => absurd c43 (by decide))
  refine g_iload d11_chalk_48 rfl ?_
  refine g_iz_ne (1) 60 (by decide) d11_chalk_50 rfl (fun _ => ?_) (fun c50 => absurd c50 (by decide))
  refine g_iload_n d11_chalk_60 rfl ?_
  refine g_iload_n d11_chalk_61 rfl ?_
  refine g_callS_2k (kc1 := 1) (ks1 := 12) (kc2 := 0) (ks2 := 0) (Nat.le_refl 1) (Nat.le_refl 12) sm11_chalkMoves ml11_259 (r11_chalkMoves rd lim hr hl (Nat.le_refl 3)) (by omega) (Nat.le_of_ble_eq_true rfl) d11_chalk_62 (fun r h1 hx => ?_)
  obtain ⟨B, ⟨rfl, rfl⟩, hF1, hF2⟩ := hx
  show GL l K m11_chalk d 0 0 65 _ (.int (nI (cb rd lim 4096).2) :: []) _ _
  refine g_istore d11_chalk_65 (by decide) ?_
  refine g_iload d11_chalk_67 rfl ?_
  refine g_iconstv (nI 1) d11_chalk_69 rfl ?_
  refine g_ic_ne (1) (1) 81 (by decide) (by decide) d11_chalk_70 rfl (fun c70 => absurd c70 (by decide)) (fun _ => ?_)
  refine g_iload d11_chalk_73 rfl ?_
  refine g_ES1 smIn_bitCount ml11_262 (rIn_bitCount ((cb rd lim 4096).2) (by omega) (Nat.le_refl 0)) (by omega) (Nat.le_of_ble_eq_true rfl) d11_chalk_75 ?_
  refine g_goto 83 d11_chalk_78 rfl ?_
  exact g_iret rfl d11_chalk_83 (⟨B, by rw [hF1], rfl⟩)
set_option maxHeartbeats 200000 in
theorem r11_chalk_2 {l : Launch} {K : cK} {d : Nat} {I : wI} {L : wL} {R : wR} {dy : cH} (rd mv lim : Nat) (hr : rd < 4096) (hv : mv < 4096) (hl1 : 1 ≤ lim) (hl : lim ≤ 12) (hd : 4 ≤ d) : CC l K m11_chalk d 1 12 [.ref 0, .int (nI rd), .int (nI mv), .int (nI lim), .int (nI 2)] (hp I L R dy) (fun r h1 => ∃ B, r = some (.int (nI (cb rd lim 4096).2)) ∧ h1 = hp I L R (hA12 dy B)) := by
  refine CC.of ok11_chalk (Nat.le_of_ble_eq_true rfl) ?_
  refine g_iload_n d11_chalk_0 rfl ?_
  refine g_iz_lt ((rd : Nat) : Int) 22 (nI_ti (by omega)) d11_chalk_1 rfl (fun c1 => absurd c1 (by omega)) (fun _ => ?_)
  refine g_iload_n d11_chalk_4 rfl ?_
  refine g_sipushv (nI 4095) d11_chalk_5 rfl ?_
  refine g_ic_gt ((rd : Nat) : Int) (4095) 22 (nI_ti (by omega)) (by decide) d11_chalk_8 rfl (fun c8 => absurd c8 (by omega)) (fun _ => ?_)
  refine g_iload_n d11_chalk_11 rfl ?_
  refine g_iz_lt ((mv : Nat) : Int) 22 (nI_ti (by omega)) d11_chalk_12 rfl (fun c12 => absurd c12 (by omega)) (fun _ => ?_)
  refine g_iload_n d11_chalk_15 rfl ?_
  refine g_sipushv (nI 4095) d11_chalk_16 rfl ?_
  refine g_ic_le ((mv : Nat) : Int) (4095) 24 (nI_ti (by omega)) (by decide) d11_chalk_19 rfl (fun _ => ?_) (fun c19 => absurd c19 (by omega))
  refine g_iload_n d11_chalk_24 rfl ?_
  refine g_iconstv (nI 1) d11_chalk_25 rfl ?_
  refine g_ic_lt ((lim : Nat) : Int) (1) 46 (nI_ti (by omega)) (by decide) d11_chalk_26 rfl (fun c26 => absurd c26 (by omega)) (fun _ => ?_)
  refine g_iload_n d11_chalk_29 rfl ?_
  refine g_bipushv (nI 12) d11_chalk_30 rfl ?_
  refine g_ic_gt ((lim : Nat) : Int) (12) 46 (nI_ti (by omega)) (by decide) d11_chalk_32 rfl (fun c32 => absurd c32 (by omega)) (fun _ => ?_)
  refine g_iload d11_chalk_35 rfl ?_
  refine g_iz_lt (2) 46 (by decide) d11_chalk_37 rfl (fun c37 => absurd c37 (by decide)) (fun _ => ?_)
  refine g_iload d11_chalk_40 rfl ?_
  refine g_iconstv (nI 2) d11_chalk_42 rfl ?_
  refine g_ic_le (2) (2) 48 (by decide) (by decide) d11_chalk_43 rfl (fun _ => ?_) (fun c43 => absurd c43 (by decide))
  refine g_iload d11_chalk_48 rfl ?_
  refine g_iz_ne (2) 60 (by decide) d11_chalk_50 rfl (fun _ => ?_) (fun c50 => absurd c50 (by decide))
  refine g_iload_n d11_chalk_60 rfl ?_
  refine g_iload_n d11_chalk_61 rfl ?_
  refine g_callS_2k (kc1 := 1) (ks1 := 12) (kc2 := 0) (ks2 := 0) (Nat.le_refl 1) (Nat.le_refl 12) sm11_chalkMoves ml11_259 (r11_chalkMoves rd lim hr hl (Nat.le_refl 3)) (by omega) (Nat.le_of_ble_eq_true rfl) d11_chalk_62 (fun r h1 hx => ?_)
  obtain ⟨B, ⟨rfl, rfl⟩, hF1, hF2⟩ := hx
  show GL l K m11_chalk d 0 0 65 _ (.int (nI (cb rd lim 4096).2) :: []) _ _
  refine g_istore d11_chalk_65 (by decide) ?_
  refine g_iload d11_chalk_67 rfl ?_
  refine g_iconstv (nI 1) d11_chalk_69 rfl ?_
  refine g_ic_ne (2) (1) 81 (by decide) (by decide) d11_chalk_70 rfl (fun _ => ?_) (fun c70 => absurd c70 (by decide))
  refine g_iload d11_chalk_81 rfl ?_
  exact g_iret rfl d11_chalk_83 (⟨B, rfl, rfl⟩)
