/-- what has changed: cells of ints, cells of longs -/
def FK (ci cl : List Nat) (I : wI) (L : wL) (I2 : wI) (L2 : wL) : Prop := (∀ k, k ∉ ci → I2 k = I k) ∧ ∀ k, k ∉ cl → L2 k = L k
theorem FK.rf {ci cl : List Nat} {I : wI} {L : wL} : FK ci cl I L I L := ⟨fun _ _ => rfl, fun _ _ => rfl⟩
theorem FK.tr {ci cl : List Nat} {I I2 I3 : wI} {L L2 L3 : wL} (h : FK ci cl I L I2 L2) (h2 : FK ci cl I2 L2 I3 L3) : FK ci cl I L I3 L3 := ⟨fun k a => (h2.1 k a).trans (h.1 k a), fun k a => (h2.2 k a).trans (h.2 k a)⟩
theorem FK.up {ci cl ci2 cl2 : List Nat} {I I2 : wI} {L L2 : wL} (h : FK ci cl I L I2 L2) (h1 : ∀ k ∈ ci, k ∈ ci2) (h2 : ∀ k ∈ cl, k ∈ cl2) : FK ci2 cl2 I L I2 L2 := ⟨fun k a => h.1 k (fun q => a (h1 k q)), fun k a => h.2 k (fun q => a (h2 k q))⟩
theorem FK.ui {ci cl : List Nat} {I I2 : wI} {L L2 : wL} (h : FK ci cl I L I2 L2) {k j : Nat} {x : Int32} (hk : k ∈ ci) : FK ci cl I L (uI I2 k j x) L2 := ⟨fun a b => (uI_n (by intro q; subst q; exact b hk)).trans (h.1 a b), h.2⟩
theorem FK.ul {ci cl : List Nat} {I I2 : wI} {L L2 : wL} (h : FK ci cl I L I2 L2) {k j : Nat} {x : Int64} (hk : k ∈ cl) : FK ci cl I L I2 (uL L2 k j x) := ⟨h.1, fun a b => (uL_n (by intro q; subst q; exact b hk)).trans (h.2 a b)⟩
theorem FK.ci {ci cl : List Nat} {I I2 : wI} {L L2 : wL} (h : FK ci cl I L I2 L2) {k : Nat} {F : Nat → Int32} (hk : k ∈ ci) : FK ci cl I L (cI I2 k F) L2 := ⟨fun a b => (cI_n (by intro q; subst q; exact b hk)).trans (h.1 a b), h.2⟩
theorem FK.cl {ci cl : List Nat} {I I2 : wI} {L L2 : wL} (h : FK ci cl I L I2 L2) {k : Nat} {F : Nat → Int64} (hk : k ∈ cl) : FK ci cl I L I2 (cL L2 k F) := ⟨h.1, fun a b => (cL_n (by intro q; subst q; exact b hk)).trans (h.2 a b)⟩
theorem RF.fk22 {I I2 : wI} {L L2 : wL} (h : RF 22 24 I L I2 L2) : FK [22] [22, 24] I L I2 L2 := ⟨fun k a => h.1 k (fun q => a (by simp [q])), fun k a => h.2.2 k (fun q => a (by simp [q])) (fun q => a (by simp [q]))⟩
theorem RF.fk30 {I I2 : wI} {L L2 : wL} (h : RF 30 32 I L I2 L2) : FK [30] [30, 32] I L I2 L2 := ⟨fun k a => h.1 k (fun q => a (by simp [q])), fun k a => h.2.2 k (fun q => a (by simp [q])) (fun q => a (by simp [q]))⟩
/-- the words of the terms -/
def WW (I : wI) (g : Nat → Int32) (wa : Int32) : Prop := I 23 2 = g 9 ∧ I 23 3 = wa ∧ I 23 6 = g 13
theorem WW.of {I I2 : wI} {g : Nat → Int32} {wa : Int32} (h : WW I g wa) (e : I2 23 = I 23) : WW I2 g wa := by unfold WW; rw [e]; exact h
/-- whom he spares needs no sum -/
def SPR (cs : List Cl) : Prop := ∀ n, n < cs.length → (cs.getD n (0, d0, d0)).1 = 2 → (cs.getD n (0, d0, d0)).2.1 = d1
/-- the law, or none -/
def LWc (dy : cH) (o : Option Nat) (lc : Option (List Cl)) : Prop := (o = none ∧ lc = none) ∨ ∃ T cs, o = some T ∧ lc = some cs ∧ CTX dy T cs ∧ SPR cs
def tO (lc : Option (List Cl)) (env : Nat → Int64) (head : Nat) : Option Int64 := match lc with
  | none => none
  | some cs => tW cs env head cs.length
def lfO (lc : Option (List Cl)) : lawF := lc.map txF
def fiO (lc : Option (List Cl)) (env : Nat → Int64) : Option Nat := (tO lc env 1).map (fun v => (clp 0 99 v).toNat)
theorem tO_cm0 {lc : Option (List Cl)} {env : Nat → Int64} (h : tO lc env 0 = none) : cmF (lfO lc) env = 5 := by
  cases lc with
  | none => rfl
  | some cs =>
    show (clp 0 10 ((tW cs env 0 cs.length).getD 5)).toNat = 5
    have h2 : tW cs env 0 cs.length = none := h
    rw [h2]; rfl
theorem tO_cm1 {lc : Option (List Cl)} {env : Nat → Int64} {v : Int64} (h : tO lc env 0 = some v) : cmF (lfO lc) env = (clp 0 10 v).toNat := by
  cases lc with
  | none => cases h
  | some cs =>
    show (clp 0 10 ((tW cs env 0 cs.length).getD 5)).toNat = _
    have h2 : tW cs env 0 cs.length = some v := h
    rw [h2]; rfl
theorem clp_id {hi n : Nat} (h : n ≤ hi) (hh : hi < 1000) : (clp 0 hi (lN n)).toNat = n := by
  unfold clp; rw [lN_toInt (by omega), if_neg (by omega), if_neg (by omega)]; omega
theorem fiO_F {lc : Option (List Cl)} {env : Nat → Int64} {fine : Nat} (hf : fine ≤ 99) : fiF (lfO lc) env fine = (fiO lc env).getD fine := by
  cases lc with
  | none => rfl
  | some cs =>
    show (clp 0 99 ((tW cs env 1 cs.length).getD (lN fine))).toNat = ((tW cs env 1 cs.length).map (fun v => (clp 0 99 v).toNat)).getD fine
    cases tW cs env 1 cs.length with
    | none => exact clp_id (hi := 99) hf (by decide)
    | some v => rfl
theorem fiO_le {lc : Option (List Cl)} {env : Nat → Int64} {t : Nat} (h : fiO lc env = some t) : t ≤ 99 := by
  unfold fiO at h
  cases hv : tO lc env 1 with
  | none => rw [hv] at h; cases h
  | some v => rw [hv] at h; injection h with h; rw [← h]; exact clp_toNat_le v 99
theorem tW_spr {cs : List Cl} (h : SPR cs) (env : Nat → Int64) : ∀ n, n ≤ cs.length → ∀ v, tW cs env 2 n = some v → v = 1
  | 0, _, v, hv => by cases hv
  | n + 1, hn, v, hv => by
    have e : tW cs env 2 (n + 1) = (tl1 (cs.getD n (0, d0, d0)) env 2).elim (tW cs env 2 n) some := rfl
    rw [e] at hv
    have hs := h n (by omega)
    generalize cs.getD n (0, d0, d0) = c at *
    cases ht : tl1 c env 2 with
    | none => rw [ht] at hv; exact tW_spr h env n (by omega) v hv
    | some u =>
      rw [ht] at hv
      have hu : u = v := by injection hv
      subst hu
      unfold tl1 at ht
      by_cases h2 : c.1 = 2
      · rw [if_pos h2, hs h2] at ht
        cases hq : c.2.2 env with
        | none => rw [hq] at ht; cases ht
        | some w =>
          rw [hq] at ht
          have ht2 : (if w = 0 then none else some (1 : Int64)) = some u := ht
          by_cases hw : w = 0
          · rw [if_pos hw] at ht2; cases ht2
          · rw [if_neg hw] at ht2; injection ht2 with ht2; exact ht2.symm
      · rw [if_neg h2] at ht; cases ht
theorem sp_O {dy : cH} {o : Option Nat} {lc : Option (List Cl)} (hL : LWc dy o lc) (env : Nat → Int64) : spB (lfO lc) env = (tO lc env 2).isSome := by
  rcases hL with ⟨_, rfl⟩ | ⟨T, cs, _, rfl, _, hs⟩
  · rfl
  · show decide ((tW cs env 2 cs.length).getD 0 = 1) = (tW cs env 2 cs.length).isSome
    cases hv : tW cs env 2 cs.length with
    | none => rfl
    | some v => rw [tW_spr hs env _ (Nat.le_refl _) v hv]; rfl
/-- what he fines: -1 if nothing is told -/
def foI (o : Option Nat) : Int32 := match o with
  | none => -1
  | some t => nI t
def pw (I : wI) (a b c e : Int32) : wI := uI (uI (uI (uI I 23 0 a) 23 1 b) 23 4 c) 23 5 e
theorem pw_n {I : wI} {a b c e : Int32} {k : Nat} (h : k ≠ 23) : pw I a b c e k = I k := by unfold pw; rw [uI_n h, uI_n h, uI_n h, uI_n h]
theorem pw_fk {I : wI} {L : wL} {a b c e : Int32} {ci cl : List Nat} (h : 23 ∈ ci) : FK ci cl I L (pw I a b c e) L := (((FK.rf.ui h).ui h).ui h).ui h
theorem pw_ww {I : wI} {a b c e : Int32} {g : Nat → Int32} {wa : Int32} (h : WW I g wa) : WW (pw I a b c e) g wa := by
  obtain ⟨h1, h2, h3⟩ := h
  refine ⟨?_, ?_, ?_⟩ <;> (unfold pw; rw [uI_sn (by decide), uI_sn (by decide), uI_sn (by decide), uI_sn (by decide)]; assumption)
theorem pw_env {I : wI} {a b c e : Int32} {g : Nat → Int32} {wa : Int32} (h : WW I g wa) : ∀ j, j < 7 → lE a.toInt64 b.toInt64 (g 9).toInt64 wa.toInt64 c.toInt64 e.toInt64 (g 13).toInt64 (j + 1) = (pw I a b c e 23 j).toInt64 := by
  intro j hj
  obtain ⟨h1, h2, h3⟩ := h
  rcases (by omega : j = 0 ∨ j = 1 ∨ j = 2 ∨ j = 3 ∨ j = 4 ∨ j = 5 ∨ j = 6) with rfl | rfl | rfl | rfl | rfl | rfl | rfl <;> simp [pw, uI_at, lE, h1, h2, h3]
/-- a car's stay -/
def STA (I : wI) (c fr ti se fl coin per fine : Nat) : Prop := I 28 0 = nI c ∧ I 28 1 = nI fr ∧ I 28 2 = nI ti ∧ I 28 3 = (if se = 1 then 1 else 0) ∧ I 28 4 = nI fl ∧ I 28 5 = nI coin ∧ I 28 6 = nI per ∧ I 28 7 = nI fine ∧ c < 6 ∧ fr ≤ ti ∧ ti ≤ 11 ∧ se ≤ 1 ∧ fl ≤ 9 ∧ coin ≤ 9 ∧ per ≤ 4 ∧ fine ≤ 99
theorem STA.of {I I2 : wI} {c fr ti se fl coin per fine : Nat} (h : STA I c fr ti se fl coin per fine) (e : I2 28 = I 28) : STA I2 c fr ti se fl coin per fine := by unfold STA; rw [e]; exact h
/-- the class's car and terms -/
def CC1 (I : wI) (c fr ti se fl : Nat) : Prop := c < 6 ∧ I 2 (c * 4 + 0) = nI fr ∧ I 2 (c * 4 + 1) = nI ti ∧ I 2 (c * 4 + 2) = nI se ∧ I 2 (c * 4 + 3) = nI fl ∧ fr ≤ ti ∧ ti ≤ 11 ∧ se ≤ 1 ∧ fl ≤ 9
def CT (I : wI) (coin per fine : Nat) : Prop := I 3 0 = nI coin ∧ coin ≤ 9 ∧ I 3 1 = nI per ∧ 1 ≤ per ∧ per ≤ 4 ∧ I 3 2 = nI fine ∧ fine ≤ 99
theorem CC1.of {I I2 : wI} {c fr ti se fl : Nat} (h : CC1 I c fr ti se fl) (e : I2 2 = I 2) : CC1 I2 c fr ti se fl := by unfold CC1; rw [e]; exact h
theorem CT.of {I I2 : wI} {coin per fine : Nat} (h : CT I coin per fine) (e : I2 3 = I 3) : CT I2 coin per fine := by unfold CT; rw [e]; exact h
theorem r5_22_h {l : Launch} {K : cK} {d : Nat} {I : wI} {L : wL} {R : wR} {dy : cH} (o : Option Nat) (lc : Option (List Cl)) (hL : LWc dy o lc) (head : Nat) (hh : head ≤ 2) (env : Nat → Int64) (henv : ∀ j, j < 7 → env (j + 1) = (I 23 j).toInt64) (hd : 2 ≤ d) : CX l K m5_lastHolds d [.ref 22, rfv o, .int (nI head)] (hp I L R dy) (α := wI × wL) (fun x => RF 22 24 I L x.1 x.2 ∧ ∀ v, tO lc env head = some v → x.2 22 4 = v) (fun _ => .int (if (tO lc env head).isSome = true then 1 else 0)) (fun x => hp x.1 x.2 R dy) := by
  rcases hL with ⟨rfl, rfl⟩ | ⟨T, cs, rfl, rfl, hC, _⟩
  · refine CC.mono (r5_22_hnull (l := l) (K := K) (I := I) (L := L) (R := R) (dy := dy) head (Nat.zero_le d)) (fun r h1 q => ?_)
    exact ⟨(I, L), ⟨⟨fun _ _ => rfl, fun _ _ _ => rfl, fun _ _ _ => rfl⟩, fun v hv => by cases hv⟩, q.1, q.2⟩
  · exact r5_22_holds hC head hh env henv hd
set_option maxHeartbeats 200000 in
theorem r10_putWords {l : Launch} {K : cK} {d : Nat} {I : wI} {L : wL} {R : wR} {dy : cH} (a b c e : Int32) (hd : 0 ≤ d) : CV l K m10_putWords d [.ref 21, .int a, .int b, .int c, .int e] (hp I L R dy) (hp (pw I a b c e) L R dy) := by
  refine CC.of ok10_putWords (Nat.le_of_ble_eq_true rfl) ?_
  refine g_aload_n d10_putWords_0 rfl ?_
  refine g_get fl10_12 d10_putWords_1 f_21_0 ?_
  refine g_get fl10_43 d10_putWords_4 f_22_0 ?_
  refine g_iconstv (nI 0) d10_putWords_7 rfl ?_
  refine g_iload_n d10_putWords_8 rfl ?_
  refine g_iastN (0) _ d10_putWords_9 a_23 (rfl) (by omega) (by decide) t_23 ?_
  refine g_aload_n d10_putWords_10 rfl ?_
  refine g_get fl10_12 d10_putWords_11 f_21_0 ?_
  refine g_get fl10_43 d10_putWords_14 f_22_0 ?_
  refine g_iconstv (nI 1) d10_putWords_17 rfl ?_
  refine g_iload_n d10_putWords_18 rfl ?_
  refine g_iastN (1) _ d10_putWords_19 a_23 (rfl) (by omega) (by decide) t_23 ?_
  refine g_aload_n d10_putWords_20 rfl ?_
  refine g_get fl10_12 d10_putWords_21 f_21_0 ?_
  refine g_get fl10_43 d10_putWords_24 f_22_0 ?_
  refine g_iconstv (nI 4) d10_putWords_27 rfl ?_
  refine g_iload_n d10_putWords_28 rfl ?_
  refine g_iastN (4) _ d10_putWords_29 a_23 (rfl) (by omega) (by decide) t_23 ?_
  refine g_aload_n d10_putWords_30 rfl ?_
  refine g_get fl10_12 d10_putWords_31 f_21_0 ?_
  refine g_get fl10_43 d10_putWords_34 f_22_0 ?_
  refine g_iconstv (nI 5) d10_putWords_37 rfl ?_
  refine g_iload d10_putWords_38 rfl ?_
  refine g_iastN (5) _ d10_putWords_40 a_23 (rfl) (by omega) (by decide) t_23 ?_
  exact g_vret rfl d10_putWords_41 (⟨rfl, rfl⟩)
set_option maxHeartbeats 200000 in
theorem r10_comes {l : Launch} {K : cK} {d : Nat} {I : wI} {L : wL} {R : wR} {dy : cH} (g : Nat → Int32) (wa : Int32) (hw : WW I g wa) (lc : Option (List Cl)) (hL : LWc dy (R 21 1) lc) (s k : Nat) (hs : s < 100) (hk : k < 100) (hd : 3 ≤ d) : CX l K m10_comesOfTen d [.ref 21, .int (nI s), .int (nI k)] (hp I L R dy) (α := wI × wL) (fun x => FK [22, 23] [22, 24] I L x.1 x.2 ∧ WW x.1 g wa) (fun _ => .int (nI (cmR g wa (lfO lc) s k))) (fun x => hp x.1 x.2 R dy) := by
  have he : ∀ j, j < 7 → (lE (lN s) (lN k) (g 9).toInt64 wa.toInt64 (-1) (-1) (g 13).toInt64) (j + 1) = (pw I (nI s) (nI k) (-1) (-1) 23 j).toInt64 := fun j hj => by
    rw [← nI_l (show s < 2 ^ 31 by omega), ← nI_l (show k < 2 ^ 31 by omega)]
    have hm1 : (-1 : Int32).toInt64 = (-1 : Int64) := by decide
    have z := pw_env (a := nI s) (b := nI k) (c := -1) (e := -1) hw j hj
    rw [hm1] at z
    exact z
  refine CC.of ok10_comesOfTen (Nat.le_of_ble_eq_true rfl) ?_
  refine g_aload_n d10_comesOfTen_0 rfl ?_
  refine g_iload_n d10_comesOfTen_1 rfl ?_
  refine g_iload_n d10_comesOfTen_2 rfl ?_
  refine g_iconstv ((-1 : Int32)) d10_comesOfTen_3 rfl ?_
  refine g_iconstv ((-1 : Int32)) d10_comesOfTen_4 rfl ?_
  refine g_VV4 vm10_putWords ml10_55 c_21 (r10_putWords (nI s) (nI k) (-1) (-1) (Nat.le_refl 0)) (by omega) (Nat.le_of_ble_eq_true rfl) d10_comesOfTen_5 ?_
  refine g_aload_n d10_comesOfTen_8 rfl ?_
  refine g_get fl10_12 d10_comesOfTen_9 f_21_0 ?_
  refine g_aload_n d10_comesOfTen_12 rfl ?_
  refine g_get fl10_39 d10_comesOfTen_13 f_21_1 ?_
  refine g_iconstv (nI 0) d10_comesOfTen_16 rfl ?_
  refine g_XV2 vm5_lastHolds ml10_61 c_22 (r5_22_h (I := (pw I (nI s) (nI k) (-1) (-1))) (L := L) (R 21 1) lc hL 0 (by decide) (lE (lN s) (lN k) (g 9).toInt64 wa.toInt64 (-1) (-1) (g 13).toInt64) (he) (Nat.le_refl 2)) (by omega) (Nat.le_of_ble_eq_true rfl) d10_comesOfTen_17 (fun x hx => ?_)
  obtain ⟨hR, hv⟩ := hx
  have hF : FK [22, 23] [22, 24] I L x.1 x.2 := (pw_fk (by decide)).tr (hR.fk22.up (by decide) (by decide))
  have hw2 : WW x.1 g wa := (pw_ww hw).of (hR.1 23 (by decide))
  refine g_bnz 25 d10_comesOfTen_20 rfl (fun c20 => ?_) (fun c20 => ?_)
  · obtain ⟨v, hz⟩ := Option.isSome_iff_exists.mp c20
    have e5 : cmR g wa (lfO lc) s k = (clp 0 10 v).toNat := tO_cm1 hz
    refine g_aload_n d10_comesOfTen_25 rfl ?_
    refine g_get fl10_12 d10_comesOfTen_26 f_21_0 ?_
    refine g_iconstv (nI 0) d10_comesOfTen_29 rfl ?_
    refine g_bipushv (nI 10) d10_comesOfTen_30 rfl ?_
    refine g_EV2 vm5_toldWithin ml10_65 c_22 (r5_22_told (I := x.1) (L := x.2) 10 (by decide) (Nat.le_refl 1)) (by omega) (Nat.le_of_ble_eq_true rfl) d10_comesOfTen_32 ?_
    exact g_iret rfl d10_comesOfTen_35 (⟨x, ⟨hF, hw2⟩, by rw [e5, hv v hz]; rfl, rfl⟩)
  · have hn : tO lc (lE (lN s) (lN k) (g 9).toInt64 wa.toInt64 (-1) (-1) (g 13).toInt64) 0 = none := by
      cases hz : tO lc (lE (lN s) (lN k) (g 9).toInt64 wa.toInt64 (-1) (-1) (g 13).toInt64) 0 with
      | none => rfl
      | some v => exact absurd (by rw [hz]; rfl) c20
    have e5 : cmR g wa (lfO lc) s k = 5 := tO_cm0 hn
    refine g_iconstv (nI 5) d10_comesOfTen_23 rfl ?_
    exact g_iret rfl d10_comesOfTen_24 (⟨x, ⟨hF, hw2⟩, by rw [e5], rfl⟩)
set_option maxHeartbeats 200000 in
theorem r10_told {l : Launch} {K : cK} {d : Nat} {I : wI} {L : wL} {R : wR} {dy : cH} (g : Nat → Int32) (wa : Int32) (hw : WW I g wa) (lc : Option (List Cl)) (hL : LWc dy (R 21 1) lc) (c fr ti se fl coin per fine : Nat) (hS : STA I c fr ti se fl coin per fine) (s k : Nat) (hs1 : fr ≤ s) (hs2 : s < 100) (hk : k < 100) (hd : 3 ≤ d) : CX l K m10_finesTold d [.ref 21, .int (nI s), .int (nI k), .ref 28] (hp I L R dy) (α := wI × wL) (fun x => FK [22, 23] [22, 24] I L x.1 x.2 ∧ WW x.1 g wa) (fun _ => .int (foI (fiO lc (ceR g wa c fr s k)))) (fun x => hp x.1 x.2 R dy) := by
  obtain ⟨u0, u1, u2, u3, u4, u5, u6, u7, u8, u9, u10, u11, u12, u13, u14, u15⟩ := id hS
  have he : ∀ j, j < 7 → (ceR g wa c fr s k) (j + 1) = (pw I (nI s) (nI k) (nI c) (nI (s - fr)) 23 j).toInt64 := fun j hj => by
    unfold ceR; rw [← nI_l (show s < 2 ^ 31 by omega), ← nI_l (show k < 2 ^ 31 by omega), ← nI_l (show c < 2 ^ 31 by omega), ← nI_l (show s - fr < 2 ^ 31 by omega)]; exact pw_env hw j hj
  refine CC.of ok10_finesTold (Nat.le_of_ble_eq_true rfl) ?_
  refine g_aload_n d10_finesTold_0 rfl ?_
  refine g_iload_n d10_finesTold_1 rfl ?_
  refine g_iload_n d10_finesTold_2 rfl ?_
  refine g_aload_n d10_finesTold_3 rfl ?_
  refine g_get fl10_69 d10_finesTold_4 f_28_0 ?_
  refine g_topI (nI (c)) (u0) ?_
  refine g_iload_n d10_finesTold_7 rfl ?_
  refine g_aload_n d10_finesTold_8 rfl ?_
  refine g_get fl10_75 d10_finesTold_9 f_28_1 ?_
  refine g_topI (nI (fr)) (u1) ?_
  refine g_isubN (hs1) d10_finesTold_12 ?_
  refine g_VV4 vm10_putWords ml10_55 c_21 (r10_putWords (nI s) (nI k) (nI c) (nI (s - fr)) (Nat.le_refl 0)) (by omega) (Nat.le_of_ble_eq_true rfl) d10_finesTold_13 ?_
  refine g_aload_n d10_finesTold_16 rfl ?_
  refine g_get fl10_12 d10_finesTold_17 f_21_0 ?_
  refine g_aload_n d10_finesTold_20 rfl ?_
  refine g_get fl10_39 d10_finesTold_21 f_21_1 ?_
  refine g_iconstv (nI 1) d10_finesTold_24 rfl ?_
  refine g_XV2 vm5_lastHolds ml10_61 c_22 (r5_22_h (I := (pw I (nI s) (nI k) (nI c) (nI (s - fr)))) (L := L) (R 21 1) lc hL 1 (by decide) (ceR g wa c fr s k) (he) (Nat.le_refl 2)) (by omega) (Nat.le_of_ble_eq_true rfl) d10_finesTold_25 (fun x hx => ?_)
  obtain ⟨hR, hv⟩ := hx
  have hF : FK [22, 23] [22, 24] I L x.1 x.2 := (pw_fk (by decide)).tr (hR.fk22.up (by decide) (by decide))
  have hw2 : WW x.1 g wa := (pw_ww hw).of (hR.1 23 (by decide))
  refine g_bnz 33 d10_finesTold_28 rfl (fun c28 => ?_) (fun c28 => ?_)
  · obtain ⟨v, hz⟩ := Option.isSome_iff_exists.mp c28
    refine g_aload_n d10_finesTold_33 rfl ?_
    refine g_get fl10_12 d10_finesTold_34 f_21_0 ?_
    refine g_iconstv (nI 0) d10_finesTold_37 rfl ?_
    refine g_bipushv (nI 99) d10_finesTold_38 rfl ?_
    refine g_EV2 vm5_toldWithin ml10_65 c_22 (r5_22_told (I := x.1) (L := x.2) 99 (by decide) (Nat.le_refl 1)) (by omega) (Nat.le_of_ble_eq_true rfl) d10_finesTold_40 ?_
    exact g_iret rfl d10_finesTold_43 (⟨x, ⟨hF, hw2⟩, by unfold fiO; rw [hz, hv v hz]; rfl, rfl⟩)
  · have hn : tO lc (ceR g wa c fr s k) 1 = none := by
      cases hz : tO lc (ceR g wa c fr s k) 1 with
      | none => rfl
      | some v => exact absurd (by rw [hz]; rfl) c28
    refine g_iconstv ((-1 : Int32)) d10_finesTold_31 rfl ?_
    exact g_iret rfl d10_finesTold_32 (⟨x, ⟨hF, hw2⟩, by unfold fiO; rw [hn]; rfl, rfl⟩)
set_option maxHeartbeats 200000 in
theorem r10_spares {l : Launch} {K : cK} {d : Nat} {I : wI} {L : wL} {R : wR} {dy : cH} (g : Nat → Int32) (wa : Int32) (hw : WW I g wa) (lc : Option (List Cl)) (hL : LWc dy (R 21 1) lc) (c fr ti se fl coin per fine : Nat) (hS : STA I c fr ti se fl coin per fine) (s k : Nat) (hs1 : fr ≤ s) (hs2 : s < 100) (hk : k < 100) (hd : 3 ≤ d) : CX l K m10_sparesCar d [.ref 21, .int (nI s), .int (nI k), .ref 28] (hp I L R dy) (α := wI × wL) (fun x => FK [22, 23] [22, 24] I L x.1 x.2 ∧ WW x.1 g wa) (fun _ => .int (if sbR g wa (lfO lc) c fr s k = true then 1 else 0)) (fun x => hp x.1 x.2 R dy) := by
  obtain ⟨u0, u1, u2, u3, u4, u5, u6, u7, u8, u9, u10, u11, u12, u13, u14, u15⟩ := id hS
  have he : ∀ j, j < 7 → (ceR g wa c fr s k) (j + 1) = (pw I (nI s) (nI k) (nI c) (nI (s - fr)) 23 j).toInt64 := fun j hj => by
    unfold ceR; rw [← nI_l (show s < 2 ^ 31 by omega), ← nI_l (show k < 2 ^ 31 by omega), ← nI_l (show c < 2 ^ 31 by omega), ← nI_l (show s - fr < 2 ^ 31 by omega)]; exact pw_env hw j hj
  refine CC.of ok10_sparesCar (Nat.le_of_ble_eq_true rfl) ?_
  refine g_aload_n d10_sparesCar_0 rfl ?_
  refine g_iload_n d10_sparesCar_1 rfl ?_
  refine g_iload_n d10_sparesCar_2 rfl ?_
  refine g_aload_n d10_sparesCar_3 rfl ?_
  refine g_get fl10_69 d10_sparesCar_4 f_28_0 ?_
  refine g_topI (nI (c)) (u0) ?_
  refine g_iload_n d10_sparesCar_7 rfl ?_
  refine g_aload_n d10_sparesCar_8 rfl ?_
  refine g_get fl10_75 d10_sparesCar_9 f_28_1 ?_
  refine g_topI (nI (fr)) (u1) ?_
  refine g_isubN (hs1) d10_sparesCar_12 ?_
  refine g_VV4 vm10_putWords ml10_55 c_21 (r10_putWords (nI s) (nI k) (nI c) (nI (s - fr)) (Nat.le_refl 0)) (by omega) (Nat.le_of_ble_eq_true rfl) d10_sparesCar_13 ?_
  refine g_aload_n d10_sparesCar_16 rfl ?_
  refine g_get fl10_12 d10_sparesCar_17 f_21_0 ?_
  refine g_aload_n d10_sparesCar_20 rfl ?_
  refine g_get fl10_39 d10_sparesCar_21 f_21_1 ?_
  refine g_iconstv (nI 2) d10_sparesCar_24 rfl ?_
  refine g_XV2 vm5_lastHolds ml10_61 c_22 (r5_22_h (I := (pw I (nI s) (nI k) (nI c) (nI (s - fr)))) (L := L) (R 21 1) lc hL 2 (by decide) (ceR g wa c fr s k) (he) (Nat.le_refl 2)) (by omega) (Nat.le_of_ble_eq_true rfl) d10_sparesCar_25 (fun x hx => ?_)
  obtain ⟨hR, hv⟩ := hx
  have hF : FK [22, 23] [22, 24] I L x.1 x.2 := (pw_fk (by decide)).tr (hR.fk22.up (by decide) (by decide))
  have hw2 : WW x.1 g wa := (pw_ww hw).of (hR.1 23 (by decide))
  exact g_zret rfl (b01 _) d10_sparesCar_28 (⟨x, ⟨hF, hw2⟩, by unfold sbR; rw [sp_O hL], rfl⟩)
set_option maxHeartbeats 200000 in
theorem r10_finesOf {l : Launch} {K : cK} {d : Nat} {I : wI} {L : wL} {R : wR} {dy : cH} (g : Nat → Int32) (wa : Int32) (hw : WW I g wa) (lc : Option (List Cl)) (hL : LWc dy (R 21 1) lc) (c fr ti se fl coin per fine : Nat) (hS : STA I c fr ti se fl coin per fine) (s k : Nat) (hs1 : fr ≤ s) (hs2 : s < 100) (hk : k < 100) (hd : 3 ≤ d) : CX l K m10_finesOf d [.ref 21, .int (nI s), .int (nI k), .ref 28] (hp I L R dy) (α := wI × wL) (fun x => FK [22, 23] [22, 24] I L x.1 x.2 ∧ WW x.1 g wa) (fun _ => .int (nI (fnR g wa (lfO lc) c fr fine s k))) (fun x => hp x.1 x.2 R dy) := by
  obtain ⟨u0, u1, u2, u3, u4, u5, u6, u7, u8, u9, u10, u11, u12, u13, u14, u15⟩ := id hS
  have he : ∀ j, j < 7 → (ceR g wa c fr s k) (j + 1) = (pw I (nI s) (nI k) (nI c) (nI (s - fr)) 23 j).toInt64 := fun j hj => by
    unfold ceR; rw [← nI_l (show s < 2 ^ 31 by omega), ← nI_l (show k < 2 ^ 31 by omega), ← nI_l (show c < 2 ^ 31 by omega), ← nI_l (show s - fr < 2 ^ 31 by omega)]; exact pw_env hw j hj
  have hsp := sp_O hL (ceR g wa c fr s k)
  refine CC.of ok10_finesOf (Nat.le_of_ble_eq_true rfl) ?_
  refine g_aload_n d10_finesOf_0 rfl ?_
  refine g_iload_n d10_finesOf_1 rfl ?_
  refine g_iload_n d10_finesOf_2 rfl ?_
  refine g_aload_n d10_finesOf_3 rfl ?_
  refine g_get fl10_69 d10_finesOf_4 f_28_0 ?_
  refine g_topI (nI (c)) (u0) ?_
  refine g_iload_n d10_finesOf_7 rfl ?_
  refine g_aload_n d10_finesOf_8 rfl ?_
  refine g_get fl10_75 d10_finesOf_9 f_28_1 ?_
  refine g_topI (nI (fr)) (u1) ?_
  refine g_isubN (hs1) d10_finesOf_12 ?_
  refine g_VV4 vm10_putWords ml10_55 c_21 (r10_putWords (nI s) (nI k) (nI c) (nI (s - fr)) (Nat.le_refl 0)) (by omega) (Nat.le_of_ble_eq_true rfl) d10_finesOf_13 ?_
  refine g_aload_n d10_finesOf_16 rfl ?_
  refine g_get fl10_12 d10_finesOf_17 f_21_0 ?_
  refine g_aload_n d10_finesOf_20 rfl ?_
  refine g_get fl10_39 d10_finesOf_21 f_21_1 ?_
  refine g_iconstv (nI 2) d10_finesOf_24 rfl ?_
  refine g_XV2 vm5_lastHolds ml10_61 c_22 (r5_22_h (I := (pw I (nI s) (nI k) (nI c) (nI (s - fr)))) (L := L) (R 21 1) lc hL 2 (by decide) (ceR g wa c fr s k) (he) (Nat.le_refl 2)) (by omega) (Nat.le_of_ble_eq_true rfl) d10_finesOf_25 (fun x hx => ?_)
  obtain ⟨hR, hv⟩ := hx
  have hF : FK [22, 23] [22, 24] I L x.1 x.2 := (pw_fk (by decide)).tr (hR.fk22.up (by decide) (by decide))
  have hw2 : WW x.1 g wa := (pw_ww hw).of (hR.1 23 (by decide))
  refine g_bz 33 d10_finesOf_28 rfl (fun c28 => ?_) (fun c28 => ?_)
  · have e5 : fnR g wa (lfO lc) c fr fine s k = (fiO lc (ceR g wa c fr s k)).getD fine := by
      unfold fnR; rw [if_neg (by rw [hsp]; exact c28), fiO_F u15]
    refine g_aload_n d10_finesOf_33 rfl ?_
    refine g_get fl10_12 d10_finesOf_34 f_21_0 ?_
    refine g_aload_n d10_finesOf_37 rfl ?_
    refine g_get fl10_39 d10_finesOf_38 f_21_1 ?_
    refine g_iconstv (nI 1) d10_finesOf_41 rfl ?_
    refine g_XV2 vm5_lastHolds ml10_61 c_22 (r5_22_h (I := x.1) (L := x.2) (R 21 1) lc hL 1 (by decide) (ceR g wa c fr s k) (fun j hj => by rw [hR.1 23 (by decide)]; exact he j hj) (Nat.le_refl 2)) (by omega) (Nat.le_of_ble_eq_true rfl) d10_finesOf_42 (fun y hy => ?_)
    obtain ⟨hR2, hv2⟩ := hy
    have hF2 : FK [22, 23] [22, 24] I L y.1 y.2 := hF.tr (hR2.fk22.up (by decide) (by decide))
    have hw3 : WW y.1 g wa := hw2.of (hR2.1 23 (by decide))
    refine g_bnz 53 d10_finesOf_45 rfl (fun c45 => ?_) (fun c45 => ?_)
    · obtain ⟨v, hz⟩ := Option.isSome_iff_exists.mp c45
      refine g_aload_n d10_finesOf_53 rfl ?_
      refine g_get fl10_12 d10_finesOf_54 f_21_0 ?_
      refine g_iconstv (nI 0) d10_finesOf_57 rfl ?_
      refine g_bipushv (nI 99) d10_finesOf_58 rfl ?_
      refine g_EV2 vm5_toldWithin ml10_65 c_22 (r5_22_told (I := y.1) (L := y.2) 99 (by decide) (Nat.le_refl 1)) (by omega) (Nat.le_of_ble_eq_true rfl) d10_finesOf_60 ?_
      exact g_iret rfl d10_finesOf_63 (⟨y, ⟨hF2, hw3⟩, by rw [e5]; unfold fiO; rw [hz, hv2 v hz]; rfl, rfl⟩)
    · have hn : tO lc (ceR g wa c fr s k) 1 = none := by
        cases hz : tO lc (ceR g wa c fr s k) 1 with
        | none => rfl
        | some v => exact absurd (by rw [hz]; rfl) c45
      refine g_aload_n d10_finesOf_48 rfl ?_
      refine g_get fl10_78 d10_finesOf_49 f_28_7 ?_
      refine g_topI (nI (fine)) (((congrFun ((hF2.1 28 (by decide))) 7).trans u7)) ?_
      exact g_iret rfl d10_finesOf_52 (⟨y, ⟨hF2, hw3⟩, by rw [e5]; unfold fiO; rw [hn]; rfl, rfl⟩)
  · have e5 : fnR g wa (lfO lc) c fr fine s k = 0 := if_pos (by rw [hsp]; exact c28)
    refine g_iconstv (nI 0) d10_finesOf_31 rfl ?_
    exact g_iret rfl d10_finesOf_32 (⟨x, ⟨hF, hw2⟩, by rw [e5], rfl⟩)
set_option maxHeartbeats 200000 in
theorem r10_serve1 {l : Launch} {K : cK} {d : Nat} {I : wI} {L : wL} {R : wR} {dy : cH} (n a : Nat) (hn : I 1 3 = nI n) (hn6 : n ≤ 6) (ha : a < n) (T : Nat) (hT : R 4 a = some T) (wa : Int32) (hd : 1 ≤ d) : CV l K m10_serve d [.ref 21, .ref 1, .int (nI a), .int wa] (hp I L R dy) (hp (uI (uI (uI I 23 2 (I 3 3)) 23 3 wa) 23 6 (I 3 7)) L (uR R 21 1 (some T)) dy) := by
  refine CC.of ok10_serve (Nat.le_of_ble_eq_true rfl) ?_
  refine g_aload_n d10_serve_0 rfl ?_
  refine g_aload_n d10_serve_1 rfl ?_
  refine g_iload_n d10_serve_2 rfl ?_
  refine g_EV1 vm6_hasLaw ml10_29 c_1 (r6_hasLawI (xi := ((a : Nat) : Int)) n (by exact hn) hn6 (nI_ti (by omega)) (Nat.le_refl 0)) (by omega) (Nat.le_of_ble_eq_true rfl) d10_serve_3 ?_
  refine g_bz 18 d10_serve_6 rfl (fun c6 => absurd (by omega) c6) (fun _ => ?_)
  refine g_aload_n d10_serve_9 rfl ?_
  refine g_get fl10_35 d10_serve_10 f_1_4 ?_
  refine g_iload_n d10_serve_13 rfl ?_
  refine g_aaldN (a) 3 "CoinsWarden$Text" (by decide) d10_serve_14 a_4 (rfl) (by omega) (by decide) ?_
  refine g_topV (.ref T) (by rw [hT]; rfl) ?_
  refine g_goto 19 d10_serve_15 rfl ?_
  refine g_putR fl10_39 d10_serve_19 f_21_1 ?_
  refine g_hp (hp I L (uR R 21 1 (some T)) dy) rfl ?_
  refine g_aload_n d10_serve_22 rfl ?_
  refine g_get fl10_12 d10_serve_23 f_21_0 ?_
  refine g_get fl10_43 d10_serve_26 f_22_0 ?_
  refine g_iconstv (nI 2) d10_serve_29 rfl ?_
  refine g_aload_n d10_serve_30 rfl ?_
  refine g_get fl10_46 d10_serve_31 f_1_2 ?_
  refine g_iconstv (nI 3) d10_serve_34 rfl ?_
  refine g_ialdN (3) d10_serve_35 a_3 (rfl) (by omega) (by decide) ?_
  refine g_iastN (2) _ d10_serve_36 a_23 (rfl) (by omega) (by decide) t_23 ?_
  refine g_aload_n d10_serve_37 rfl ?_
  refine g_get fl10_12 d10_serve_38 f_21_0 ?_
  refine g_get fl10_43 d10_serve_41 f_22_0 ?_
  refine g_iconstv (nI 3) d10_serve_44 rfl ?_
  refine g_iload_n d10_serve_45 rfl ?_
  refine g_iastN (3) _ d10_serve_46 a_23 (rfl) (by omega) (by decide) t_23 ?_
  refine g_aload_n d10_serve_47 rfl ?_
  refine g_get fl10_12 d10_serve_48 f_21_0 ?_
  refine g_get fl10_43 d10_serve_51 f_22_0 ?_
  refine g_bipushv (nI 6) d10_serve_54 rfl ?_
  refine g_aload_n d10_serve_56 rfl ?_
  refine g_get fl10_46 d10_serve_57 f_1_2 ?_
  refine g_bipushv (nI 7) d10_serve_60 rfl ?_
  refine g_ialdN (7) d10_serve_62 a_3 (rfl) (by omega) (by decide) ?_
  refine g_topI (I 3 (7)) rfl ?_
  refine g_iastN (6) _ d10_serve_63 a_23 (rfl) (by omega) (by decide) t_23 ?_
  exact g_vret rfl d10_serve_64 (⟨rfl, rfl⟩)
set_option maxHeartbeats 200000 in
theorem r10_serve0 {l : Launch} {K : cK} {d : Nat} {I : wI} {L : wL} {R : wR} {dy : cH} (n : Nat) (a : Int32) (hn : I 1 3 = nI n) (hn6 : n ≤ 6) (ha : ¬ (0 ≤ a.toInt ∧ a.toInt < n)) (wa : Int32) (hd : 1 ≤ d) : CV l K m10_serve d [.ref 21, .ref 1, .int a, .int wa] (hp I L R dy) (hp (uI (uI (uI I 23 2 (I 3 3)) 23 3 wa) 23 6 (I 3 7)) L (uR R 21 1 none) dy) := by
  refine CC.of ok10_serve (Nat.le_of_ble_eq_true rfl) ?_
  refine g_aload_n d10_serve_0 rfl ?_
  refine g_aload_n d10_serve_1 rfl ?_
  refine g_iload_n d10_serve_2 rfl ?_
  refine g_EV1 vm6_hasLaw ml10_29 c_1 (r6_hasLawI  n (by exact hn) hn6 (rfl) (Nat.le_refl 0)) (by omega) (Nat.le_of_ble_eq_true rfl) d10_serve_3 ?_
  refine g_bz 18 d10_serve_6 rfl (fun _ => ?_) (fun c6 => absurd c6 (by exact fun z => ha z))
  refine g_null d10_serve_18 ?_
  refine g_putN fl10_39 d10_serve_19 f_21_1 ?_
  refine g_hp (hp I L (uR R 21 1 none) dy) rfl ?_
  refine g_aload_n d10_serve_22 rfl ?_
  refine g_get fl10_12 d10_serve_23 f_21_0 ?_
  refine g_get fl10_43 d10_serve_26 f_22_0 ?_
  refine g_iconstv (nI 2) d10_serve_29 rfl ?_
  refine g_aload_n d10_serve_30 rfl ?_
  refine g_get fl10_46 d10_serve_31 f_1_2 ?_
  refine g_iconstv (nI 3) d10_serve_34 rfl ?_
  refine g_ialdN (3) d10_serve_35 a_3 (rfl) (by omega) (by decide) ?_
  refine g_iastN (2) _ d10_serve_36 a_23 (rfl) (by omega) (by decide) t_23 ?_
  refine g_aload_n d10_serve_37 rfl ?_
  refine g_get fl10_12 d10_serve_38 f_21_0 ?_
  refine g_get fl10_43 d10_serve_41 f_22_0 ?_
  refine g_iconstv (nI 3) d10_serve_44 rfl ?_
  refine g_iload_n d10_serve_45 rfl ?_
  refine g_iastN (3) _ d10_serve_46 a_23 (rfl) (by omega) (by decide) t_23 ?_
  refine g_aload_n d10_serve_47 rfl ?_
  refine g_get fl10_12 d10_serve_48 f_21_0 ?_
  refine g_get fl10_43 d10_serve_51 f_22_0 ?_
  refine g_bipushv (nI 6) d10_serve_54 rfl ?_
  refine g_aload_n d10_serve_56 rfl ?_
  refine g_get fl10_46 d10_serve_57 f_1_2 ?_
  refine g_bipushv (nI 7) d10_serve_60 rfl ?_
  refine g_ialdN (7) d10_serve_62 a_3 (rfl) (by omega) (by decide) ?_
  refine g_topI (I 3 (7)) rfl ?_
  refine g_iastN (6) _ d10_serve_63 a_23 (rfl) (by omega) (by decide) t_23 ?_
  exact g_vret rfl d10_serve_64 (⟨rfl, rfl⟩)
set_option maxHeartbeats 200000 in
theorem r10_free {l : Launch} {K : cK} {d : Nat} {I : wI} {L : wL} {R : wR} {dy : cH}  (hd : 1 ≤ d) : CV l K m10_freeSlots d [.ref 21] (hp I L R dy) (hp (cI I 25 (fil (I 25) (-1) 12)) L R dy) := by
  refine CC.of ok10_freeSlots (Nat.le_of_ble_eq_true rfl) ?_
  refine g_aload_n d10_freeSlots_0 rfl ?_
  refine g_get fl10_18 d10_freeSlots_1 f_21_2 ?_
  refine g_iconstv ((-1 : Int32)) d10_freeSlots_4 rfl ?_
  refine g_VS2 smAr_fill ml10_49 (rAr_fill_25 (-1) (Nat.le_refl 0)) (by omega) (Nat.le_of_ble_eq_true rfl) d10_freeSlots_5 ?_
  exact g_vret rfl d10_freeSlots_8 (⟨rfl, rfl⟩)
def stI8 (I : wI) (c : Nat) : wI := uI (uI (uI (uI (uI (uI (uI (uI I 28 0 (nI c)) 28 1 (I 2 (c * 4 + 0))) 28 2 (I 2 (c * 4 + 1))) 28 3 (if I 2 (c * 4 + 2) = 1 then 1 else 0)) 28 4 (I 2 (c * 4 + 3))) 28 5 (I 3 0)) 28 6 (I 3 1)) 28 7 (I 3 2)
set_option maxHeartbeats 200000 in
theorem r7_take0 {l : Launch} {K : cK} {d : Nat} {I : wI} {L : wL} {R : wR} {dy : cH} (c : Nat) (hc : c < 6) (hd : 1 ≤ d) : CV l K m7_take d [.ref 28, .ref 1, .int (nI c)] (hp I L R dy) (hp (stI8 I c) L R dy) := by
  refine CC.of ok7_take (Nat.le_of_ble_eq_true rfl) ?_
  unfold stI8
  by_cases hs : I 2 (c * 4 + 2) = 1
  · rw [if_pos hs]
    refine g_aload_n d7_take_0 rfl ?_
    refine g_iload_n d7_take_1 rfl ?_
    refine g_putIh _ fl7_9 d7_take_2 f_28_0 s_28_0 ?_
    refine g_aload_n d7_take_5 rfl ?_
    refine g_aload_n d7_take_6 rfl ?_
    refine g_iload_n d7_take_7 rfl ?_
    refine g_iconstv (nI 0) d7_take_8 rfl ?_
    refine g_EV2 vm6_factOf ml7_15 c_1 (r6_factOf c 0 hc (by decide) (Nat.le_refl 0)) (by omega) (Nat.le_of_ble_eq_true rfl) d7_take_9 ?_
    refine g_topI (I 2 (c * 4 + 0)) (rfl) ?_
    refine g_putIh _ fl7_21 d7_take_12 f_28_1 s_28_1 ?_
    refine g_aload_n d7_take_15 rfl ?_
    refine g_aload_n d7_take_16 rfl ?_
    refine g_iload_n d7_take_17 rfl ?_
    refine g_iconstv (nI 1) d7_take_18 rfl ?_
    refine g_EV2 vm6_factOf ml7_15 c_1 (r6_factOf c 1 hc (by decide) (Nat.le_refl 0)) (by omega) (Nat.le_of_ble_eq_true rfl) d7_take_19 ?_
    refine g_topI (I 2 (c * 4 + 1)) (rfl) ?_
    refine g_putIh _ fl7_24 d7_take_22 f_28_2 s_28_2 ?_
    refine g_aload_n d7_take_25 rfl ?_
    refine g_aload_n d7_take_26 rfl ?_
    refine g_iload_n d7_take_27 rfl ?_
    refine g_iconstv (nI 2) d7_take_28 rfl ?_
    refine g_EV2 vm6_factOf ml7_15 c_1 (r6_factOf c 2 hc (by decide) (Nat.le_refl 0)) (by omega) (Nat.le_of_ble_eq_true rfl) d7_take_29 ?_
    refine g_topI (I 2 (c * 4 + 2)) (rfl) ?_
    refine g_iconstv (nI 1) d7_take_32 rfl ?_
    refine g_ic_ne (I 2 (c * 4 + 2)).toInt (1) 40 (rfl) (by decide) d7_take_33 rfl (fun c33 => absurd c33 (fun z => z (by first | (rw [hs]; rfl) | rfl))) (fun _ => ?_)
    refine g_iconstv (nI 1) d7_take_36 rfl ?_
    refine g_goto 41 d7_take_37 rfl ?_
    refine g_putZh _ fl7_27 d7_take_41 f_28_3 (by decide) s_28_3 ?_
    refine g_aload_n d7_take_44 rfl ?_
    refine g_aload_n d7_take_45 rfl ?_
    refine g_iload_n d7_take_46 rfl ?_
    refine g_iconstv (nI 3) d7_take_47 rfl ?_
    refine g_EV2 vm6_factOf ml7_15 c_1 (r6_factOf c 3 hc (by decide) (Nat.le_refl 0)) (by omega) (Nat.le_of_ble_eq_true rfl) d7_take_48 ?_
    refine g_topI (I 2 (c * 4 + 3)) (rfl) ?_
    refine g_putIh _ fl7_31 d7_take_51 f_28_4 s_28_4 ?_
    refine g_aload_n d7_take_54 rfl ?_
    refine g_aload_n d7_take_55 rfl ?_
    refine g_get fl7_34 d7_take_56 f_1_2 ?_
    refine g_iconstv (nI 0) d7_take_59 rfl ?_
    refine g_ialdN (0) d7_take_60 a_3 (rfl) (by omega) (by decide) ?_
    refine g_topI (I 3 (0)) rfl ?_
    refine g_putIh _ fl7_38 d7_take_61 f_28_5 s_28_5 ?_
    refine g_aload_n d7_take_64 rfl ?_
    refine g_aload_n d7_take_65 rfl ?_
    refine g_get fl7_34 d7_take_66 f_1_2 ?_
    refine g_iconstv (nI 1) d7_take_69 rfl ?_
    refine g_ialdN (1) d7_take_70 a_3 (rfl) (by omega) (by decide) ?_
    refine g_topI (I 3 (1)) rfl ?_
    refine g_putIh _ fl7_41 d7_take_71 f_28_6 s_28_6 ?_
    refine g_aload_n d7_take_74 rfl ?_
    refine g_aload_n d7_take_75 rfl ?_
    refine g_get fl7_34 d7_take_76 f_1_2 ?_
    refine g_iconstv (nI 2) d7_take_79 rfl ?_
    refine g_ialdN (2) d7_take_80 a_3 (rfl) (by omega) (by decide) ?_
    refine g_topI (I 3 (2)) rfl ?_
    refine g_putIh _ fl7_44 d7_take_81 f_28_7 s_28_7 ?_
    exact g_vret rfl d7_take_84 (⟨rfl, rfl⟩)
  · rw [if_neg hs]
    refine g_aload_n d7_take_0 rfl ?_
    refine g_iload_n d7_take_1 rfl ?_
    refine g_putIh _ fl7_9 d7_take_2 f_28_0 s_28_0 ?_
    refine g_aload_n d7_take_5 rfl ?_
    refine g_aload_n d7_take_6 rfl ?_
    refine g_iload_n d7_take_7 rfl ?_
    refine g_iconstv (nI 0) d7_take_8 rfl ?_
    refine g_EV2 vm6_factOf ml7_15 c_1 (r6_factOf c 0 hc (by decide) (Nat.le_refl 0)) (by omega) (Nat.le_of_ble_eq_true rfl) d7_take_9 ?_
    refine g_topI (I 2 (c * 4 + 0)) (rfl) ?_
    refine g_putIh _ fl7_21 d7_take_12 f_28_1 s_28_1 ?_
    refine g_aload_n d7_take_15 rfl ?_
    refine g_aload_n d7_take_16 rfl ?_
    refine g_iload_n d7_take_17 rfl ?_
    refine g_iconstv (nI 1) d7_take_18 rfl ?_
    refine g_EV2 vm6_factOf ml7_15 c_1 (r6_factOf c 1 hc (by decide) (Nat.le_refl 0)) (by omega) (Nat.le_of_ble_eq_true rfl) d7_take_19 ?_
    refine g_topI (I 2 (c * 4 + 1)) (rfl) ?_
    refine g_putIh _ fl7_24 d7_take_22 f_28_2 s_28_2 ?_
    refine g_aload_n d7_take_25 rfl ?_
    refine g_aload_n d7_take_26 rfl ?_
    refine g_iload_n d7_take_27 rfl ?_
    refine g_iconstv (nI 2) d7_take_28 rfl ?_
    refine g_EV2 vm6_factOf ml7_15 c_1 (r6_factOf c 2 hc (by decide) (Nat.le_refl 0)) (by omega) (Nat.le_of_ble_eq_true rfl) d7_take_29 ?_
    refine g_topI (I 2 (c * 4 + 2)) (rfl) ?_
    refine g_iconstv (nI 1) d7_take_32 rfl ?_
    refine g_ic_ne (I 2 (c * 4 + 2)).toInt (1) 40 (rfl) (by decide) d7_take_33 rfl (fun _ => ?_) (fun c33 => absurd c33 (fun z => hs (by rw [i_eq]; exact z)))
    refine g_iconstv (nI 0) d7_take_40 rfl ?_
    refine g_putZh _ fl7_27 d7_take_41 f_28_3 (by decide) s_28_3 ?_
    refine g_aload_n d7_take_44 rfl ?_
    refine g_aload_n d7_take_45 rfl ?_
    refine g_iload_n d7_take_46 rfl ?_
    refine g_iconstv (nI 3) d7_take_47 rfl ?_
    refine g_EV2 vm6_factOf ml7_15 c_1 (r6_factOf c 3 hc (by decide) (Nat.le_refl 0)) (by omega) (Nat.le_of_ble_eq_true rfl) d7_take_48 ?_
    refine g_topI (I 2 (c * 4 + 3)) (rfl) ?_
    refine g_putIh _ fl7_31 d7_take_51 f_28_4 s_28_4 ?_
    refine g_aload_n d7_take_54 rfl ?_
    refine g_aload_n d7_take_55 rfl ?_
    refine g_get fl7_34 d7_take_56 f_1_2 ?_
    refine g_iconstv (nI 0) d7_take_59 rfl ?_
    refine g_ialdN (0) d7_take_60 a_3 (rfl) (by omega) (by decide) ?_
    refine g_topI (I 3 (0)) rfl ?_
    refine g_putIh _ fl7_38 d7_take_61 f_28_5 s_28_5 ?_
    refine g_aload_n d7_take_64 rfl ?_
    refine g_aload_n d7_take_65 rfl ?_
    refine g_get fl7_34 d7_take_66 f_1_2 ?_
    refine g_iconstv (nI 1) d7_take_69 rfl ?_
    refine g_ialdN (1) d7_take_70 a_3 (rfl) (by omega) (by decide) ?_
    refine g_topI (I 3 (1)) rfl ?_
    refine g_putIh _ fl7_41 d7_take_71 f_28_6 s_28_6 ?_
    refine g_aload_n d7_take_74 rfl ?_
    refine g_aload_n d7_take_75 rfl ?_
    refine g_get fl7_34 d7_take_76 f_1_2 ?_
    refine g_iconstv (nI 2) d7_take_79 rfl ?_
    refine g_ialdN (2) d7_take_80 a_3 (rfl) (by omega) (by decide) ?_
    refine g_topI (I 3 (2)) rfl ?_
    refine g_putIh _ fl7_44 d7_take_81 f_28_7 s_28_7 ?_
    exact g_vret rfl d7_take_84 (⟨rfl, rfl⟩)
theorem stI8_st {I : wI} {c fr ti se fl coin per fine : Nat} (hC : CC1 I c fr ti se fl) (hT : CT I coin per fine) : STA (stI8 I c) c fr ti se fl coin per fine := by
  obtain ⟨a0, a1, a2, a3, a4, a5, a6, a7, a8⟩ := hC
  obtain ⟨t1, t2, t3, t4, t5, t6, t7⟩ := hT
  have hse : (if nI se = 1 then (1 : Int32) else 0) = if se = 1 then 1 else 0 := by
    rcases (by omega : se = 0 ∨ se = 1) with rfl | rfl <;> rfl
  refine ⟨?_, ?_, ?_, ?_, ?_, ?_, ?_, ?_, a0, a5, a6, a7, a8, t2, t5, t7⟩ <;> first | (simp [stI8, uI_at, a1, a2, a3, a4, t1, t3, t6, hse]; done) | (simp [stI8, uI_at]; exact a1)
theorem stI8_n {I : wI} {c k : Nat} (h : k ≠ 28) : stI8 I c k = I k := by unfold stI8; rw [uI_n h, uI_n h, uI_n h, uI_n h, uI_n h, uI_n h, uI_n h, uI_n h]
theorem stI8_fk {I : wI} {L : wL} {c : Nat} {ci cl : List Nat} (h : 28 ∈ ci) : FK ci cl I L (stI8 I c) L := ⟨fun k a => stI8_n (fun q => a (by rw [q]; exact h)), fun _ _ => rfl⟩
theorem mn_12 {x : Nat} (h : x < 2147483648) : (if nI x < nI 12 then nI x else nI 12) = nI (min 12 x) := by
  by_cases q : x < 12
  · rw [if_pos (by rw [i_lt, nI_ti (by omega), nI_ti (by omega)]; omega), Nat.min_eq_right (by omega)]
  · rw [if_neg (by rw [i_lt, nI_ti (by omega), nI_ti (by omega)]; omega), Nat.min_eq_left (by omega)]
set_option maxHeartbeats 200000 in
theorem r7_price {l : Launch} {K : cK} {d : Nat} {I : wI} {L : wL} {R : wR} {dy : cH} (c fr ti se fl coin per fine : Nat) (hS : STA I c fr ti se fl coin per fine) (n s : Nat) (hn : n ≤ 12) (hs : s ≤ 12) (hd : 0 ≤ d) : CE l K m7_price d [.ref 28, .int (nI n), .int (nI s)] (hp I L R dy) (.int (nI (prc coin fr fl s n))) (hp I L R dy) := by
  refine CC.of ok7_price (Nat.le_of_ble_eq_true rfl) ?_
  obtain ⟨u0, u1, u2, u3, u4, u5, u6, u7, u8, u9, u10, u11, u12, u13, u14, u15⟩ := id hS
  by_cases h0 : n = 0
  · have e : prc coin fr fl s n = n * coin := by unfold prc; rw [if_neg (by omega)]; omega
    rw [e]
    refine g_iload_n d7_price_0 rfl ?_
    refine g_iz_le ((n : Nat) : Int) 26 (nI_ti (by omega)) d7_price_1 rfl (fun _ => ?_) (fun c1 => absurd c1 (by omega))
    refine g_iload_n d7_price_26 rfl ?_
    refine g_aload_n d7_price_27 rfl ?_
    refine g_get fl7_38 d7_price_28 f_28_5 ?_
    refine g_topI (nI (coin)) (u5) ?_
    refine g_imulN d7_price_31 ?_
    exact g_iret rfl d7_price_32 (⟨rfl, rfl⟩)
  · by_cases h1 : fr < s
    · have e : prc coin fr fl s n = n * coin + fl := by unfold prc; rw [if_pos (by omega)]
      rw [e]
      refine g_iload_n d7_price_0 rfl ?_
      refine g_iz_le ((n : Nat) : Int) 26 (nI_ti (by omega)) d7_price_1 rfl (fun c1 => absurd c1 (by omega)) (fun _ => ?_)
      refine g_iload_n d7_price_4 rfl ?_
      refine g_aload_n d7_price_5 rfl ?_
      refine g_get fl7_21 d7_price_6 f_28_1 ?_
      refine g_topI (nI (fr)) (u1) ?_
      refine g_ic_le ((s : Nat) : Int) ((fr : Nat) : Int) 26 (nI_ti (by omega)) (nI_ti (by omega)) d7_price_9 rfl (fun c9 => absurd c9 (by omega)) (fun _ => ?_)
      refine g_iload_n d7_price_12 rfl ?_
      refine g_aload_n d7_price_13 rfl ?_
      refine g_get fl7_38 d7_price_14 f_28_5 ?_
      refine g_topI (nI (coin)) (u5) ?_
      refine g_imulN d7_price_17 ?_
      refine g_aload_n d7_price_18 rfl ?_
      refine g_get fl7_31 d7_price_19 f_28_4 ?_
      refine g_topI (nI (fl)) (u4) ?_
      refine g_iaddN d7_price_22 ?_
      refine g_goto 32 d7_price_23 rfl ?_
      exact g_iret rfl d7_price_32 (⟨rfl, rfl⟩)
    · have e : prc coin fr fl s n = n * coin := by unfold prc; rw [if_neg (by omega)]; omega
      rw [e]
      refine g_iload_n d7_price_0 rfl ?_
      refine g_iz_le ((n : Nat) : Int) 26 (nI_ti (by omega)) d7_price_1 rfl (fun c1 => absurd c1 (by omega)) (fun _ => ?_)
      refine g_iload_n d7_price_4 rfl ?_
      refine g_aload_n d7_price_5 rfl ?_
      refine g_get fl7_21 d7_price_6 f_28_1 ?_
      refine g_topI (nI (fr)) (u1) ?_
      refine g_ic_le ((s : Nat) : Int) ((fr : Nat) : Int) 26 (nI_ti (by omega)) (nI_ti (by omega)) d7_price_9 rfl (fun _ => ?_) (fun c9 => absurd c9 (by omega))
      refine g_iload_n d7_price_26 rfl ?_
      refine g_aload_n d7_price_27 rfl ?_
      refine g_get fl7_38 d7_price_28 f_28_5 ?_
      refine g_topI (nI (coin)) (u5) ?_
      refine g_imulN d7_price_31 ?_
      exact g_iret rfl d7_price_32 (⟨rfl, rfl⟩)
set_option maxHeartbeats 200000 in
theorem r7_paid {l : Launch} {K : cK} {d : Nat} {I : wI} {L : wL} {R : wR} {dy : cH} (c fr ti se fl coin per fine : Nat) (hS : STA I c fr ti se fl coin per fine) (left n : Nat) (hl : left ≤ 12) (hn : n ≤ 12) (hd : 1 ≤ d) : CE l K m7_paidWith d [.ref 28, .int (nI left), .int (nI n)] (hp I L R dy) (.int (nI (pdb per left n))) (hp I L R dy) := by
  obtain ⟨u0, u1, u2, u3, u4, u5, u6, u7, u8, u9, u10, u11, u12, u13, u14, u15⟩ := id hS
  have hnp : n * per ≤ 48 := Nat.le_trans (Nat.mul_le_mul hn u14) (by decide)
  refine CC.of ok7_paidWith (Nat.le_of_ble_eq_true rfl) ?_
  refine g_bipushv (nI 12) d7_paidWith_0 rfl ?_
  refine g_iload_n d7_paidWith_2 rfl ?_
  refine g_iload_n d7_paidWith_3 rfl ?_
  refine g_aload_n d7_paidWith_4 rfl ?_
  refine g_get fl7_41 d7_paidWith_5 f_28_6 ?_
  refine g_topI (nI (per)) (u6) ?_
  refine g_imulN d7_paidWith_8 ?_
  refine g_iaddN d7_paidWith_9 ?_
  refine g_min ml7_47 (by omega) (Nat.le_of_ble_eq_true rfl) d7_paidWith_10 ?_
  refine g_topI (nI (pdb per left n)) (mn_12 (by omega)) ?_
  exact g_iret rfl d7_paidWith_13 (⟨rfl, rfl⟩)
set_option maxHeartbeats 200000 in
theorem r7_end {l : Launch} {K : cK} {d : Nat} {I : wI} {L : wL} {R : wR} {dy : cH} (c fr ti se fl coin per fine : Nat) (hS : STA I c fr ti se fl coin per fine) (s paid : Nat) (hs : s ≤ ti) (hpd : paid ≤ 12) (hd : 0 ≤ d) : CE l K m7_paidToTheEnd d [.ref 28, .int (nI s), .int (nI paid)] (hp I L R dy) (.int (if ti - s < paid then 1 else 0)) (hp I L R dy) := by
  refine CC.of ok7_paidToTheEnd (Nat.le_of_ble_eq_true rfl) ?_
  obtain ⟨u0, u1, u2, u3, u4, u5, u6, u7, u8, u9, u10, u11, u12, u13, u14, u15⟩ := id hS
  by_cases h0 : ti - s < paid
  · rw [if_pos h0]
    refine g_iload_n d7_paidToTheEnd_0 rfl ?_
    refine g_aload_n d7_paidToTheEnd_1 rfl ?_
    refine g_get fl7_24 d7_paidToTheEnd_2 f_28_2 ?_
    refine g_topI (nI (ti)) (u2) ?_
    refine g_iload_n d7_paidToTheEnd_5 rfl ?_
    refine g_isubN (hs) d7_paidToTheEnd_6 ?_
    refine g_ic_le ((paid : Nat) : Int) (((ti - s) : Nat) : Int) 14 (nI_ti (by omega)) (nI_ti (by omega)) d7_paidToTheEnd_7 rfl (fun c7 => absurd c7 (by omega)) (fun _ => ?_)
    refine g_iconstv (nI 1) d7_paidToTheEnd_10 rfl ?_
    refine g_goto 15 d7_paidToTheEnd_11 rfl ?_
    exact g_zret rfl (by decide) d7_paidToTheEnd_15 (⟨rfl, rfl⟩)
  · rw [if_neg h0]
    refine g_iload_n d7_paidToTheEnd_0 rfl ?_
    refine g_aload_n d7_paidToTheEnd_1 rfl ?_
    refine g_get fl7_24 d7_paidToTheEnd_2 f_28_2 ?_
    refine g_topI (nI (ti)) (u2) ?_
    refine g_iload_n d7_paidToTheEnd_5 rfl ?_
    refine g_isubN (hs) d7_paidToTheEnd_6 ?_
    refine g_ic_le ((paid : Nat) : Int) (((ti - s) : Nat) : Int) 14 (nI_ti (by omega)) (nI_ti (by omega)) d7_paidToTheEnd_7 rfl (fun _ => ?_) (fun c7 => absurd c7 (by omega))
    refine g_iconstv (nI 0) d7_paidToTheEnd_14 rfl ?_
    exact g_zret rfl (by decide) d7_paidToTheEnd_15 (⟨rfl, rfl⟩)
