/-- a weaker end -/
theorem met_mono {l : Launch} {K : cK} {M : MI} {rm : Room} {as : List Value} {h : cH} {kc ks : Nat} {Q Q2 : Option Value → cH → Prop} (hM : Met l M.1 (wsM M) rm (cP K as h) (cQ K Q) kc ks (cA K)) (hq : ∀ r h1, Q r h1 → Q2 r h1) : Met l M.1 (wsM M) rm (cP K as h) (cQ K Q2) kc ks (cA K) := by
  intro p e ha hc hk s m args below hf happ hP hK
  obtain ⟨n, o, h1, h2, h3, ⟨r, hh, g1, g2, g3, g4⟩, h5⟩ := hM p e ha hc hk s m args below hf happ hP hK
  exact ⟨n, o, h1, h2, h3, ⟨r, hh, g1, g2, hq r hh g3, g4⟩, h5⟩
theorem CC.mono {l : Launch} {K : cK} {M : MI} {d kc ks : Nat} {as : List Value} {h : cH} {Q Q2 : Option Value → cH → Prop} (hM : CC l K M d kc ks as h Q) (hq : ∀ r h1, Q r h1 → Q2 r h1) : CC l K M d kc ks as h Q2 := fun D hD => met_mono (hM D hD) hq
/-- a range of the code: what it leaves, none if broken -/
def eV (op arg : Nat → Nat) (env : Nat → Int64) (first last : Nat) : Option Int64 := match eS op arg env last 401 first [] with
  | some (some s) => some (s.getLastD 0)
  | _ => none
/-- a clause: what it tells, if it holds -/
def cl (op arg : Nat → Nat) (env : Nat → Int64) (hd s1 s2 t1 t2 : Nat) : Option Int64 :=
  if t1 < t2 ∧ (eV op arg env t1 t2 = none ∨ eV op arg env t1 t2 = some 0) then none else if hd = 2 then some 1 else eV op arg env s1 s2
/-- the clauses of a head, the last that holds -/
def tF (op arg : Nat → Nat) (env : Nat → Int64) (hd s1 s2 t1 t2 : Nat → Nat) (head : Nat) (w : Int64) : Nat → Int64
  | 0 => w
  | c + 1 => if hd c = head then (cl op arg env (hd c) (s1 c) (s2 c) (t1 c) (t2 c)).getD (tF op arg env hd s1 s2 t1 t2 head w c) else tF op arg env hd s1 s2 t1 t2 head w c
/-- a text in the model's row -/
def TM (g : Nat → Int32) (b nc : Nat) (hd s1 s2 t1 t2 op arg : Nat → Nat) : Prop := g (b + 1) = nI nc ∧ nc ≤ 12 ∧ b + 900 ≤ 10880 ∧
  (∀ c, c < nc → g (b + 2 + 8 * c) = nI (hd c) ∧ hd c ≤ 2 ∧ g (b + 2 + 8 * c + 3) = nI (s1 c) ∧ g (b + 2 + 8 * c + 4) = nI (s2 c) ∧ g (b + 2 + 8 * c + 5) = nI (t1 c) ∧ g (b + 2 + 8 * c + 6) = nI (t2 c) ∧ s1 c ≤ 400 ∧ s2 c ≤ 400 ∧ t1 c ≤ 400 ∧ t2 c ≤ 400 ∧
    (∀ k, k < s2 c → g (b + 98 + 2 * k) = nI (op k) ∧ g (b + 98 + 2 * k + 1) = nI (arg k) ∧ op k ≤ 30 ∧ arg k < 2147483648) ∧ (∀ k, k < t2 c → g (b + 98 + 2 * k) = nI (op k) ∧ g (b + 98 + 2 * k + 1) = nI (arg k) ∧ op k ≤ 30 ∧ arg k < 2147483648)) ∧
  ∀ c, c < nc → ∀ env : Nat → Int64, (t1 c < t2 c → eS op arg env (t2 c) 401 (t1 c) [] ≠ none) ∧ (hd c ≠ 2 → eS op arg env (s2 c) 401 (s1 c) [] ≠ none)
/-- nothing has changed but what reckoning leaves -/
def SF (I : wI) (L : wL) (x : wI × wL) : Prop := (∀ k, k ≠ 74 → x.1 k = I k) ∧ (∀ j, j ≠ 28 → j ≠ 32 → x.1 74 j = I 74 j) ∧ (∀ k, k ≠ 74 → k ≠ 87 → k ≠ 88 → k ≠ 89 → x.2 k = L k) ∧ (∀ j, j ≠ 33 → j ≠ 34 → x.2 74 j = L 74 j)
theorem SF.rf {I : wI} {L : wL} : SF I L (I, L) := ⟨fun _ _ => rfl, fun _ _ _ => rfl, fun _ _ _ _ _ => rfl, fun _ _ _ => rfl⟩
theorem SF.tr {I : wI} {L : wL} {x y : wI × wL} (h : SF I L x) (h2 : SF x.1 x.2 y) : SF I L y :=
  ⟨fun k q => (h2.1 k q).trans (h.1 k q), fun j q r => (h2.2.1 j q r).trans (h.2.1 j q r), fun k a b c e => (h2.2.2.1 k a b c e).trans (h.2.2.1 k a b c e), fun j q r => (h2.2.2.2 j q r).trans (h.2.2.2 j q r)⟩
theorem eV_some {op arg : Nat → Nat} {env : Nat → Int64} {first last : Nat} {s : List Int64} (h : eS op arg env last 401 first [] = some (some s)) : eV op arg env first last = some (s.getLastD 0) := by simp [eV, h]
theorem eV_none {op arg : Nat → Nat} {env : Nat → Int64} {first last : Nat} (h : eS op arg env last 401 first [] = some none) : eV op arg env first last = none := by simp [eV, h]
/-- reckonAll, as its callers see it -/
def rB (I : wI) (L : wL) (v : Option Int64) (x : wI × wL) : Prop := (∀ k, k ≠ 74 → x.1 k = I k) ∧ (∀ j, j ≠ 32 → x.1 74 j = I 74 j) ∧ x.1 74 32 = (if v = none then 1 else 0) ∧ (∀ k, k ≠ 89 → k ≠ 74 → x.2 k = L k) ∧ (∀ j, j ≠ 33 → x.2 74 j = L 74 j) ∧ ∀ w, v = some w → x.2 74 33 = w
theorem r12_reckonE {l : Launch} {K : cK} {d : Nat} {I : wI} {L : wL} {R : wR} {dy : cH} (b first last : Nat) (op arg : Nat → Nat) (hfl : first < 2147483648) (hlast : b + 98 + 2 * last ≤ 10880) (hb : I 74 28 = nI b) (hop : ∀ k, k < last → I 76 (b + 98 + 2 * k) = nI (op k) ∧ I 76 (b + 98 + 2 * k + 1) = nI (arg k) ∧ op k ≤ 30 ∧ arg k < 2147483648)
    (env : Nat → Int64) (ho : I 74 15 = 0 ∧ env = L 87 ∨ I 74 15 = 1 ∧ env = L 88) (he : eS op arg env last 401 first [] ≠ none) (hd : 1 ≤ d) : CW l K m12_reckonAll d [.ref 74, .int (nI first), .int (nI last)] (hp I L R dy) (rB I L (eV op arg env first last)) (fun x : wI × wL => hp x.1 x.2 R dy) := by
  cases hq : eS op arg env last 401 first [] with
  | none => exact absurd hq he
  | some res =>
    have h := r12_reckonAll (l := l) (K := K) (R := R) (dy := dy) b first last op arg hfl hlast hb hop env ho 401 res hq hd
    intro D hD
    have h2 := h D hD
    refine met_mono h2 ?_
    rintro r hh ⟨x, ⟨x1, x2, x3, x4⟩, rfl, rfl⟩
    refine ⟨x, ⟨fun k hk => ?_, fun j hj => ?_, ?_, x2, x3, fun w hw => ?_⟩, rfl, rfl⟩
    · rw [x1, uI_n hk]
    · rw [x1, uI_at, if_neg (fun q => hj q.2)]
    · rw [x1, uI_ss]
      cases res with
      | none => rw [eV_none hq]; simp
      | some s => rw [eV_some hq]; simp
    · cases res with
      | none => rw [eV_none hq] at hw; cases hw
      | some s => rw [eV_some hq] at hw; rw [x4 s rfl]; exact Option.some.inj hw
set_option maxHeartbeats 400000 in
theorem r12_isSo {l : Launch} {K : cK} {d : Nat} {I : wI} {L : wL} {R : wR} {dy : cH} (b nc : Nat) (hd s1 s2 t1 t2 op arg : Nat → Nat) (hT : TM (I 76) b nc hd s1 s2 t1 t2 op arg) (hb : I 74 28 = nI b) (env : Nat → Int64) (ho : I 74 15 = 0 ∧ env = L 87 ∨ I 74 15 = 1 ∧ env = L 88) (c : Nat) (hc : c < nc) (hd9 : 2 ≤ d) : CX l K m12_isSo d [.ref 74, .int (nI (b + 2 + 8 * c))] (hp I L R dy) (α := wI × wL) (fun x : wI × wL => SF I L x ∧ x.1 74 28 = I 74 28 ∧ (∀ k, k ≠ 89 → k ≠ 74 → x.2 k = L k) ∧ ∀ w, hd c ≠ 2 → cl op arg env (hd c) (s1 c) (s2 c) (t1 c) (t2 c) = some w → x.2 74 34 = w) (fun _ => .int (if (cl op arg env (hd c) (s1 c) (s2 c) (t1 c) (t2 c)).isSome then 1 else 0)) (fun x => hp x.1 x.2 R dy) := by
  obtain ⟨-, hnc, hb9, hcl, hwf⟩ := hT
  obtain ⟨q0, q0', q3, q4, q5, q6, n3, n4, n5, n6, hk1, hk2⟩ := hcl c hc
  obtain ⟨w1, w2⟩ := hwf c hc env
  refine CC.of ok12_isSo (Nat.le_of_ble_eq_true rfl) ?_
  by_cases ht : t1 c < t2 c
  · skip
    refine g_aload_n d12_isSo_0 rfl ?_
    refine g_get fl12_13 d12_isSo_1 f_74_3 ?_
    refine g_iload_n d12_isSo_4 rfl ?_
    refine g_iconstv (nI 5) d12_isSo_5 rfl ?_
    refine g_iaddN d12_isSo_6 ?_
    refine g_ialdN (((b + 2 + 8 * c) + 5)) d12_isSo_7 a_76 (rfl) (by omega) (by decide) ?_
    refine g_topI (nI (t1 c)) (q5) ?_
    refine g_aload_n d12_isSo_8 rfl ?_
    refine g_get fl12_13 d12_isSo_9 f_74_3 ?_
    refine g_iload_n d12_isSo_12 rfl ?_
    refine g_bipushv (nI 6) d12_isSo_13 rfl ?_
    refine g_iaddN d12_isSo_15 ?_
    refine g_ialdN (((b + 2 + 8 * c) + 6)) d12_isSo_16 a_76 (rfl) (by omega) (by decide) ?_
    refine g_topI (nI (t2 c)) (q6) ?_
    refine g_ic_ge (((t1 c) : Nat) : Int) (((t2 c) : Nat) : Int) 59 (nI_ti (by omega)) (nI_ti (by omega)) d12_isSo_17 rfl (fun c17 => absurd c17 (by omega)) (fun _ => ?_)
    refine g_aload_n d12_isSo_20 rfl ?_
    refine g_aload_n d12_isSo_21 rfl ?_
    refine g_get fl12_13 d12_isSo_22 f_74_3 ?_
    refine g_iload_n d12_isSo_25 rfl ?_
    refine g_iconstv (nI 5) d12_isSo_26 rfl ?_
    refine g_iaddN d12_isSo_27 ?_
    refine g_ialdN (((b + 2 + 8 * c) + 5)) d12_isSo_28 a_76 (rfl) (by omega) (by decide) ?_
    refine g_topI (nI (t1 c)) (q5) ?_
    refine g_aload_n d12_isSo_29 rfl ?_
    refine g_get fl12_13 d12_isSo_30 f_74_3 ?_
    refine g_iload_n d12_isSo_33 rfl ?_
    refine g_bipushv (nI 6) d12_isSo_34 rfl ?_
    refine g_iaddN d12_isSo_36 ?_
    refine g_ialdN (((b + 2 + 8 * c) + 6)) d12_isSo_37 a_76 (rfl) (by omega) (by decide) ?_
    refine g_topI (nI (t2 c)) (q6) ?_
    refine g_WV2 vm12_reckonAll ml12_369 c_74 (r12_reckonE b (t1 c) (t2 c) op arg (by omega) (by omega) (by exact hb) (by exact hk2) env (by exact ho) (w1 ht) (Nat.le_refl 1)) (by omega) (Nat.le_of_ble_eq_true rfl) d12_isSo_38 (fun x hx => ?_)
    obtain ⟨I2, L2⟩ := x
    obtain ⟨x1, x2, x3, x4, x5, x6⟩ := hx
    dsimp only at x1 x2 x3 x4 x5 x6 ⊢
    have hS2 : SF I L (I2, L2) := ⟨x1, fun j _ h => x2 j h, fun k a _ _ e => x4 k e a, fun j h _ => x5 j h⟩
    cases hv : eV op arg env (t1 c) (t2 c) with
    | none =>
      have hcn : cl op arg env (hd c) (s1 c) (s2 c) (t1 c) (t2 c) = none := by unfold cl; rw [if_pos ⟨ht, Or.inl hv⟩]
      refine g_aload_n d12_isSo_41 rfl ?_
      refine g_get fl12_352 d12_isSo_42 f_74_32 ?_
      refine g_topI (nI 1) (by rw [x3, hv]; rfl) ?_
      refine g_iz_ne ((1 : Nat) : Int) 57 (nI_ti (by omega)) d12_isSo_45 rfl (fun _ => ?_) (fun c45 => absurd c45 (by decide))
      refine g_iconstv (nI 0) d12_isSo_57 rfl ?_
      exact g_zret rfl (by decide) d12_isSo_58 (⟨(I2, L2), ⟨hS2, x2 28 (by decide), x4, fun w _ h => by rw [hcn] at h; cases h⟩, by rw [hcn]; rfl, rfl⟩)
    | some v =>
      by_cases hv0 : v = 0
      · subst hv0
        have hcn : cl op arg env (hd c) (s1 c) (s2 c) (t1 c) (t2 c) = none := by unfold cl; rw [if_pos ⟨ht, Or.inr hv⟩]
        refine g_aload_n d12_isSo_41 rfl ?_
        refine g_get fl12_352 d12_isSo_42 f_74_32 ?_
        refine g_topI (nI 0) (by rw [x3, hv]; rfl) ?_
        refine g_iz_ne ((0 : Nat) : Int) 57 (nI_ti (by omega)) d12_isSo_45 rfl (fun c45 => absurd c45 (by decide)) (fun _ => ?_)
        refine g_aload_n d12_isSo_48 rfl ?_
        refine g_get fl12_366 d12_isSo_49 f_74_33 ?_
        refine g_topL (0) (x6 0 hv) ?_
        refine g_lconstv (0) d12_isSo_52 rfl ?_
        refine g_lx_ne _ (0) 59 (rfl) (by decide) d12_isSo_53 d12_isSo_54 rfl (fun c53 => absurd c53 (fun q => q rfl)) (fun _ => ?_)
        refine g_iconstv (nI 0) d12_isSo_57 rfl ?_
        exact g_zret rfl (by decide) d12_isSo_58 (⟨(I2, L2), ⟨hS2, x2 28 (by decide), x4, fun w _ h => by rw [hcn] at h; cases h⟩, by rw [hcn]; rfl, rfl⟩)
      · have hce : cl op arg env (hd c) (s1 c) (s2 c) (t1 c) (t2 c) = if hd c = 2 then some 1 else eV op arg env (s1 c) (s2 c) := by unfold cl; rw [if_neg (fun q => q.2.elim (fun z => by rw [hv] at z; cases z) (fun z => by rw [hv] at z; exact hv0 (Option.some.inj z)))]
        have k76 : I2 76 = I 76 := x1 76 (by decide)
        refine g_aload_n d12_isSo_41 rfl ?_
        refine g_get fl12_352 d12_isSo_42 f_74_32 ?_
        refine g_topI (nI 0) (by rw [x3, hv]; rfl) ?_
        refine g_iz_ne ((0 : Nat) : Int) 57 (nI_ti (by omega)) d12_isSo_45 rfl (fun c45 => absurd c45 (by decide)) (fun _ => ?_)
        refine g_aload_n d12_isSo_48 rfl ?_
        refine g_get fl12_366 d12_isSo_49 f_74_33 ?_
        refine g_topL (v) (x6 v hv) ?_
        refine g_lconstv (0) d12_isSo_52 rfl ?_
        refine g_lx_ne _ (0) 59 (rfl) (by decide) d12_isSo_53 d12_isSo_54 rfl (fun _ => ?_) (fun c53 => absurd c53 (fun q => hv0 (by rw [l_eq]; exact q)))
        by_cases hh2 : hd c = 2
        · rw [if_pos hh2] at hce
          refine g_aload_n d12_isSo_59 rfl ?_
          refine g_get fl12_13 d12_isSo_60 f_74_3 ?_
          refine g_iload_n d12_isSo_63 rfl ?_
          refine g_ialdN ((b + 2 + 8 * c)) d12_isSo_64 a_76 (rfl) (by omega) (by decide) ?_
          refine g_topI (nI (hd c)) (by rw [k76]; exact q0) ?_
          refine g_iconstv (nI 2) d12_isSo_65 rfl ?_
          refine g_ic_eq (((hd c) : Nat) : Int) (2) 110 (nI_ti (by omega)) (by decide) d12_isSo_66 rfl (fun _ => ?_) (fun c66 => absurd c66 (by omega))
          refine g_iconstv (nI 1) d12_isSo_110 rfl ?_
          exact g_zret rfl (by decide) d12_isSo_111 (⟨(I2, L2), ⟨hS2, x2 28 (by decide), x4, fun w h _ => absurd hh2 h⟩, by rw [hce]; rfl, rfl⟩)
        · rw [if_neg hh2] at hce
          refine g_aload_n d12_isSo_59 rfl ?_
          refine g_get fl12_13 d12_isSo_60 f_74_3 ?_
          refine g_iload_n d12_isSo_63 rfl ?_
          refine g_ialdN ((b + 2 + 8 * c)) d12_isSo_64 a_76 (rfl) (by omega) (by decide) ?_
          refine g_topI (nI (hd c)) (by rw [k76]; exact q0) ?_
          refine g_iconstv (nI 2) d12_isSo_65 rfl ?_
          refine g_ic_eq (((hd c) : Nat) : Int) (2) 110 (nI_ti (by omega)) (by decide) d12_isSo_66 rfl (fun c66 => absurd c66 (by omega)) (fun _ => ?_)
          refine g_aload_n d12_isSo_69 rfl ?_
          refine g_aload_n d12_isSo_70 rfl ?_
          refine g_get fl12_13 d12_isSo_71 f_74_3 ?_
          refine g_iload_n d12_isSo_74 rfl ?_
          refine g_iconstv (nI 3) d12_isSo_75 rfl ?_
          refine g_iaddN d12_isSo_76 ?_
          refine g_ialdN (((b + 2 + 8 * c) + 3)) d12_isSo_77 a_76 (rfl) (by omega) (by decide) ?_
          refine g_topI (nI (s1 c)) (by rw [k76]; exact q3) ?_
          refine g_aload_n d12_isSo_78 rfl ?_
          refine g_get fl12_13 d12_isSo_79 f_74_3 ?_
          refine g_iload_n d12_isSo_82 rfl ?_
          refine g_iconstv (nI 4) d12_isSo_83 rfl ?_
          refine g_iaddN d12_isSo_84 ?_
          refine g_ialdN (((b + 2 + 8 * c) + 4)) d12_isSo_85 a_76 (rfl) (by omega) (by decide) ?_
          refine g_topI (nI (s2 c)) (by rw [k76]; exact q4) ?_
          refine g_WV2 vm12_reckonAll ml12_369 c_74 (r12_reckonE b (s1 c) (s2 c) op arg (by omega) (by omega) (by exact ((x2 28 (by decide)).trans hb)) (by exact (by rw [k76]; exact hk1)) env (by exact (ho.imp (fun q => ⟨(x2 15 (by decide)).trans q.1, q.2.trans (x4 87 (by decide) (by decide)).symm⟩) (fun q => ⟨(x2 15 (by decide)).trans q.1, q.2.trans (x4 88 (by decide) (by decide)).symm⟩))) (w2 hh2) (Nat.le_refl 1)) (by omega) (Nat.le_of_ble_eq_true rfl) d12_isSo_86 (fun y hy => ?_)
          obtain ⟨I3, L3⟩ := y
          obtain ⟨y1, y2, y3, y4, y5, y6⟩ := hy
          dsimp only at y1 y2 y3 y4 y5 y6 ⊢
          refine g_aload_n d12_isSo_89 rfl ?_
          refine g_aload_n d12_isSo_90 rfl ?_
          refine g_get fl12_366 d12_isSo_91 f_74_33 ?_
          refine g_putLh _ fl12_372 d12_isSo_94 f_74_34 s_74_34 ?_
          have hS3 : SF I L (I3, uL L3 74 34 (L3 74 33)) := SF.tr (x := (I2, L2)) hS2 ⟨y1, fun j _ h => y2 j h, fun k a _ _ e => (uL_n a).trans (y4 k e a), fun j h h2 => (by show uL L3 74 34 (L3 74 33) 74 j = L2 74 j; rw [uL_at, if_neg (fun q => h2 q.2)]; exact y5 j h)⟩
          have hL3 : ∀ k, k ≠ 89 → k ≠ 74 → uL L3 74 34 (L3 74 33) k = L k := fun k a e => (uL_n e).trans ((y4 k a e).trans (x4 k a e))
          have h28 : I3 74 28 = I 74 28 := (y2 28 (by decide)).trans (x2 28 (by decide))
          cases hw : eV op arg env (s1 c) (s2 c) with
          | none =>
            refine g_aload_n d12_isSo_97 rfl ?_
            refine g_get fl12_352 d12_isSo_98 f_74_32 ?_
            refine g_topI (nI 1) (by rw [y3, hw]; rfl) ?_
            refine g_iz_ne ((1 : Nat) : Int) 108 (nI_ti (by omega)) d12_isSo_101 rfl (fun _ => ?_) (fun c101 => absurd c101 (by decide))
            refine g_iconstv (nI 0) d12_isSo_108 rfl ?_
            exact g_zret rfl (by decide) d12_isSo_109 (⟨(I3, uL L3 74 34 (L3 74 33)), ⟨hS3, h28, hL3, fun w _ h => (by rw [hce, hw] at h; cases h)⟩, by rw [hce, hw]; rfl, rfl⟩)
          | some u =>
            refine g_aload_n d12_isSo_97 rfl ?_
            refine g_get fl12_352 d12_isSo_98 f_74_32 ?_
            refine g_topI (nI 0) (by rw [y3, hw]; rfl) ?_
            refine g_iz_ne ((0 : Nat) : Int) 108 (nI_ti (by omega)) d12_isSo_101 rfl (fun c101 => absurd c101 (by decide)) (fun _ => ?_)
            refine g_iconstv (nI 1) d12_isSo_104 rfl ?_
            refine g_goto 109 d12_isSo_105 rfl ?_
            exact g_zret rfl (by decide) d12_isSo_109 (⟨(I3, uL L3 74 34 (L3 74 33)), ⟨hS3, h28, hL3, fun w _ h => (by rw [hce, hw] at h; show uL L3 74 34 (L3 74 33) 74 34 = w; rw [uL_at, if_pos ⟨rfl, rfl⟩, y6 u hw]; exact Option.some.inj h)⟩, by rw [hce, hw]; rfl, rfl⟩)
  · have hce : cl op arg env (hd c) (s1 c) (s2 c) (t1 c) (t2 c) = if hd c = 2 then some 1 else eV op arg env (s1 c) (s2 c) := by unfold cl; rw [if_neg (fun q => ht q.1)]
    refine g_aload_n d12_isSo_0 rfl ?_
    refine g_get fl12_13 d12_isSo_1 f_74_3 ?_
    refine g_iload_n d12_isSo_4 rfl ?_
    refine g_iconstv (nI 5) d12_isSo_5 rfl ?_
    refine g_iaddN d12_isSo_6 ?_
    refine g_ialdN (((b + 2 + 8 * c) + 5)) d12_isSo_7 a_76 (rfl) (by omega) (by decide) ?_
    refine g_topI (nI (t1 c)) (q5) ?_
    refine g_aload_n d12_isSo_8 rfl ?_
    refine g_get fl12_13 d12_isSo_9 f_74_3 ?_
    refine g_iload_n d12_isSo_12 rfl ?_
    refine g_bipushv (nI 6) d12_isSo_13 rfl ?_
    refine g_iaddN d12_isSo_15 ?_
    refine g_ialdN (((b + 2 + 8 * c) + 6)) d12_isSo_16 a_76 (rfl) (by omega) (by decide) ?_
    refine g_topI (nI (t2 c)) (q6) ?_
    refine g_ic_ge (((t1 c) : Nat) : Int) (((t2 c) : Nat) : Int) 59 (nI_ti (by omega)) (nI_ti (by omega)) d12_isSo_17 rfl (fun _ => ?_) (fun c17 => absurd c17 (by omega))
    by_cases hh2 : hd c = 2
    · rw [if_pos hh2] at hce
      refine g_aload_n d12_isSo_59 rfl ?_
      refine g_get fl12_13 d12_isSo_60 f_74_3 ?_
      refine g_iload_n d12_isSo_63 rfl ?_
      refine g_ialdN ((b + 2 + 8 * c)) d12_isSo_64 a_76 (rfl) (by omega) (by decide) ?_
      refine g_topI (nI (hd c)) (q0) ?_
      refine g_iconstv (nI 2) d12_isSo_65 rfl ?_
      refine g_ic_eq (((hd c) : Nat) : Int) (2) 110 (nI_ti (by omega)) (by decide) d12_isSo_66 rfl (fun _ => ?_) (fun c66 => absurd c66 (by omega))
      refine g_iconstv (nI 1) d12_isSo_110 rfl ?_
      exact g_zret rfl (by decide) d12_isSo_111 (⟨(I, L), ⟨SF.rf, rfl, (fun _ _ _ => rfl), fun w h _ => absurd hh2 h⟩, by rw [hce]; rfl, rfl⟩)
    · rw [if_neg hh2] at hce
      refine g_aload_n d12_isSo_59 rfl ?_
      refine g_get fl12_13 d12_isSo_60 f_74_3 ?_
      refine g_iload_n d12_isSo_63 rfl ?_
      refine g_ialdN ((b + 2 + 8 * c)) d12_isSo_64 a_76 (rfl) (by omega) (by decide) ?_
      refine g_topI (nI (hd c)) (q0) ?_
      refine g_iconstv (nI 2) d12_isSo_65 rfl ?_
      refine g_ic_eq (((hd c) : Nat) : Int) (2) 110 (nI_ti (by omega)) (by decide) d12_isSo_66 rfl (fun c66 => absurd c66 (by omega)) (fun _ => ?_)
      refine g_aload_n d12_isSo_69 rfl ?_
      refine g_aload_n d12_isSo_70 rfl ?_
      refine g_get fl12_13 d12_isSo_71 f_74_3 ?_
      refine g_iload_n d12_isSo_74 rfl ?_
      refine g_iconstv (nI 3) d12_isSo_75 rfl ?_
      refine g_iaddN d12_isSo_76 ?_
      refine g_ialdN (((b + 2 + 8 * c) + 3)) d12_isSo_77 a_76 (rfl) (by omega) (by decide) ?_
      refine g_topI (nI (s1 c)) (q3) ?_
      refine g_aload_n d12_isSo_78 rfl ?_
      refine g_get fl12_13 d12_isSo_79 f_74_3 ?_
      refine g_iload_n d12_isSo_82 rfl ?_
      refine g_iconstv (nI 4) d12_isSo_83 rfl ?_
      refine g_iaddN d12_isSo_84 ?_
      refine g_ialdN (((b + 2 + 8 * c) + 4)) d12_isSo_85 a_76 (rfl) (by omega) (by decide) ?_
      refine g_topI (nI (s2 c)) (q4) ?_
      refine g_WV2 vm12_reckonAll ml12_369 c_74 (r12_reckonE b (s1 c) (s2 c) op arg (by omega) (by omega) (by exact hb) (by exact hk1) env (by exact ho) (w2 hh2) (Nat.le_refl 1)) (by omega) (Nat.le_of_ble_eq_true rfl) d12_isSo_86 (fun y hy => ?_)
      obtain ⟨I3, L3⟩ := y
      obtain ⟨y1, y2, y3, y4, y5, y6⟩ := hy
      dsimp only at y1 y2 y3 y4 y5 y6 ⊢
      refine g_aload_n d12_isSo_89 rfl ?_
      refine g_aload_n d12_isSo_90 rfl ?_
      refine g_get fl12_366 d12_isSo_91 f_74_33 ?_
      refine g_putLh _ fl12_372 d12_isSo_94 f_74_34 s_74_34 ?_
      have hS3 : SF I L (I3, uL L3 74 34 (L3 74 33)) := SF.tr (x := (I, L)) SF.rf ⟨y1, fun j _ h => y2 j h, fun k a _ _ e => (uL_n a).trans (y4 k e a), fun j h h2 => (by show uL L3 74 34 (L3 74 33) 74 j = L 74 j; rw [uL_at, if_neg (fun q => h2 q.2)]; exact y5 j h)⟩
      have hL3 : ∀ k, k ≠ 89 → k ≠ 74 → uL L3 74 34 (L3 74 33) k = L k := fun k a e => (uL_n e).trans ((y4 k a e).trans ((fun _ _ _ => rfl) k a e))
      have h28 : I3 74 28 = I 74 28 := (y2 28 (by decide)).trans (rfl)
      cases hw : eV op arg env (s1 c) (s2 c) with
      | none =>
        refine g_aload_n d12_isSo_97 rfl ?_
        refine g_get fl12_352 d12_isSo_98 f_74_32 ?_
        refine g_topI (nI 1) (by rw [y3, hw]; rfl) ?_
        refine g_iz_ne ((1 : Nat) : Int) 108 (nI_ti (by omega)) d12_isSo_101 rfl (fun _ => ?_) (fun c101 => absurd c101 (by decide))
        refine g_iconstv (nI 0) d12_isSo_108 rfl ?_
        exact g_zret rfl (by decide) d12_isSo_109 (⟨(I3, uL L3 74 34 (L3 74 33)), ⟨hS3, h28, hL3, fun w _ h => (by rw [hce, hw] at h; cases h)⟩, by rw [hce, hw]; rfl, rfl⟩)
      | some u =>
        refine g_aload_n d12_isSo_97 rfl ?_
        refine g_get fl12_352 d12_isSo_98 f_74_32 ?_
        refine g_topI (nI 0) (by rw [y3, hw]; rfl) ?_
        refine g_iz_ne ((0 : Nat) : Int) 108 (nI_ti (by omega)) d12_isSo_101 rfl (fun c101 => absurd c101 (by decide)) (fun _ => ?_)
        refine g_iconstv (nI 1) d12_isSo_104 rfl ?_
        refine g_goto 109 d12_isSo_105 rfl ?_
        exact g_zret rfl (by decide) d12_isSo_109 (⟨(I3, uL L3 74 34 (L3 74 33)), ⟨hS3, h28, hL3, fun w _ h => (by rw [hce, hw] at h; show uL L3 74 34 (L3 74 33) 74 34 = w; rw [uL_at, if_pos ⟨rfl, rfl⟩, y6 u hw]; exact Option.some.inj h)⟩, by rw [hce, hw]; rfl, rfl⟩)
