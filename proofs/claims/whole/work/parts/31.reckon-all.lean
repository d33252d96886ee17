/-- a text's code, step by step, over a stack; none: it can't be; some none: broken -/
def sS (op arg : Nat → Nat) (env : Nat → Int64) (k : Nat) (s : List Int64) : Option (Option (Nat × List Int64)) :=
  if op k < 20 then (if op k ≤ 12 ∧ s.length < 399 then some (some (k + 1, (if op k = 0 then lN (arg k) else env (op k)) :: s)) else none)
  else if op k < 28 then (match s with
    | b :: a :: r => if ((op k = 23 ∨ op k = 24) ∧ b = 0) ∨ ¬ (-1000000000 ≤ (ar0 (op k) a b).toInt ∧ (ar0 (op k) a b).toInt ≤ 1000000000) then some none else some (some (k + 1, ar0 (op k) a b :: r))
    | _ => none)
  else if op k = 28 then (match s with
    | a :: r => some (some (k + 1, (1 - a) :: r))
    | _ => none)
  else (match s with
    | a :: r => if a = (if op k = 29 then 0 else 1) then some (some (arg k, a :: r)) else some (some (k + 1, r))
    | _ => none)
def eS (op arg : Nat → Nat) (env : Nat → Int64) (last : Nat) : Nat → Nat → List Int64 → Option (Option (List Int64))
  | 0, _, _ => none
  | f + 1, k, s => if last ≤ k then some (some s) else (sS op arg env k s).bind (fun x => x.elim (some none) (fun p => eS op arg env last f p.1 p.2))
theorem eS_s (op arg : Nat → Nat) (env : Nat → Int64) (last f k : Nat) (s : List Int64) : eS op arg env last (f + 1) k s = if last ≤ k then some (some s) else (sS op arg env k s).bind (fun x => x.elim (some none) (fun p => eS op arg env last f p.1 p.2)) := rfl
/-- a stack in a row, its top last -/
def RR (f : Nat → Int64) : List Int64 → Prop
  | [] => True
  | a :: r => f r.length = a ∧ RR f r
theorem RR_up {f : Nat → Int64} {n : Nat} {x : Int64} : ∀ {s : List Int64}, s.length ≤ n → RR f s → RR (vp_updL f n x) s
  | [], _, _ => trivial
  | a :: r, hn, h => by
    have hn' : r.length < n := hn
    exact ⟨by rw [pk_uLn (by omega)]; exact h.1, RR_up (by omega) h.2⟩
theorem RR_bot {f : Nat → Int64} : ∀ {s : List Int64}, s ≠ [] → RR f s → f 0 = s.getLastD 0
  | [], h, _ => absurd rfl h
  | [a], _, h => h.1
  | a :: b :: r, _, h => by
    have := RR_bot (s := b :: r) (by simp) h.2
    rw [this]
    simp [List.getLastD_cons]
/-- what reckonAll leaves -/
def rA (I : wI) (L : wL) (res : Option (List Int64)) (x : wI × wL) : Prop := x.1 = uI I 74 32 (if res = none then 1 else 0) ∧ (∀ k, k ≠ 89 → k ≠ 74 → x.2 k = L k) ∧ (∀ j, j ≠ 33 → x.2 74 j = L 74 j) ∧ ∀ s, res = some s → x.2 74 33 = s.getLastD 0
set_option maxHeartbeats 400000 in
theorem r12_rAll_loop {l : Launch} {K : cK} {d : Nat} {I : wI} {L : wL} {R : wR} {dy : cH} (b last : Nat) (op arg : Nat → Nat) (hlast : b + 98 + 2 * last ≤ 10880) (hb : I 74 28 = nI b) (hop : ∀ k, k < last → I 76 (b + 98 + 2 * k) = nI (op k) ∧ I 76 (b + 98 + 2 * k + 1) = nI (arg k) ∧ op k ≤ 30 ∧ arg k < 2147483648)
    (env : Nat → Int64) (ho : I 74 15 = 0 ∧ env = L 87 ∨ I 74 15 = 1 ∧ env = L 88) (first : Int32) (hd : 1 ≤ d) :
    ∀ (f k : Nat) (s : List Int64) (L2 : wL) (res : Option (List Int64)), RR (L2 89) s → (∀ c, c ≠ 89 → L2 c = L c) → s.length ≤ 399 → k < 2147483648 → eS op arg env last f k s = some res →
    GL l K m12_reckonAll d 0 0 10 [(0, .ref 74), (1, .int first), (2, .int (nI last)), (3, .int (nI s.length)), (4, .int (nI k))] [] (hp (uI I 74 32 0) L2 R dy) (fun r h => ∃ x : wI × wL, rA I L res x ∧ r = none ∧ h = hp x.1 x.2 R dy) := by
  intro f
  induction f with
  | zero => intro k s L2 res _ _ _ _ he; cases he
  | succ f ih =>
    intro k s L2 res hr hL hs hk he
    rw [eS_s] at he
    by_cases hlk : last ≤ k
    · rw [if_pos hlk] at he
      obtain rfl : res = some s := (Option.some.inj he).symm
      rcases s with _ | ⟨a, r⟩
      · refine g_lo [(0, .ref 74), (1, .int first), (2, .int (nI last)), (3, .int (nI 0)), (4, .int (nI k))] ⟨rfl, rfl, rfl, rfl, rfl, trivial⟩ ?_
        refine g_iload d12_reckonAll_10 rfl ?_
        refine g_iload_n d12_reckonAll_12 rfl ?_
        refine g_ic_ge ((k : Nat) : Int) ((last : Nat) : Int) 262 (nI_ti (by omega)) (nI_ti (by omega)) d12_reckonAll_13 rfl (fun _ => ?_) (fun c13 => absurd c13 (by omega))
        refine g_aload_n d12_reckonAll_262 rfl ?_
        refine g_iload_n d12_reckonAll_263 rfl ?_
        refine g_iz_le ((0 : Nat) : Int) 276 (nI_ti (by omega)) d12_reckonAll_264 rfl (fun _ => ?_) (fun c264 => absurd c264 (by omega))
        refine g_lconstv (0) d12_reckonAll_276 rfl ?_
        refine g_putLh _ fl12_366 d12_reckonAll_277 f_74_33 s_74_33 ?_
        exact g_vret rfl d12_reckonAll_280 (⟨(uI I 74 32 0, uL L2 74 33 0), ⟨rfl, fun c h1 h2 => (uL_n h2).trans (hL c h1), fun j hj => (by show uL L2 74 33 0 74 j = L 74 j; rw [uL_at, if_neg (fun q => hj q.2), hL 74 (by decide)]), fun t ht => (by obtain rfl := Option.some.inj ht; show uL L2 74 33 0 74 33 = _; rw [uL_at, if_pos ⟨rfl, rfl⟩]; rfl)⟩, rfl, rfl⟩)
      · have hs2 : r.length + 1 ≤ 399 := hs
        refine g_lo [(0, .ref 74), (1, .int first), (2, .int (nI last)), (3, .int (nI (r.length + 1))), (4, .int (nI k))] ⟨rfl, rfl, rfl, rfl, rfl, trivial⟩ ?_
        refine g_iload d12_reckonAll_10 rfl ?_
        refine g_iload_n d12_reckonAll_12 rfl ?_
        refine g_ic_ge ((k : Nat) : Int) ((last : Nat) : Int) 262 (nI_ti (by omega)) (nI_ti (by omega)) d12_reckonAll_13 rfl (fun _ => ?_) (fun c13 => absurd c13 (by omega))
        refine g_aload_n d12_reckonAll_262 rfl ?_
        refine g_iload_n d12_reckonAll_263 rfl ?_
        refine g_iz_le (((r.length + 1) : Nat) : Int) 276 (nI_ti (by omega)) d12_reckonAll_264 rfl (fun c264 => absurd c264 (by omega)) (fun _ => ?_)
        refine g_aload_n d12_reckonAll_267 rfl ?_
        refine g_get fl12_80 d12_reckonAll_268 f_74_31 ?_
        refine g_iconstv (nI 0) d12_reckonAll_271 rfl ?_
        refine g_laldN (0) d12_reckonAll_272 a_89 (rfl) (by omega) (by decide) ?_
        refine g_topL (L2 89 0) (rfl) ?_
        refine g_goto 277 d12_reckonAll_273 rfl ?_
        refine g_putLh _ fl12_366 d12_reckonAll_277 f_74_33 s_74_33 ?_
        exact g_vret rfl d12_reckonAll_280 (⟨(uI I 74 32 0, uL L2 74 33 (L2 89 0)), ⟨rfl, fun c h1 h2 => (uL_n h2).trans (hL c h1), fun j hj => (by show uL L2 74 33 (L2 89 0) 74 j = L 74 j; rw [uL_at, if_neg (fun q => hj q.2), hL 74 (by decide)]), fun t ht => (by obtain rfl := Option.some.inj ht; show uL L2 74 33 (L2 89 0) 74 33 = _; rw [uL_at, if_pos ⟨rfl, rfl⟩]; exact RR_bot (by simp) hr)⟩, rfl, rfl⟩)
    · rw [if_neg hlk] at he
      obtain ⟨e1, e2, e3, e4⟩ := hop k (by omega)
      by_cases o1 : op k < 20
      · by_cases o2 : op k ≤ 12 ∧ s.length < 399
        · skip
          by_cases o3 : op k = 0
          · replace he : eS op arg env last f (k + 1) (lN (arg k) :: s) = some res := by rw [show sS op arg env k s = some (some (k + 1, lN (arg k) :: s)) by simp [sS, o1, o2, o3]] at he; exact he
            refine g_iload d12_reckonAll_10 rfl ?_
            refine g_iload_n d12_reckonAll_12 rfl ?_
            refine g_ic_ge ((k : Nat) : Int) ((last : Nat) : Int) 262 (nI_ti (by omega)) (nI_ti (by omega)) d12_reckonAll_13 rfl (fun c13 => absurd c13 (by omega)) (fun _ => ?_)
            refine g_aload_n d12_reckonAll_16 rfl ?_
            refine g_get fl12_352 d12_reckonAll_17 f_74_32 ?_
            refine g_topI (nI 0) (rfl) ?_
            refine g_iz_ne ((0 : Nat) : Int) 262 (nI_ti (by omega)) d12_reckonAll_20 rfl (fun c20 => absurd c20 (by decide)) (fun _ => ?_)
            refine g_aload_n d12_reckonAll_23 rfl ?_
            refine g_get fl12_13 d12_reckonAll_24 f_74_3 ?_
            refine g_aload_n d12_reckonAll_27 rfl ?_
            refine g_get fl12_355 d12_reckonAll_28 f_74_28 ?_
            refine g_topI (nI b) (hb) ?_
            refine g_bipushv (nI 98) d12_reckonAll_31 rfl ?_
            refine g_iaddN d12_reckonAll_33 ?_
            refine g_iconstv (nI 2) d12_reckonAll_34 rfl ?_
            refine g_iload d12_reckonAll_35 rfl ?_
            refine g_imulN d12_reckonAll_37 ?_
            refine g_iaddN d12_reckonAll_38 ?_
            refine g_ialdN (((b + 98) + (2 * k))) d12_reckonAll_39 a_76 (rfl) (by omega) (by decide) ?_
            refine g_topI (nI (op k)) (e1) ?_
            refine g_istore d12_reckonAll_40 (by decide) ?_
            refine g_aload_n d12_reckonAll_42 rfl ?_
            refine g_get fl12_13 d12_reckonAll_43 f_74_3 ?_
            refine g_aload_n d12_reckonAll_46 rfl ?_
            refine g_get fl12_355 d12_reckonAll_47 f_74_28 ?_
            refine g_topI (nI b) (hb) ?_
            refine g_bipushv (nI 98) d12_reckonAll_50 rfl ?_
            refine g_iaddN d12_reckonAll_52 ?_
            refine g_iconstv (nI 2) d12_reckonAll_53 rfl ?_
            refine g_iload d12_reckonAll_54 rfl ?_
            refine g_imulN d12_reckonAll_56 ?_
            refine g_iaddN d12_reckonAll_57 ?_
            refine g_iconstv (nI 1) d12_reckonAll_58 rfl ?_
            refine g_iaddN d12_reckonAll_59 ?_
            refine g_ialdN ((((b + 98) + (2 * k)) + 1)) d12_reckonAll_60 a_76 (rfl) (by omega) (by decide) ?_
            refine g_topI (nI (arg k)) (e2) ?_
            refine g_istore d12_reckonAll_61 (by decide) ?_
            refine g_iincN d12_reckonAll_63 rfl (by decide) ?_
            refine g_iload d12_reckonAll_66 rfl ?_
            refine g_bipushv (nI 20) d12_reckonAll_68 rfl ?_
            refine g_ic_ge (((op k) : Nat) : Int) (20) 120 (nI_ti (by omega)) (by decide) d12_reckonAll_70 rfl (fun c70 => absurd c70 (by omega)) (fun _ => ?_)
            refine g_aload_n d12_reckonAll_73 rfl ?_
            refine g_get fl12_80 d12_reckonAll_74 f_74_31 ?_
            refine g_iload_n d12_reckonAll_77 rfl ?_
            refine g_iload d12_reckonAll_78 rfl ?_
            refine g_iz_ne (((op k) : Nat) : Int) 89 (nI_ti (by omega)) d12_reckonAll_80 rfl (fun c80 => absurd c80 (by omega)) (fun _ => ?_)
            refine g_iload d12_reckonAll_83 rfl ?_
            refine g_i2lN (by omega) d12_reckonAll_85 ?_
            refine g_goto 113 d12_reckonAll_86 rfl ?_
            refine g_lastN (s.length) _ d12_reckonAll_113 a_89 (rfl) (by omega) (by decide) t_89 ?_
            refine g_iincN d12_reckonAll_114 rfl (by decide) ?_
            refine g_goto 259 d12_reckonAll_117 rfl ?_
            refine g_goto 10 d12_reckonAll_259 rfl ?_
            refine g_lo [(0, .ref 74), (1, .int first), (2, .int (nI last)), (3, .int (nI (s.length + 1))), (4, .int (nI (k + 1)))] ⟨rfl, rfl, rfl, rfl, rfl, trivial⟩ ?_
            exact ih (k + 1) (lN (arg k) :: s) (uL L2 89 s.length (lN (arg k))) res (⟨by rw [uL_s, pk_uLs], by rw [uL_s]; exact RR_up (Nat.le_refl _) hr⟩) (fun c hc => (uL_n hc).trans (hL c hc)) (by simp; omega) (by omega) he
          · replace he : eS op arg env last f (k + 1) (env (op k) :: s) = some res := by rw [show sS op arg env k s = some (some (k + 1, env (op k) :: s)) by simp [sS, o1, o2, o3]] at he; exact he
            rcases ho with ⟨ho, rfl⟩ | ⟨ho, rfl⟩
            · skip
              refine g_iload d12_reckonAll_10 rfl ?_
              refine g_iload_n d12_reckonAll_12 rfl ?_
              refine g_ic_ge ((k : Nat) : Int) ((last : Nat) : Int) 262 (nI_ti (by omega)) (nI_ti (by omega)) d12_reckonAll_13 rfl (fun c13 => absurd c13 (by omega)) (fun _ => ?_)
              refine g_aload_n d12_reckonAll_16 rfl ?_
              refine g_get fl12_352 d12_reckonAll_17 f_74_32 ?_
              refine g_topI (nI 0) (rfl) ?_
              refine g_iz_ne ((0 : Nat) : Int) 262 (nI_ti (by omega)) d12_reckonAll_20 rfl (fun c20 => absurd c20 (by decide)) (fun _ => ?_)
              refine g_aload_n d12_reckonAll_23 rfl ?_
              refine g_get fl12_13 d12_reckonAll_24 f_74_3 ?_
              refine g_aload_n d12_reckonAll_27 rfl ?_
              refine g_get fl12_355 d12_reckonAll_28 f_74_28 ?_
              refine g_topI (nI b) (hb) ?_
              refine g_bipushv (nI 98) d12_reckonAll_31 rfl ?_
              refine g_iaddN d12_reckonAll_33 ?_
              refine g_iconstv (nI 2) d12_reckonAll_34 rfl ?_
              refine g_iload d12_reckonAll_35 rfl ?_
              refine g_imulN d12_reckonAll_37 ?_
              refine g_iaddN d12_reckonAll_38 ?_
              refine g_ialdN (((b + 98) + (2 * k))) d12_reckonAll_39 a_76 (rfl) (by omega) (by decide) ?_
              refine g_topI (nI (op k)) (e1) ?_
              refine g_istore d12_reckonAll_40 (by decide) ?_
              refine g_aload_n d12_reckonAll_42 rfl ?_
              refine g_get fl12_13 d12_reckonAll_43 f_74_3 ?_
              refine g_aload_n d12_reckonAll_46 rfl ?_
              refine g_get fl12_355 d12_reckonAll_47 f_74_28 ?_
              refine g_topI (nI b) (hb) ?_
              refine g_bipushv (nI 98) d12_reckonAll_50 rfl ?_
              refine g_iaddN d12_reckonAll_52 ?_
              refine g_iconstv (nI 2) d12_reckonAll_53 rfl ?_
              refine g_iload d12_reckonAll_54 rfl ?_
              refine g_imulN d12_reckonAll_56 ?_
              refine g_iaddN d12_reckonAll_57 ?_
              refine g_iconstv (nI 1) d12_reckonAll_58 rfl ?_
              refine g_iaddN d12_reckonAll_59 ?_
              refine g_ialdN ((((b + 98) + (2 * k)) + 1)) d12_reckonAll_60 a_76 (rfl) (by omega) (by decide) ?_
              refine g_topI (nI (arg k)) (e2) ?_
              refine g_istore d12_reckonAll_61 (by decide) ?_
              refine g_iincN d12_reckonAll_63 rfl (by decide) ?_
              refine g_iload d12_reckonAll_66 rfl ?_
              refine g_bipushv (nI 20) d12_reckonAll_68 rfl ?_
              refine g_ic_ge (((op k) : Nat) : Int) (20) 120 (nI_ti (by omega)) (by decide) d12_reckonAll_70 rfl (fun c70 => absurd c70 (by omega)) (fun _ => ?_)
              refine g_aload_n d12_reckonAll_73 rfl ?_
              refine g_get fl12_80 d12_reckonAll_74 f_74_31 ?_
              refine g_iload_n d12_reckonAll_77 rfl ?_
              refine g_iload d12_reckonAll_78 rfl ?_
              refine g_iz_ne (((op k) : Nat) : Int) 89 (nI_ti (by omega)) d12_reckonAll_80 rfl (fun _ => ?_) (fun c80 => absurd c80 (by omega))
              refine g_aload_n d12_reckonAll_89 rfl ?_
              refine g_get fl12_271 d12_reckonAll_90 f_74_15 ?_
              refine g_topI (nI 0) (ho) ?_
              refine g_iz_eq ((0 : Nat) : Int) 106 (nI_ti (by omega)) d12_reckonAll_93 rfl (fun _ => ?_) (fun c93 => absurd c93 (by decide))
              refine g_aload_n d12_reckonAll_106 rfl ?_
              refine g_get fl12_74 d12_reckonAll_107 f_74_29 ?_
              refine g_iload d12_reckonAll_110 rfl ?_
              refine g_laldN ((op k)) d12_reckonAll_112 a_87 (rfl) (by omega) (by decide) ?_
              refine g_topL (L 87 (op k)) (by rw [hL 87 (by decide)]) ?_
              refine g_lastN (s.length) _ d12_reckonAll_113 a_89 (rfl) (by omega) (by decide) t_89 ?_
              refine g_iincN d12_reckonAll_114 rfl (by decide) ?_
              refine g_goto 259 d12_reckonAll_117 rfl ?_
              refine g_goto 10 d12_reckonAll_259 rfl ?_
              refine g_lo [(0, .ref 74), (1, .int first), (2, .int (nI last)), (3, .int (nI (s.length + 1))), (4, .int (nI (k + 1)))] ⟨rfl, rfl, rfl, rfl, rfl, trivial⟩ ?_
              exact ih (k + 1) (L 87 (op k) :: s) (uL L2 89 s.length (L 87 (op k))) res (⟨by rw [uL_s, pk_uLs], by rw [uL_s]; exact RR_up (Nat.le_refl _) hr⟩) (fun c hc => (uL_n hc).trans (hL c hc)) (by simp; omega) (by omega) he
            · skip
              refine g_iload d12_reckonAll_10 rfl ?_
              refine g_iload_n d12_reckonAll_12 rfl ?_
              refine g_ic_ge ((k : Nat) : Int) ((last : Nat) : Int) 262 (nI_ti (by omega)) (nI_ti (by omega)) d12_reckonAll_13 rfl (fun c13 => absurd c13 (by omega)) (fun _ => ?_)
              refine g_aload_n d12_reckonAll_16 rfl ?_
              refine g_get fl12_352 d12_reckonAll_17 f_74_32 ?_
              refine g_topI (nI 0) (rfl) ?_
              refine g_iz_ne ((0 : Nat) : Int) 262 (nI_ti (by omega)) d12_reckonAll_20 rfl (fun c20 => absurd c20 (by decide)) (fun _ => ?_)
              refine g_aload_n d12_reckonAll_23 rfl ?_
              refine g_get fl12_13 d12_reckonAll_24 f_74_3 ?_
              refine g_aload_n d12_reckonAll_27 rfl ?_
              refine g_get fl12_355 d12_reckonAll_28 f_74_28 ?_
              refine g_topI (nI b) (hb) ?_
              refine g_bipushv (nI 98) d12_reckonAll_31 rfl ?_
              refine g_iaddN d12_reckonAll_33 ?_
              refine g_iconstv (nI 2) d12_reckonAll_34 rfl ?_
              refine g_iload d12_reckonAll_35 rfl ?_
              refine g_imulN d12_reckonAll_37 ?_
              refine g_iaddN d12_reckonAll_38 ?_
              refine g_ialdN (((b + 98) + (2 * k))) d12_reckonAll_39 a_76 (rfl) (by omega) (by decide) ?_
              refine g_topI (nI (op k)) (e1) ?_
              refine g_istore d12_reckonAll_40 (by decide) ?_
              refine g_aload_n d12_reckonAll_42 rfl ?_
              refine g_get fl12_13 d12_reckonAll_43 f_74_3 ?_
              refine g_aload_n d12_reckonAll_46 rfl ?_
              refine g_get fl12_355 d12_reckonAll_47 f_74_28 ?_
              refine g_topI (nI b) (hb) ?_
              refine g_bipushv (nI 98) d12_reckonAll_50 rfl ?_
              refine g_iaddN d12_reckonAll_52 ?_
              refine g_iconstv (nI 2) d12_reckonAll_53 rfl ?_
              refine g_iload d12_reckonAll_54 rfl ?_
              refine g_imulN d12_reckonAll_56 ?_
              refine g_iaddN d12_reckonAll_57 ?_
              refine g_iconstv (nI 1) d12_reckonAll_58 rfl ?_
              refine g_iaddN d12_reckonAll_59 ?_
              refine g_ialdN ((((b + 98) + (2 * k)) + 1)) d12_reckonAll_60 a_76 (rfl) (by omega) (by decide) ?_
              refine g_topI (nI (arg k)) (e2) ?_
              refine g_istore d12_reckonAll_61 (by decide) ?_
              refine g_iincN d12_reckonAll_63 rfl (by decide) ?_
              refine g_iload d12_reckonAll_66 rfl ?_
              refine g_bipushv (nI 20) d12_reckonAll_68 rfl ?_
              refine g_ic_ge (((op k) : Nat) : Int) (20) 120 (nI_ti (by omega)) (by decide) d12_reckonAll_70 rfl (fun c70 => absurd c70 (by omega)) (fun _ => ?_)
              refine g_aload_n d12_reckonAll_73 rfl ?_
              refine g_get fl12_80 d12_reckonAll_74 f_74_31 ?_
              refine g_iload_n d12_reckonAll_77 rfl ?_
              refine g_iload d12_reckonAll_78 rfl ?_
              refine g_iz_ne (((op k) : Nat) : Int) 89 (nI_ti (by omega)) d12_reckonAll_80 rfl (fun _ => ?_) (fun c80 => absurd c80 (by omega))
              refine g_aload_n d12_reckonAll_89 rfl ?_
              refine g_get fl12_271 d12_reckonAll_90 f_74_15 ?_
              refine g_topI (nI 1) (ho) ?_
              refine g_iz_eq ((1 : Nat) : Int) 106 (nI_ti (by omega)) d12_reckonAll_93 rfl (fun c93 => absurd c93 (by decide)) (fun _ => ?_)
              refine g_aload_n d12_reckonAll_96 rfl ?_
              refine g_get fl12_77 d12_reckonAll_97 f_74_30 ?_
              refine g_iload d12_reckonAll_100 rfl ?_
              refine g_laldN ((op k)) d12_reckonAll_102 a_88 (rfl) (by omega) (by decide) ?_
              refine g_topL (L 88 (op k)) (by rw [hL 88 (by decide)]) ?_
              refine g_goto 113 d12_reckonAll_103 rfl ?_
              refine g_lastN (s.length) _ d12_reckonAll_113 a_89 (rfl) (by omega) (by decide) t_89 ?_
              refine g_iincN d12_reckonAll_114 rfl (by decide) ?_
              refine g_goto 259 d12_reckonAll_117 rfl ?_
              refine g_goto 10 d12_reckonAll_259 rfl ?_
              refine g_lo [(0, .ref 74), (1, .int first), (2, .int (nI last)), (3, .int (nI (s.length + 1))), (4, .int (nI (k + 1)))] ⟨rfl, rfl, rfl, rfl, rfl, trivial⟩ ?_
              exact ih (k + 1) (L 88 (op k) :: s) (uL L2 89 s.length (L 88 (op k))) res (⟨by rw [uL_s, pk_uLs], by rw [uL_s]; exact RR_up (Nat.le_refl _) hr⟩) (fun c hc => (uL_n hc).trans (hL c hc)) (by simp; omega) (by omega) he
        · rw [show sS op arg env k s = none by simp only [sS, if_pos o1, if_neg o2]] at he; cases he
      · by_cases o2 : op k < 28
        · rcases s with _ | ⟨y, _ | ⟨a, r⟩⟩
          · rw [show sS op arg env k [] = none by simp [sS, o1, o2]] at he; cases he
          · rw [show sS op arg env k [y] = none by simp [sS, o1, o2]] at he; cases he
          · obtain ⟨r1, r2, r3⟩ := hr
            have hlen : (y :: a :: r).length = r.length + 2 := rfl
            have hs2 : r.length + 2 ≤ 399 := hs
            have e9 : L2 89 (r.length + 1) = y := r1
            refine g_lo [(0, .ref 74), (1, .int first), (2, .int (nI last)), (3, .int (nI (r.length + 2))), (4, .int (nI k))] ⟨rfl, rfl, rfl, rfl, rfl, trivial⟩ ?_
            by_cases oz : (op k = 23 ∨ op k = 24) ∧ y = 0
            · replace he : some none = some res := by rw [show sS op arg env k (y :: a :: r) = some none by simp only [sS, if_neg o1, if_pos o2]; rw [if_pos (Or.inl oz)]] at he; exact he
              obtain rfl : res = none := (Option.some.inj he).symm
              refine g_iload d12_reckonAll_10 rfl ?_
              refine g_iload_n d12_reckonAll_12 rfl ?_
              refine g_ic_ge ((k : Nat) : Int) ((last : Nat) : Int) 262 (nI_ti (by omega)) (nI_ti (by omega)) d12_reckonAll_13 rfl (fun c13 => absurd c13 (by omega)) (fun _ => ?_)
              refine g_aload_n d12_reckonAll_16 rfl ?_
              refine g_get fl12_352 d12_reckonAll_17 f_74_32 ?_
              refine g_topI (nI 0) (rfl) ?_
              refine g_iz_ne ((0 : Nat) : Int) 262 (nI_ti (by omega)) d12_reckonAll_20 rfl (fun c20 => absurd c20 (by decide)) (fun _ => ?_)
              refine g_aload_n d12_reckonAll_23 rfl ?_
              refine g_get fl12_13 d12_reckonAll_24 f_74_3 ?_
              refine g_aload_n d12_reckonAll_27 rfl ?_
              refine g_get fl12_355 d12_reckonAll_28 f_74_28 ?_
              refine g_topI (nI b) (hb) ?_
              refine g_bipushv (nI 98) d12_reckonAll_31 rfl ?_
              refine g_iaddN d12_reckonAll_33 ?_
              refine g_iconstv (nI 2) d12_reckonAll_34 rfl ?_
              refine g_iload d12_reckonAll_35 rfl ?_
              refine g_imulN d12_reckonAll_37 ?_
              refine g_iaddN d12_reckonAll_38 ?_
              refine g_ialdN (((b + 98) + (2 * k))) d12_reckonAll_39 a_76 (rfl) (by omega) (by decide) ?_
              refine g_topI (nI (op k)) (e1) ?_
              refine g_istore d12_reckonAll_40 (by decide) ?_
              refine g_aload_n d12_reckonAll_42 rfl ?_
              refine g_get fl12_13 d12_reckonAll_43 f_74_3 ?_
              refine g_aload_n d12_reckonAll_46 rfl ?_
              refine g_get fl12_355 d12_reckonAll_47 f_74_28 ?_
              refine g_topI (nI b) (hb) ?_
              refine g_bipushv (nI 98) d12_reckonAll_50 rfl ?_
              refine g_iaddN d12_reckonAll_52 ?_
              refine g_iconstv (nI 2) d12_reckonAll_53 rfl ?_
              refine g_iload d12_reckonAll_54 rfl ?_
              refine g_imulN d12_reckonAll_56 ?_
              refine g_iaddN d12_reckonAll_57 ?_
              refine g_iconstv (nI 1) d12_reckonAll_58 rfl ?_
              refine g_iaddN d12_reckonAll_59 ?_
              refine g_ialdN ((((b + 98) + (2 * k)) + 1)) d12_reckonAll_60 a_76 (rfl) (by omega) (by decide) ?_
              refine g_topI (nI (arg k)) (e2) ?_
              refine g_istore d12_reckonAll_61 (by decide) ?_
              refine g_iincN d12_reckonAll_63 rfl (by decide) ?_
              refine g_iload d12_reckonAll_66 rfl ?_
              refine g_bipushv (nI 20) d12_reckonAll_68 rfl ?_
              refine g_ic_ge (((op k) : Nat) : Int) (20) 120 (nI_ti (by omega)) (by decide) d12_reckonAll_70 rfl (fun _ => ?_) (fun c70 => absurd c70 (by omega))
              refine g_iload d12_reckonAll_120 rfl ?_
              refine g_bipushv (nI 28) d12_reckonAll_122 rfl ?_
              refine g_ic_ge (((op k) : Nat) : Int) (28) 197 (nI_ti (by omega)) (by decide) d12_reckonAll_124 rfl (fun c124 => absurd c124 (by omega)) (fun _ => ?_)
              refine g_iinc (nI (r.length + 1)) d12_reckonAll_127 rfl (sb_m1 (by omega)) (by decide) ?_
              refine g_aload_n d12_reckonAll_130 rfl ?_
              refine g_get fl12_80 d12_reckonAll_131 f_74_31 ?_
              refine g_iload_n d12_reckonAll_134 rfl ?_
              refine g_iconstv (nI 1) d12_reckonAll_135 rfl ?_
              refine g_isubN (by omega) d12_reckonAll_136 ?_
              refine g_topI (nI r.length) (rfl) ?_
              refine g_aload_n d12_reckonAll_137 rfl ?_
              refine g_iload d12_reckonAll_138 rfl ?_
              refine g_aload_n d12_reckonAll_140 rfl ?_
              refine g_get fl12_80 d12_reckonAll_141 f_74_31 ?_
              refine g_iload_n d12_reckonAll_144 rfl ?_
              refine g_iconstv (nI 1) d12_reckonAll_145 rfl ?_
              refine g_isubN (by omega) d12_reckonAll_146 ?_
              refine g_topI (nI r.length) (rfl) ?_
              refine g_laldN (r.length) d12_reckonAll_147 a_89 (rfl) (by omega) (by decide) ?_
              refine g_topL (a) (r2) ?_
              refine g_aload_n d12_reckonAll_148 rfl ?_
              refine g_get fl12_80 d12_reckonAll_149 f_74_31 ?_
              refine g_iload_n d12_reckonAll_152 rfl ?_
              refine g_laldN ((r.length + 1)) d12_reckonAll_153 a_89 (rfl) (by omega) (by decide) ?_
              refine g_topL (y) (e9) ?_
              refine g_EV3 vm12_reckon ml12_358 c_74 (r12_reckon (op k) (by omega) (by omega) a y rfl (Nat.le_refl 0)) (by omega) (Nat.le_of_ble_eq_true rfl) d12_reckonAll_154 ?_
              refine g_lastN (r.length) _ d12_reckonAll_157 a_89 (rfl) (by omega) (by decide) t_89 ?_
              refine g_aload_n d12_reckonAll_158 rfl ?_
              refine g_aload_n d12_reckonAll_159 rfl ?_
              refine g_get fl12_352 d12_reckonAll_160 f_74_32 ?_
              refine g_topI (nI 1) (by rw [if_pos oz]; rfl) ?_
              refine g_iz_ne ((1 : Nat) : Int) 186 (nI_ti (by omega)) d12_reckonAll_163 rfl (fun _ => ?_) (fun c163 => absurd c163 (by decide))
              refine g_iconstv (nI 1) d12_reckonAll_186 rfl ?_
              refine g_goto 191 d12_reckonAll_187 rfl ?_
              refine g_putZh _ fl12_352 d12_reckonAll_191 f_74_32 (by decide) s_74_32 ?_
              refine g_hp (hp (uI I 74 32 1) (uL L2 89 r.length (ar0 (op k) a y)) R dy) (by rw [uI_uI, uI_uI]; rfl) ?_
              refine g_goto 259 d12_reckonAll_194 rfl ?_
              refine g_goto 10 d12_reckonAll_259 rfl ?_
              by_cases hl2 : last ≤ k + 1
              · skip
                refine g_iload d12_reckonAll_10 rfl ?_
                refine g_iload_n d12_reckonAll_12 rfl ?_
                refine g_ic_ge (((k + 1) : Nat) : Int) ((last : Nat) : Int) 262 (nI_ti (by omega)) (nI_ti (by omega)) d12_reckonAll_13 rfl (fun _ => ?_) (fun c13 => absurd c13 (by omega))
                refine g_aload_n d12_reckonAll_262 rfl ?_
                refine g_iload_n d12_reckonAll_263 rfl ?_
                refine g_iz_le (((r.length + 1) : Nat) : Int) 276 (nI_ti (by omega)) d12_reckonAll_264 rfl (fun c264 => absurd c264 (by omega)) (fun _ => ?_)
                refine g_aload_n d12_reckonAll_267 rfl ?_
                refine g_get fl12_80 d12_reckonAll_268 f_74_31 ?_
                refine g_iconstv (nI 0) d12_reckonAll_271 rfl ?_
                refine g_laldN (0) d12_reckonAll_272 a_89 (rfl) (by omega) (by decide) ?_
                refine g_topL (uL L2 89 r.length (ar0 (op k) a y) 89 0) (rfl) ?_
                refine g_goto 277 d12_reckonAll_273 rfl ?_
                refine g_putLh _ fl12_366 d12_reckonAll_277 f_74_33 s_74_33 ?_
                exact g_vret rfl d12_reckonAll_280 (⟨(uI I 74 32 1, uL (uL L2 89 r.length (ar0 (op k) a y)) 74 33 (uL L2 89 r.length (ar0 (op k) a y) 89 0)), ⟨rfl, fun c h1 h2 => (uL_n h2).trans ((uL_n h1).trans (hL c h1)), fun j hj => (by show uL (uL L2 89 r.length (ar0 (op k) a y)) 74 33 (uL L2 89 r.length (ar0 (op k) a y) 89 0) 74 j = L 74 j; rw [uL_at, if_neg (fun q => hj q.2), uL_n (by decide), hL 74 (by decide)]), fun t ht => by cases ht⟩, rfl, rfl⟩)
              · skip
                refine g_iload d12_reckonAll_10 rfl ?_
                refine g_iload_n d12_reckonAll_12 rfl ?_
                refine g_ic_ge (((k + 1) : Nat) : Int) ((last : Nat) : Int) 262 (nI_ti (by omega)) (nI_ti (by omega)) d12_reckonAll_13 rfl (fun c13 => absurd c13 (by omega)) (fun _ => ?_)
                refine g_aload_n d12_reckonAll_16 rfl ?_
                refine g_get fl12_352 d12_reckonAll_17 f_74_32 ?_
                refine g_topI (nI 1) (rfl) ?_
                refine g_iz_ne ((1 : Nat) : Int) 262 (nI_ti (by omega)) d12_reckonAll_20 rfl (fun _ => ?_) (fun c20 => absurd c20 (by decide))
                refine g_aload_n d12_reckonAll_262 rfl ?_
                refine g_iload_n d12_reckonAll_263 rfl ?_
                refine g_iz_le (((r.length + 1) : Nat) : Int) 276 (nI_ti (by omega)) d12_reckonAll_264 rfl (fun c264 => absurd c264 (by omega)) (fun _ => ?_)
                refine g_aload_n d12_reckonAll_267 rfl ?_
                refine g_get fl12_80 d12_reckonAll_268 f_74_31 ?_
                refine g_iconstv (nI 0) d12_reckonAll_271 rfl ?_
                refine g_laldN (0) d12_reckonAll_272 a_89 (rfl) (by omega) (by decide) ?_
                refine g_topL (uL L2 89 r.length (ar0 (op k) a y) 89 0) (rfl) ?_
                refine g_goto 277 d12_reckonAll_273 rfl ?_
                refine g_putLh _ fl12_366 d12_reckonAll_277 f_74_33 s_74_33 ?_
                exact g_vret rfl d12_reckonAll_280 (⟨(uI I 74 32 1, uL (uL L2 89 r.length (ar0 (op k) a y)) 74 33 (uL L2 89 r.length (ar0 (op k) a y) 89 0)), ⟨rfl, fun c h1 h2 => (uL_n h2).trans ((uL_n h1).trans (hL c h1)), fun j hj => (by show uL (uL L2 89 r.length (ar0 (op k) a y)) 74 33 (uL L2 89 r.length (ar0 (op k) a y) 89 0) 74 j = L 74 j; rw [uL_at, if_neg (fun q => hj q.2), uL_n (by decide), hL 74 (by decide)]), fun t ht => by cases ht⟩, rfl, rfl⟩)
            · by_cases oR : -1000000000 ≤ (ar0 (op k) a y).toInt ∧ (ar0 (op k) a y).toInt ≤ 1000000000
              · replace he : eS op arg env last f (k + 1) (ar0 (op k) a y :: r) = some res := by rw [show sS op arg env k (y :: a :: r) = some (some (k + 1, ar0 (op k) a y :: r)) by simp only [sS, if_neg o1, if_pos o2]; rw [if_neg (fun q => q.elim oz (fun z => z oR))]] at he; exact he
                refine g_iload d12_reckonAll_10 rfl ?_
                refine g_iload_n d12_reckonAll_12 rfl ?_
                refine g_ic_ge ((k : Nat) : Int) ((last : Nat) : Int) 262 (nI_ti (by omega)) (nI_ti (by omega)) d12_reckonAll_13 rfl (fun c13 => absurd c13 (by omega)) (fun _ => ?_)
                refine g_aload_n d12_reckonAll_16 rfl ?_
                refine g_get fl12_352 d12_reckonAll_17 f_74_32 ?_
                refine g_topI (nI 0) (rfl) ?_
                refine g_iz_ne ((0 : Nat) : Int) 262 (nI_ti (by omega)) d12_reckonAll_20 rfl (fun c20 => absurd c20 (by decide)) (fun _ => ?_)
                refine g_aload_n d12_reckonAll_23 rfl ?_
                refine g_get fl12_13 d12_reckonAll_24 f_74_3 ?_
                refine g_aload_n d12_reckonAll_27 rfl ?_
                refine g_get fl12_355 d12_reckonAll_28 f_74_28 ?_
                refine g_topI (nI b) (hb) ?_
                refine g_bipushv (nI 98) d12_reckonAll_31 rfl ?_
                refine g_iaddN d12_reckonAll_33 ?_
                refine g_iconstv (nI 2) d12_reckonAll_34 rfl ?_
                refine g_iload d12_reckonAll_35 rfl ?_
                refine g_imulN d12_reckonAll_37 ?_
                refine g_iaddN d12_reckonAll_38 ?_
                refine g_ialdN (((b + 98) + (2 * k))) d12_reckonAll_39 a_76 (rfl) (by omega) (by decide) ?_
                refine g_topI (nI (op k)) (e1) ?_
                refine g_istore d12_reckonAll_40 (by decide) ?_
                refine g_aload_n d12_reckonAll_42 rfl ?_
                refine g_get fl12_13 d12_reckonAll_43 f_74_3 ?_
                refine g_aload_n d12_reckonAll_46 rfl ?_
                refine g_get fl12_355 d12_reckonAll_47 f_74_28 ?_
                refine g_topI (nI b) (hb) ?_
                refine g_bipushv (nI 98) d12_reckonAll_50 rfl ?_
                refine g_iaddN d12_reckonAll_52 ?_
                refine g_iconstv (nI 2) d12_reckonAll_53 rfl ?_
                refine g_iload d12_reckonAll_54 rfl ?_
                refine g_imulN d12_reckonAll_56 ?_
                refine g_iaddN d12_reckonAll_57 ?_
                refine g_iconstv (nI 1) d12_reckonAll_58 rfl ?_
                refine g_iaddN d12_reckonAll_59 ?_
                refine g_ialdN ((((b + 98) + (2 * k)) + 1)) d12_reckonAll_60 a_76 (rfl) (by omega) (by decide) ?_
                refine g_topI (nI (arg k)) (e2) ?_
                refine g_istore d12_reckonAll_61 (by decide) ?_
                refine g_iincN d12_reckonAll_63 rfl (by decide) ?_
                refine g_iload d12_reckonAll_66 rfl ?_
                refine g_bipushv (nI 20) d12_reckonAll_68 rfl ?_
                refine g_ic_ge (((op k) : Nat) : Int) (20) 120 (nI_ti (by omega)) (by decide) d12_reckonAll_70 rfl (fun _ => ?_) (fun c70 => absurd c70 (by omega))
                refine g_iload d12_reckonAll_120 rfl ?_
                refine g_bipushv (nI 28) d12_reckonAll_122 rfl ?_
                refine g_ic_ge (((op k) : Nat) : Int) (28) 197 (nI_ti (by omega)) (by decide) d12_reckonAll_124 rfl (fun c124 => absurd c124 (by omega)) (fun _ => ?_)
                refine g_iinc (nI (r.length + 1)) d12_reckonAll_127 rfl (sb_m1 (by omega)) (by decide) ?_
                refine g_aload_n d12_reckonAll_130 rfl ?_
                refine g_get fl12_80 d12_reckonAll_131 f_74_31 ?_
                refine g_iload_n d12_reckonAll_134 rfl ?_
                refine g_iconstv (nI 1) d12_reckonAll_135 rfl ?_
                refine g_isubN (by omega) d12_reckonAll_136 ?_
                refine g_topI (nI r.length) (rfl) ?_
                refine g_aload_n d12_reckonAll_137 rfl ?_
                refine g_iload d12_reckonAll_138 rfl ?_
                refine g_aload_n d12_reckonAll_140 rfl ?_
                refine g_get fl12_80 d12_reckonAll_141 f_74_31 ?_
                refine g_iload_n d12_reckonAll_144 rfl ?_
                refine g_iconstv (nI 1) d12_reckonAll_145 rfl ?_
                refine g_isubN (by omega) d12_reckonAll_146 ?_
                refine g_topI (nI r.length) (rfl) ?_
                refine g_laldN (r.length) d12_reckonAll_147 a_89 (rfl) (by omega) (by decide) ?_
                refine g_topL (a) (r2) ?_
                refine g_aload_n d12_reckonAll_148 rfl ?_
                refine g_get fl12_80 d12_reckonAll_149 f_74_31 ?_
                refine g_iload_n d12_reckonAll_152 rfl ?_
                refine g_laldN ((r.length + 1)) d12_reckonAll_153 a_89 (rfl) (by omega) (by decide) ?_
                refine g_topL (y) (e9) ?_
                refine g_EV3 vm12_reckon ml12_358 c_74 (r12_reckon (op k) (by omega) (by omega) a y rfl (Nat.le_refl 0)) (by omega) (Nat.le_of_ble_eq_true rfl) d12_reckonAll_154 ?_
                refine g_lastN (r.length) _ d12_reckonAll_157 a_89 (rfl) (by omega) (by decide) t_89 ?_
                refine g_aload_n d12_reckonAll_158 rfl ?_
                refine g_aload_n d12_reckonAll_159 rfl ?_
                refine g_get fl12_352 d12_reckonAll_160 f_74_32 ?_
                refine g_topI (nI 0) (by rw [if_neg oz]; rfl) ?_
                refine g_iz_ne ((0 : Nat) : Int) 186 (nI_ti (by omega)) d12_reckonAll_163 rfl (fun c163 => absurd c163 (by decide)) (fun _ => ?_)
                refine g_aload_n d12_reckonAll_166 rfl ?_
                refine g_get fl12_80 d12_reckonAll_167 f_74_31 ?_
                refine g_iload_n d12_reckonAll_170 rfl ?_
                refine g_iconstv (nI 1) d12_reckonAll_171 rfl ?_
                refine g_isubN (by omega) d12_reckonAll_172 ?_
                refine g_topI (nI r.length) (rfl) ?_
                refine g_laldN (r.length) d12_reckonAll_173 a_89 (rfl) (by omega) (by decide) ?_
                refine g_topL (ar0 (op k) a y) (by rw [uL_s, pk_uLs]) ?_
                refine g_ldc2 d12_reckonAll_174 kl12_362 ?_
                refine g_ldc2 d12_reckonAll_177 kl12_364 ?_
                refine g_ES3 sm12_in ml12_134 (r12_inI (ai := (-1000000000)) (bi := (1000000000)) (rfl) (by decide) (by decide) (Nat.le_refl 0)) (by omega) (Nat.le_of_ble_eq_true rfl) d12_reckonAll_180 ?_
                refine g_bnz 190 d12_reckonAll_183 rfl (fun _ => ?_) (fun c183 => absurd c183 (fun q => q oR))
                refine g_iconstv (nI 0) d12_reckonAll_190 rfl ?_
                refine g_putZh _ fl12_352 d12_reckonAll_191 f_74_32 (by decide) s_74_32 ?_
                refine g_hp (hp (uI I 74 32 0) (uL L2 89 r.length (ar0 (op k) a y)) R dy) (by rw [uI_uI, uI_uI]; rfl) ?_
                refine g_goto 259 d12_reckonAll_194 rfl ?_
                refine g_goto 10 d12_reckonAll_259 rfl ?_
                refine g_lo [(0, .ref 74), (1, .int first), (2, .int (nI last)), (3, .int (nI (r.length + 1))), (4, .int (nI (k + 1)))] ⟨rfl, rfl, rfl, rfl, rfl, trivial⟩ ?_
                exact ih (k + 1) (ar0 (op k) a y :: r) (uL L2 89 r.length (ar0 (op k) a y)) res (⟨by rw [uL_s, pk_uLs], by rw [uL_s]; exact RR_up (Nat.le_refl _) r3⟩) (fun c hc => (uL_n hc).trans (hL c hc)) (by simp; omega) (by omega) he
              · replace he : some none = some res := by rw [show sS op arg env k (y :: a :: r) = some none by simp only [sS, if_neg o1, if_pos o2]; rw [if_pos (Or.inr oR)]] at he; exact he
                obtain rfl : res = none := (Option.some.inj he).symm
                refine g_iload d12_reckonAll_10 rfl ?_
                refine g_iload_n d12_reckonAll_12 rfl ?_
                refine g_ic_ge ((k : Nat) : Int) ((last : Nat) : Int) 262 (nI_ti (by omega)) (nI_ti (by omega)) d12_reckonAll_13 rfl (fun c13 => absurd c13 (by omega)) (fun _ => ?_)
                refine g_aload_n d12_reckonAll_16 rfl ?_
                refine g_get fl12_352 d12_reckonAll_17 f_74_32 ?_
                refine g_topI (nI 0) (rfl) ?_
                refine g_iz_ne ((0 : Nat) : Int) 262 (nI_ti (by omega)) d12_reckonAll_20 rfl (fun c20 => absurd c20 (by decide)) (fun _ => ?_)
                refine g_aload_n d12_reckonAll_23 rfl ?_
                refine g_get fl12_13 d12_reckonAll_24 f_74_3 ?_
                refine g_aload_n d12_reckonAll_27 rfl ?_
                refine g_get fl12_355 d12_reckonAll_28 f_74_28 ?_
                refine g_topI (nI b) (hb) ?_
                refine g_bipushv (nI 98) d12_reckonAll_31 rfl ?_
                refine g_iaddN d12_reckonAll_33 ?_
                refine g_iconstv (nI 2) d12_reckonAll_34 rfl ?_
                refine g_iload d12_reckonAll_35 rfl ?_
                refine g_imulN d12_reckonAll_37 ?_
                refine g_iaddN d12_reckonAll_38 ?_
                refine g_ialdN (((b + 98) + (2 * k))) d12_reckonAll_39 a_76 (rfl) (by omega) (by decide) ?_
                refine g_topI (nI (op k)) (e1) ?_
                refine g_istore d12_reckonAll_40 (by decide) ?_
                refine g_aload_n d12_reckonAll_42 rfl ?_
                refine g_get fl12_13 d12_reckonAll_43 f_74_3 ?_
                refine g_aload_n d12_reckonAll_46 rfl ?_
                refine g_get fl12_355 d12_reckonAll_47 f_74_28 ?_
                refine g_topI (nI b) (hb) ?_
                refine g_bipushv (nI 98) d12_reckonAll_50 rfl ?_
                refine g_iaddN d12_reckonAll_52 ?_
                refine g_iconstv (nI 2) d12_reckonAll_53 rfl ?_
                refine g_iload d12_reckonAll_54 rfl ?_
                refine g_imulN d12_reckonAll_56 ?_
                refine g_iaddN d12_reckonAll_57 ?_
                refine g_iconstv (nI 1) d12_reckonAll_58 rfl ?_
                refine g_iaddN d12_reckonAll_59 ?_
                refine g_ialdN ((((b + 98) + (2 * k)) + 1)) d12_reckonAll_60 a_76 (rfl) (by omega) (by decide) ?_
                refine g_topI (nI (arg k)) (e2) ?_
                refine g_istore d12_reckonAll_61 (by decide) ?_
                refine g_iincN d12_reckonAll_63 rfl (by decide) ?_
                refine g_iload d12_reckonAll_66 rfl ?_
                refine g_bipushv (nI 20) d12_reckonAll_68 rfl ?_
                refine g_ic_ge (((op k) : Nat) : Int) (20) 120 (nI_ti (by omega)) (by decide) d12_reckonAll_70 rfl (fun _ => ?_) (fun c70 => absurd c70 (by omega))
                refine g_iload d12_reckonAll_120 rfl ?_
                refine g_bipushv (nI 28) d12_reckonAll_122 rfl ?_
                refine g_ic_ge (((op k) : Nat) : Int) (28) 197 (nI_ti (by omega)) (by decide) d12_reckonAll_124 rfl (fun c124 => absurd c124 (by omega)) (fun _ => ?_)
                refine g_iinc (nI (r.length + 1)) d12_reckonAll_127 rfl (sb_m1 (by omega)) (by decide) ?_
                refine g_aload_n d12_reckonAll_130 rfl ?_
                refine g_get fl12_80 d12_reckonAll_131 f_74_31 ?_
                refine g_iload_n d12_reckonAll_134 rfl ?_
                refine g_iconstv (nI 1) d12_reckonAll_135 rfl ?_
                refine g_isubN (by omega) d12_reckonAll_136 ?_
                refine g_topI (nI r.length) (rfl) ?_
                refine g_aload_n d12_reckonAll_137 rfl ?_
                refine g_iload d12_reckonAll_138 rfl ?_
                refine g_aload_n d12_reckonAll_140 rfl ?_
                refine g_get fl12_80 d12_reckonAll_141 f_74_31 ?_
                refine g_iload_n d12_reckonAll_144 rfl ?_
                refine g_iconstv (nI 1) d12_reckonAll_145 rfl ?_
                refine g_isubN (by omega) d12_reckonAll_146 ?_
                refine g_topI (nI r.length) (rfl) ?_
                refine g_laldN (r.length) d12_reckonAll_147 a_89 (rfl) (by omega) (by decide) ?_
                refine g_topL (a) (r2) ?_
                refine g_aload_n d12_reckonAll_148 rfl ?_
                refine g_get fl12_80 d12_reckonAll_149 f_74_31 ?_
                refine g_iload_n d12_reckonAll_152 rfl ?_
                refine g_laldN ((r.length + 1)) d12_reckonAll_153 a_89 (rfl) (by omega) (by decide) ?_
                refine g_topL (y) (e9) ?_
                refine g_EV3 vm12_reckon ml12_358 c_74 (r12_reckon (op k) (by omega) (by omega) a y rfl (Nat.le_refl 0)) (by omega) (Nat.le_of_ble_eq_true rfl) d12_reckonAll_154 ?_
                refine g_lastN (r.length) _ d12_reckonAll_157 a_89 (rfl) (by omega) (by decide) t_89 ?_
                refine g_aload_n d12_reckonAll_158 rfl ?_
                refine g_aload_n d12_reckonAll_159 rfl ?_
                refine g_get fl12_352 d12_reckonAll_160 f_74_32 ?_
                refine g_topI (nI 0) (by rw [if_neg oz]; rfl) ?_
                refine g_iz_ne ((0 : Nat) : Int) 186 (nI_ti (by omega)) d12_reckonAll_163 rfl (fun c163 => absurd c163 (by decide)) (fun _ => ?_)
                refine g_aload_n d12_reckonAll_166 rfl ?_
                refine g_get fl12_80 d12_reckonAll_167 f_74_31 ?_
                refine g_iload_n d12_reckonAll_170 rfl ?_
                refine g_iconstv (nI 1) d12_reckonAll_171 rfl ?_
                refine g_isubN (by omega) d12_reckonAll_172 ?_
                refine g_topI (nI r.length) (rfl) ?_
                refine g_laldN (r.length) d12_reckonAll_173 a_89 (rfl) (by omega) (by decide) ?_
                refine g_topL (ar0 (op k) a y) (by rw [uL_s, pk_uLs]) ?_
                refine g_ldc2 d12_reckonAll_174 kl12_362 ?_
                refine g_ldc2 d12_reckonAll_177 kl12_364 ?_
                refine g_ES3 sm12_in ml12_134 (r12_inI (ai := (-1000000000)) (bi := (1000000000)) (rfl) (by decide) (by decide) (Nat.le_refl 0)) (by omega) (Nat.le_of_ble_eq_true rfl) d12_reckonAll_180 ?_
                refine g_bnz 190 d12_reckonAll_183 rfl (fun c183 => absurd c183 (oR)) (fun _ => ?_)
                refine g_iconstv (nI 1) d12_reckonAll_186 rfl ?_
                refine g_goto 191 d12_reckonAll_187 rfl ?_
                refine g_putZh _ fl12_352 d12_reckonAll_191 f_74_32 (by decide) s_74_32 ?_
                refine g_hp (hp (uI I 74 32 1) (uL L2 89 r.length (ar0 (op k) a y)) R dy) (by rw [uI_uI, uI_uI]; rfl) ?_
                refine g_goto 259 d12_reckonAll_194 rfl ?_
                refine g_goto 10 d12_reckonAll_259 rfl ?_
                by_cases hl2 : last ≤ k + 1
                · skip
                  refine g_iload d12_reckonAll_10 rfl ?_
                  refine g_iload_n d12_reckonAll_12 rfl ?_
                  refine g_ic_ge (((k + 1) : Nat) : Int) ((last : Nat) : Int) 262 (nI_ti (by omega)) (nI_ti (by omega)) d12_reckonAll_13 rfl (fun _ => ?_) (fun c13 => absurd c13 (by omega))
                  refine g_aload_n d12_reckonAll_262 rfl ?_
                  refine g_iload_n d12_reckonAll_263 rfl ?_
                  refine g_iz_le (((r.length + 1) : Nat) : Int) 276 (nI_ti (by omega)) d12_reckonAll_264 rfl (fun c264 => absurd c264 (by omega)) (fun _ => ?_)
                  refine g_aload_n d12_reckonAll_267 rfl ?_
                  refine g_get fl12_80 d12_reckonAll_268 f_74_31 ?_
                  refine g_iconstv (nI 0) d12_reckonAll_271 rfl ?_
                  refine g_laldN (0) d12_reckonAll_272 a_89 (rfl) (by omega) (by decide) ?_
                  refine g_topL (uL L2 89 r.length (ar0 (op k) a y) 89 0) (rfl) ?_
                  refine g_goto 277 d12_reckonAll_273 rfl ?_
                  refine g_putLh _ fl12_366 d12_reckonAll_277 f_74_33 s_74_33 ?_
                  exact g_vret rfl d12_reckonAll_280 (⟨(uI I 74 32 1, uL (uL L2 89 r.length (ar0 (op k) a y)) 74 33 (uL L2 89 r.length (ar0 (op k) a y) 89 0)), ⟨rfl, fun c h1 h2 => (uL_n h2).trans ((uL_n h1).trans (hL c h1)), fun j hj => (by show uL (uL L2 89 r.length (ar0 (op k) a y)) 74 33 (uL L2 89 r.length (ar0 (op k) a y) 89 0) 74 j = L 74 j; rw [uL_at, if_neg (fun q => hj q.2), uL_n (by decide), hL 74 (by decide)]), fun t ht => by cases ht⟩, rfl, rfl⟩)
                · skip
                  refine g_iload d12_reckonAll_10 rfl ?_
                  refine g_iload_n d12_reckonAll_12 rfl ?_
                  refine g_ic_ge (((k + 1) : Nat) : Int) ((last : Nat) : Int) 262 (nI_ti (by omega)) (nI_ti (by omega)) d12_reckonAll_13 rfl (fun c13 => absurd c13 (by omega)) (fun _ => ?_)
                  refine g_aload_n d12_reckonAll_16 rfl ?_
                  refine g_get fl12_352 d12_reckonAll_17 f_74_32 ?_
                  refine g_topI (nI 1) (rfl) ?_
                  refine g_iz_ne ((1 : Nat) : Int) 262 (nI_ti (by omega)) d12_reckonAll_20 rfl (fun _ => ?_) (fun c20 => absurd c20 (by decide))
                  refine g_aload_n d12_reckonAll_262 rfl ?_
                  refine g_iload_n d12_reckonAll_263 rfl ?_
                  refine g_iz_le (((r.length + 1) : Nat) : Int) 276 (nI_ti (by omega)) d12_reckonAll_264 rfl (fun c264 => absurd c264 (by omega)) (fun _ => ?_)
                  refine g_aload_n d12_reckonAll_267 rfl ?_
                  refine g_get fl12_80 d12_reckonAll_268 f_74_31 ?_
                  refine g_iconstv (nI 0) d12_reckonAll_271 rfl ?_
                  refine g_laldN (0) d12_reckonAll_272 a_89 (rfl) (by omega) (by decide) ?_
                  refine g_topL (uL L2 89 r.length (ar0 (op k) a y) 89 0) (rfl) ?_
                  refine g_goto 277 d12_reckonAll_273 rfl ?_
                  refine g_putLh _ fl12_366 d12_reckonAll_277 f_74_33 s_74_33 ?_
                  exact g_vret rfl d12_reckonAll_280 (⟨(uI I 74 32 1, uL (uL L2 89 r.length (ar0 (op k) a y)) 74 33 (uL L2 89 r.length (ar0 (op k) a y) 89 0)), ⟨rfl, fun c h1 h2 => (uL_n h2).trans ((uL_n h1).trans (hL c h1)), fun j hj => (by show uL (uL L2 89 r.length (ar0 (op k) a y)) 74 33 (uL L2 89 r.length (ar0 (op k) a y) 89 0) 74 j = L 74 j; rw [uL_at, if_neg (fun q => hj q.2), uL_n (by decide), hL 74 (by decide)]), fun t ht => by cases ht⟩, rfl, rfl⟩)
        · by_cases o3 : op k = 28
          · rcases s with _ | ⟨a, r⟩
            · rw [show sS op arg env k [] = none by simp [sS, o1, o2, o3]] at he; cases he
            · obtain ⟨r1, r2⟩ := hr
              have hs2 : r.length + 1 ≤ 399 := hs
              replace he : eS op arg env last f (k + 1) ((1 - a) :: r) = some res := by rw [show sS op arg env k (a :: r) = some (some (k + 1, (1 - a) :: r)) by simp only [sS, if_neg o1, if_neg o2, if_pos o3]] at he; exact he
              refine g_lo [(0, .ref 74), (1, .int first), (2, .int (nI last)), (3, .int (nI (r.length + 1))), (4, .int (nI k))] ⟨rfl, rfl, rfl, rfl, rfl, trivial⟩ ?_
              refine g_iload d12_reckonAll_10 rfl ?_
              refine g_iload_n d12_reckonAll_12 rfl ?_
              refine g_ic_ge ((k : Nat) : Int) ((last : Nat) : Int) 262 (nI_ti (by omega)) (nI_ti (by omega)) d12_reckonAll_13 rfl (fun c13 => absurd c13 (by omega)) (fun _ => ?_)
              refine g_aload_n d12_reckonAll_16 rfl ?_
              refine g_get fl12_352 d12_reckonAll_17 f_74_32 ?_
              refine g_topI (nI 0) (rfl) ?_
              refine g_iz_ne ((0 : Nat) : Int) 262 (nI_ti (by omega)) d12_reckonAll_20 rfl (fun c20 => absurd c20 (by decide)) (fun _ => ?_)
              refine g_aload_n d12_reckonAll_23 rfl ?_
              refine g_get fl12_13 d12_reckonAll_24 f_74_3 ?_
              refine g_aload_n d12_reckonAll_27 rfl ?_
              refine g_get fl12_355 d12_reckonAll_28 f_74_28 ?_
              refine g_topI (nI b) (hb) ?_
              refine g_bipushv (nI 98) d12_reckonAll_31 rfl ?_
              refine g_iaddN d12_reckonAll_33 ?_
              refine g_iconstv (nI 2) d12_reckonAll_34 rfl ?_
              refine g_iload d12_reckonAll_35 rfl ?_
              refine g_imulN d12_reckonAll_37 ?_
              refine g_iaddN d12_reckonAll_38 ?_
              refine g_ialdN (((b + 98) + (2 * k))) d12_reckonAll_39 a_76 (rfl) (by omega) (by decide) ?_
              refine g_topI (nI (op k)) (e1) ?_
              refine g_istore d12_reckonAll_40 (by decide) ?_
              refine g_aload_n d12_reckonAll_42 rfl ?_
              refine g_get fl12_13 d12_reckonAll_43 f_74_3 ?_
              refine g_aload_n d12_reckonAll_46 rfl ?_
              refine g_get fl12_355 d12_reckonAll_47 f_74_28 ?_
              refine g_topI (nI b) (hb) ?_
              refine g_bipushv (nI 98) d12_reckonAll_50 rfl ?_
              refine g_iaddN d12_reckonAll_52 ?_
              refine g_iconstv (nI 2) d12_reckonAll_53 rfl ?_
              refine g_iload d12_reckonAll_54 rfl ?_
              refine g_imulN d12_reckonAll_56 ?_
              refine g_iaddN d12_reckonAll_57 ?_
              refine g_iconstv (nI 1) d12_reckonAll_58 rfl ?_
              refine g_iaddN d12_reckonAll_59 ?_
              refine g_ialdN ((((b + 98) + (2 * k)) + 1)) d12_reckonAll_60 a_76 (rfl) (by omega) (by decide) ?_
              refine g_topI (nI (arg k)) (e2) ?_
              refine g_istore d12_reckonAll_61 (by decide) ?_
              refine g_iincN d12_reckonAll_63 rfl (by decide) ?_
              refine g_iload d12_reckonAll_66 rfl ?_
              refine g_bipushv (nI 20) d12_reckonAll_68 rfl ?_
              refine g_ic_ge (((op k) : Nat) : Int) (20) 120 (nI_ti (by omega)) (by decide) d12_reckonAll_70 rfl (fun _ => ?_) (fun c70 => absurd c70 (by omega))
              refine g_iload d12_reckonAll_120 rfl ?_
              refine g_bipushv (nI 28) d12_reckonAll_122 rfl ?_
              refine g_ic_ge (((op k) : Nat) : Int) (28) 197 (nI_ti (by omega)) (by decide) d12_reckonAll_124 rfl (fun _ => ?_) (fun c124 => absurd c124 (by omega))
              refine g_iload d12_reckonAll_197 rfl ?_
              refine g_bipushv (nI 28) d12_reckonAll_199 rfl ?_
              refine g_ic_ne (((op k) : Nat) : Int) (28) 225 (nI_ti (by omega)) (by decide) d12_reckonAll_201 rfl (fun c201 => absurd c201 (by omega)) (fun _ => ?_)
              refine g_aload_n d12_reckonAll_204 rfl ?_
              refine g_get fl12_80 d12_reckonAll_205 f_74_31 ?_
              refine g_iload_n d12_reckonAll_208 rfl ?_
              refine g_iconstv (nI 1) d12_reckonAll_209 rfl ?_
              refine g_isubN (by omega) d12_reckonAll_210 ?_
              refine g_topI (nI r.length) (rfl) ?_
              refine g_lconstv (1) d12_reckonAll_211 rfl ?_
              refine g_aload_n d12_reckonAll_212 rfl ?_
              refine g_get fl12_80 d12_reckonAll_213 f_74_31 ?_
              refine g_iload_n d12_reckonAll_216 rfl ?_
              refine g_iconstv (nI 1) d12_reckonAll_217 rfl ?_
              refine g_isubN (by omega) d12_reckonAll_218 ?_
              refine g_topI (nI r.length) (rfl) ?_
              refine g_laldN (r.length) d12_reckonAll_219 a_89 (rfl) (by omega) (by decide) ?_
              refine g_topL (a) (r1) ?_
              refine g_lsub d12_reckonAll_220 ?_
              refine g_lastN (r.length) _ d12_reckonAll_221 a_89 (rfl) (by omega) (by decide) t_89 ?_
              refine g_goto 259 d12_reckonAll_222 rfl ?_
              refine g_goto 10 d12_reckonAll_259 rfl ?_
              refine g_lo [(0, .ref 74), (1, .int first), (2, .int (nI last)), (3, .int (nI (r.length + 1))), (4, .int (nI (k + 1)))] ⟨rfl, rfl, rfl, rfl, rfl, trivial⟩ ?_
              exact ih (k + 1) ((1 - a) :: r) (uL L2 89 r.length (1 - a)) res (⟨by rw [uL_s, pk_uLs], by rw [uL_s]; exact RR_up (Nat.le_refl _) r2⟩) (fun c hc => (uL_n hc).trans (hL c hc)) (by simp; omega) (by omega) he
          · rcases s with _ | ⟨a, r⟩
            · rw [show sS op arg env k [] = none by simp [sS, o1, o2, o3]] at he; cases he
            · obtain ⟨r1, r2⟩ := hr
              have hs2 : r.length + 1 ≤ 399 := hs
              refine g_lo [(0, .ref 74), (1, .int first), (2, .int (nI last)), (3, .int (nI (r.length + 1))), (4, .int (nI k))] ⟨rfl, rfl, rfl, rfl, rfl, trivial⟩ ?_
              by_cases o4 : op k = 29
              · skip
                by_cases o5 : a = 0
                · replace he : eS op arg env last f (arg k) (a :: r) = some res := by rw [show sS op arg env k (a :: r) = some (some (arg k, a :: r)) by simp only [sS, if_neg o1, if_neg o2, if_neg o3, if_pos o4]; rw [if_pos o5]] at he; exact he
                  refine g_iload d12_reckonAll_10 rfl ?_
                  refine g_iload_n d12_reckonAll_12 rfl ?_
                  refine g_ic_ge ((k : Nat) : Int) ((last : Nat) : Int) 262 (nI_ti (by omega)) (nI_ti (by omega)) d12_reckonAll_13 rfl (fun c13 => absurd c13 (by omega)) (fun _ => ?_)
                  refine g_aload_n d12_reckonAll_16 rfl ?_
                  refine g_get fl12_352 d12_reckonAll_17 f_74_32 ?_
                  refine g_topI (nI 0) (rfl) ?_
                  refine g_iz_ne ((0 : Nat) : Int) 262 (nI_ti (by omega)) d12_reckonAll_20 rfl (fun c20 => absurd c20 (by decide)) (fun _ => ?_)
                  refine g_aload_n d12_reckonAll_23 rfl ?_
                  refine g_get fl12_13 d12_reckonAll_24 f_74_3 ?_
                  refine g_aload_n d12_reckonAll_27 rfl ?_
                  refine g_get fl12_355 d12_reckonAll_28 f_74_28 ?_
                  refine g_topI (nI b) (hb) ?_
                  refine g_bipushv (nI 98) d12_reckonAll_31 rfl ?_
                  refine g_iaddN d12_reckonAll_33 ?_
                  refine g_iconstv (nI 2) d12_reckonAll_34 rfl ?_
                  refine g_iload d12_reckonAll_35 rfl ?_
                  refine g_imulN d12_reckonAll_37 ?_
                  refine g_iaddN d12_reckonAll_38 ?_
                  refine g_ialdN (((b + 98) + (2 * k))) d12_reckonAll_39 a_76 (rfl) (by omega) (by decide) ?_
                  refine g_topI (nI (op k)) (e1) ?_
                  refine g_istore d12_reckonAll_40 (by decide) ?_
                  refine g_aload_n d12_reckonAll_42 rfl ?_
                  refine g_get fl12_13 d12_reckonAll_43 f_74_3 ?_
                  refine g_aload_n d12_reckonAll_46 rfl ?_
                  refine g_get fl12_355 d12_reckonAll_47 f_74_28 ?_
                  refine g_topI (nI b) (hb) ?_
                  refine g_bipushv (nI 98) d12_reckonAll_50 rfl ?_
                  refine g_iaddN d12_reckonAll_52 ?_
                  refine g_iconstv (nI 2) d12_reckonAll_53 rfl ?_
                  refine g_iload d12_reckonAll_54 rfl ?_
                  refine g_imulN d12_reckonAll_56 ?_
                  refine g_iaddN d12_reckonAll_57 ?_
                  refine g_iconstv (nI 1) d12_reckonAll_58 rfl ?_
                  refine g_iaddN d12_reckonAll_59 ?_
                  refine g_ialdN ((((b + 98) + (2 * k)) + 1)) d12_reckonAll_60 a_76 (rfl) (by omega) (by decide) ?_
                  refine g_topI (nI (arg k)) (e2) ?_
                  refine g_istore d12_reckonAll_61 (by decide) ?_
                  refine g_iincN d12_reckonAll_63 rfl (by decide) ?_
                  refine g_iload d12_reckonAll_66 rfl ?_
                  refine g_bipushv (nI 20) d12_reckonAll_68 rfl ?_
                  refine g_ic_ge (((op k) : Nat) : Int) (20) 120 (nI_ti (by omega)) (by decide) d12_reckonAll_70 rfl (fun _ => ?_) (fun c70 => absurd c70 (by omega))
                  refine g_iload d12_reckonAll_120 rfl ?_
                  refine g_bipushv (nI 28) d12_reckonAll_122 rfl ?_
                  refine g_ic_ge (((op k) : Nat) : Int) (28) 197 (nI_ti (by omega)) (by decide) d12_reckonAll_124 rfl (fun _ => ?_) (fun c124 => absurd c124 (by omega))
                  refine g_iload d12_reckonAll_197 rfl ?_
                  refine g_bipushv (nI 28) d12_reckonAll_199 rfl ?_
                  refine g_ic_ne (((op k) : Nat) : Int) (28) 225 (nI_ti (by omega)) (by decide) d12_reckonAll_201 rfl (fun _ => ?_) (fun c201 => absurd c201 (by omega))
                  refine g_aload_n d12_reckonAll_225 rfl ?_
                  refine g_get fl12_80 d12_reckonAll_226 f_74_31 ?_
                  refine g_iload_n d12_reckonAll_229 rfl ?_
                  refine g_iconstv (nI 1) d12_reckonAll_230 rfl ?_
                  refine g_isubN (by omega) d12_reckonAll_231 ?_
                  refine g_topI (nI r.length) (rfl) ?_
                  refine g_laldN (r.length) d12_reckonAll_232 a_89 (rfl) (by omega) (by decide) ?_
                  refine g_topL (a) (r1) ?_
                  refine g_iload d12_reckonAll_233 rfl ?_
                  refine g_bipushv (nI 29) d12_reckonAll_235 rfl ?_
                  refine g_ic_ne (((op k) : Nat) : Int) (29) 244 (nI_ti (by omega)) (by decide) d12_reckonAll_237 rfl (fun c237 => absurd c237 (by omega)) (fun _ => ?_)
                  refine g_lconstv (0) d12_reckonAll_240 rfl ?_
                  refine g_goto 245 d12_reckonAll_241 rfl ?_
                  refine g_lx_ne _ (0) 256 (rfl) (by decide) d12_reckonAll_245 d12_reckonAll_246 rfl (fun c245 => absurd c245 (fun q => q (by rw [o5]; rfl))) (fun _ => ?_)
                  refine g_iload d12_reckonAll_249 rfl ?_
                  refine g_istore d12_reckonAll_251 (by decide) ?_
                  refine g_goto 259 d12_reckonAll_253 rfl ?_
                  refine g_goto 10 d12_reckonAll_259 rfl ?_
                  refine g_lo [(0, .ref 74), (1, .int first), (2, .int (nI last)), (3, .int (nI (r.length + 1))), (4, .int (nI (arg k)))] ⟨rfl, rfl, rfl, rfl, rfl, trivial⟩ ?_
                  exact ih (arg k) (a :: r) (L2) res (⟨r1, r2⟩) (hL) (hs) (by omega) he
                · replace he : eS op arg env last f (k + 1) r = some res := by rw [show sS op arg env k (a :: r) = some (some (k + 1, r)) by simp only [sS, if_neg o1, if_neg o2, if_neg o3, if_pos o4]; rw [if_neg o5]] at he; exact he
                  refine g_iload d12_reckonAll_10 rfl ?_
                  refine g_iload_n d12_reckonAll_12 rfl ?_
                  refine g_ic_ge ((k : Nat) : Int) ((last : Nat) : Int) 262 (nI_ti (by omega)) (nI_ti (by omega)) d12_reckonAll_13 rfl (fun c13 => absurd c13 (by omega)) (fun _ => ?_)
                  refine g_aload_n d12_reckonAll_16 rfl ?_
                  refine g_get fl12_352 d12_reckonAll_17 f_74_32 ?_
                  refine g_topI (nI 0) (rfl) ?_
                  refine g_iz_ne ((0 : Nat) : Int) 262 (nI_ti (by omega)) d12_reckonAll_20 rfl (fun c20 => absurd c20 (by decide)) (fun _ => ?_)
                  refine g_aload_n d12_reckonAll_23 rfl ?_
                  refine g_get fl12_13 d12_reckonAll_24 f_74_3 ?_
                  refine g_aload_n d12_reckonAll_27 rfl ?_
                  refine g_get fl12_355 d12_reckonAll_28 f_74_28 ?_
                  refine g_topI (nI b) (hb) ?_
                  refine g_bipushv (nI 98) d12_reckonAll_31 rfl ?_
                  refine g_iaddN d12_reckonAll_33 ?_
                  refine g_iconstv (nI 2) d12_reckonAll_34 rfl ?_
                  refine g_iload d12_reckonAll_35 rfl ?_
                  refine g_imulN d12_reckonAll_37 ?_
                  refine g_iaddN d12_reckonAll_38 ?_
                  refine g_ialdN (((b + 98) + (2 * k))) d12_reckonAll_39 a_76 (rfl) (by omega) (by decide) ?_
                  refine g_topI (nI (op k)) (e1) ?_
                  refine g_istore d12_reckonAll_40 (by decide) ?_
                  refine g_aload_n d12_reckonAll_42 rfl ?_
                  refine g_get fl12_13 d12_reckonAll_43 f_74_3 ?_
                  refine g_aload_n d12_reckonAll_46 rfl ?_
                  refine g_get fl12_355 d12_reckonAll_47 f_74_28 ?_
                  refine g_topI (nI b) (hb) ?_
                  refine g_bipushv (nI 98) d12_reckonAll_50 rfl ?_
                  refine g_iaddN d12_reckonAll_52 ?_
                  refine g_iconstv (nI 2) d12_reckonAll_53 rfl ?_
                  refine g_iload d12_reckonAll_54 rfl ?_
                  refine g_imulN d12_reckonAll_56 ?_
                  refine g_iaddN d12_reckonAll_57 ?_
                  refine g_iconstv (nI 1) d12_reckonAll_58 rfl ?_
                  refine g_iaddN d12_reckonAll_59 ?_
                  refine g_ialdN ((((b + 98) + (2 * k)) + 1)) d12_reckonAll_60 a_76 (rfl) (by omega) (by decide) ?_
                  refine g_topI (nI (arg k)) (e2) ?_
                  refine g_istore d12_reckonAll_61 (by decide) ?_
                  refine g_iincN d12_reckonAll_63 rfl (by decide) ?_
                  refine g_iload d12_reckonAll_66 rfl ?_
                  refine g_bipushv (nI 20) d12_reckonAll_68 rfl ?_
                  refine g_ic_ge (((op k) : Nat) : Int) (20) 120 (nI_ti (by omega)) (by decide) d12_reckonAll_70 rfl (fun _ => ?_) (fun c70 => absurd c70 (by omega))
                  refine g_iload d12_reckonAll_120 rfl ?_
                  refine g_bipushv (nI 28) d12_reckonAll_122 rfl ?_
                  refine g_ic_ge (((op k) : Nat) : Int) (28) 197 (nI_ti (by omega)) (by decide) d12_reckonAll_124 rfl (fun _ => ?_) (fun c124 => absurd c124 (by omega))
                  refine g_iload d12_reckonAll_197 rfl ?_
                  refine g_bipushv (nI 28) d12_reckonAll_199 rfl ?_
                  refine g_ic_ne (((op k) : Nat) : Int) (28) 225 (nI_ti (by omega)) (by decide) d12_reckonAll_201 rfl (fun _ => ?_) (fun c201 => absurd c201 (by omega))
                  refine g_aload_n d12_reckonAll_225 rfl ?_
                  refine g_get fl12_80 d12_reckonAll_226 f_74_31 ?_
                  refine g_iload_n d12_reckonAll_229 rfl ?_
                  refine g_iconstv (nI 1) d12_reckonAll_230 rfl ?_
                  refine g_isubN (by omega) d12_reckonAll_231 ?_
                  refine g_topI (nI r.length) (rfl) ?_
                  refine g_laldN (r.length) d12_reckonAll_232 a_89 (rfl) (by omega) (by decide) ?_
                  refine g_topL (a) (r1) ?_
                  refine g_iload d12_reckonAll_233 rfl ?_
                  refine g_bipushv (nI 29) d12_reckonAll_235 rfl ?_
                  refine g_ic_ne (((op k) : Nat) : Int) (29) 244 (nI_ti (by omega)) (by decide) d12_reckonAll_237 rfl (fun c237 => absurd c237 (by omega)) (fun _ => ?_)
                  refine g_lconstv (0) d12_reckonAll_240 rfl ?_
                  refine g_goto 245 d12_reckonAll_241 rfl ?_
                  refine g_lx_ne _ (0) 256 (rfl) (by decide) d12_reckonAll_245 d12_reckonAll_246 rfl (fun _ => ?_) (fun c245 => absurd c245 (fun q => o5 (by rw [l_eq]; exact q)))
                  refine g_iinc (nI r.length) d12_reckonAll_256 rfl (sb_m1 (by omega)) (by decide) ?_
                  refine g_goto 10 d12_reckonAll_259 rfl ?_
                  refine g_lo [(0, .ref 74), (1, .int first), (2, .int (nI last)), (3, .int (nI (r.length))), (4, .int (nI (k + 1)))] ⟨rfl, rfl, rfl, rfl, rfl, trivial⟩ ?_
                  exact ih (k + 1) (r) (L2) res (r2) (hL) (by omega) (by omega) he
              · skip
                by_cases o5 : a = 1
                · replace he : eS op arg env last f (arg k) (a :: r) = some res := by rw [show sS op arg env k (a :: r) = some (some (arg k, a :: r)) by simp only [sS, if_neg o1, if_neg o2, if_neg o3, if_neg o4]; rw [if_pos o5]] at he; exact he
                  refine g_iload d12_reckonAll_10 rfl ?_
                  refine g_iload_n d12_reckonAll_12 rfl ?_
                  refine g_ic_ge ((k : Nat) : Int) ((last : Nat) : Int) 262 (nI_ti (by omega)) (nI_ti (by omega)) d12_reckonAll_13 rfl (fun c13 => absurd c13 (by omega)) (fun _ => ?_)
                  refine g_aload_n d12_reckonAll_16 rfl ?_
                  refine g_get fl12_352 d12_reckonAll_17 f_74_32 ?_
                  refine g_topI (nI 0) (rfl) ?_
                  refine g_iz_ne ((0 : Nat) : Int) 262 (nI_ti (by omega)) d12_reckonAll_20 rfl (fun c20 => absurd c20 (by decide)) (fun _ => ?_)
                  refine g_aload_n d12_reckonAll_23 rfl ?_
                  refine g_get fl12_13 d12_reckonAll_24 f_74_3 ?_
                  refine g_aload_n d12_reckonAll_27 rfl ?_
                  refine g_get fl12_355 d12_reckonAll_28 f_74_28 ?_
                  refine g_topI (nI b) (hb) ?_
                  refine g_bipushv (nI 98) d12_reckonAll_31 rfl ?_
                  refine g_iaddN d12_reckonAll_33 ?_
                  refine g_iconstv (nI 2) d12_reckonAll_34 rfl ?_
                  refine g_iload d12_reckonAll_35 rfl ?_
                  refine g_imulN d12_reckonAll_37 ?_
                  refine g_iaddN d12_reckonAll_38 ?_
                  refine g_ialdN (((b + 98) + (2 * k))) d12_reckonAll_39 a_76 (rfl) (by omega) (by decide) ?_
                  refine g_topI (nI (op k)) (e1) ?_
                  refine g_istore d12_reckonAll_40 (by decide) ?_
                  refine g_aload_n d12_reckonAll_42 rfl ?_
                  refine g_get fl12_13 d12_reckonAll_43 f_74_3 ?_
                  refine g_aload_n d12_reckonAll_46 rfl ?_
                  refine g_get fl12_355 d12_reckonAll_47 f_74_28 ?_
                  refine g_topI (nI b) (hb) ?_
                  refine g_bipushv (nI 98) d12_reckonAll_50 rfl ?_
                  refine g_iaddN d12_reckonAll_52 ?_
                  refine g_iconstv (nI 2) d12_reckonAll_53 rfl ?_
                  refine g_iload d12_reckonAll_54 rfl ?_
                  refine g_imulN d12_reckonAll_56 ?_
                  refine g_iaddN d12_reckonAll_57 ?_
                  refine g_iconstv (nI 1) d12_reckonAll_58 rfl ?_
                  refine g_iaddN d12_reckonAll_59 ?_
                  refine g_ialdN ((((b + 98) + (2 * k)) + 1)) d12_reckonAll_60 a_76 (rfl) (by omega) (by decide) ?_
                  refine g_topI (nI (arg k)) (e2) ?_
                  refine g_istore d12_reckonAll_61 (by decide) ?_
                  refine g_iincN d12_reckonAll_63 rfl (by decide) ?_
                  refine g_iload d12_reckonAll_66 rfl ?_
                  refine g_bipushv (nI 20) d12_reckonAll_68 rfl ?_
                  refine g_ic_ge (((op k) : Nat) : Int) (20) 120 (nI_ti (by omega)) (by decide) d12_reckonAll_70 rfl (fun _ => ?_) (fun c70 => absurd c70 (by omega))
                  refine g_iload d12_reckonAll_120 rfl ?_
                  refine g_bipushv (nI 28) d12_reckonAll_122 rfl ?_
                  refine g_ic_ge (((op k) : Nat) : Int) (28) 197 (nI_ti (by omega)) (by decide) d12_reckonAll_124 rfl (fun _ => ?_) (fun c124 => absurd c124 (by omega))
                  refine g_iload d12_reckonAll_197 rfl ?_
                  refine g_bipushv (nI 28) d12_reckonAll_199 rfl ?_
                  refine g_ic_ne (((op k) : Nat) : Int) (28) 225 (nI_ti (by omega)) (by decide) d12_reckonAll_201 rfl (fun _ => ?_) (fun c201 => absurd c201 (by omega))
                  refine g_aload_n d12_reckonAll_225 rfl ?_
                  refine g_get fl12_80 d12_reckonAll_226 f_74_31 ?_
                  refine g_iload_n d12_reckonAll_229 rfl ?_
                  refine g_iconstv (nI 1) d12_reckonAll_230 rfl ?_
                  refine g_isubN (by omega) d12_reckonAll_231 ?_
                  refine g_topI (nI r.length) (rfl) ?_
                  refine g_laldN (r.length) d12_reckonAll_232 a_89 (rfl) (by omega) (by decide) ?_
                  refine g_topL (a) (r1) ?_
                  refine g_iload d12_reckonAll_233 rfl ?_
                  refine g_bipushv (nI 29) d12_reckonAll_235 rfl ?_
                  refine g_ic_ne (((op k) : Nat) : Int) (29) 244 (nI_ti (by omega)) (by decide) d12_reckonAll_237 rfl (fun _ => ?_) (fun c237 => absurd c237 (by omega))
                  refine g_lconstv (1) d12_reckonAll_244 rfl ?_
                  refine g_lx_ne _ (1) 256 (rfl) (by decide) d12_reckonAll_245 d12_reckonAll_246 rfl (fun c245 => absurd c245 (fun q => q (by rw [o5]; rfl))) (fun _ => ?_)
                  refine g_iload d12_reckonAll_249 rfl ?_
                  refine g_istore d12_reckonAll_251 (by decide) ?_
                  refine g_goto 259 d12_reckonAll_253 rfl ?_
                  refine g_goto 10 d12_reckonAll_259 rfl ?_
                  refine g_lo [(0, .ref 74), (1, .int first), (2, .int (nI last)), (3, .int (nI (r.length + 1))), (4, .int (nI (arg k)))] ⟨rfl, rfl, rfl, rfl, rfl, trivial⟩ ?_
                  exact ih (arg k) (a :: r) (L2) res (⟨r1, r2⟩) (hL) (hs) (by omega) he
                · replace he : eS op arg env last f (k + 1) r = some res := by rw [show sS op arg env k (a :: r) = some (some (k + 1, r)) by simp only [sS, if_neg o1, if_neg o2, if_neg o3, if_neg o4]; rw [if_neg o5]] at he; exact he
                  refine g_iload d12_reckonAll_10 rfl ?_
                  refine g_iload_n d12_reckonAll_12 rfl ?_
                  refine g_ic_ge ((k : Nat) : Int) ((last : Nat) : Int) 262 (nI_ti (by omega)) (nI_ti (by omega)) d12_reckonAll_13 rfl (fun c13 => absurd c13 (by omega)) (fun _ => ?_)
                  refine g_aload_n d12_reckonAll_16 rfl ?_
                  refine g_get fl12_352 d12_reckonAll_17 f_74_32 ?_
                  refine g_topI (nI 0) (rfl) ?_
                  refine g_iz_ne ((0 : Nat) : Int) 262 (nI_ti (by omega)) d12_reckonAll_20 rfl (fun c20 => absurd c20 (by decide)) (fun _ => ?_)
                  refine g_aload_n d12_reckonAll_23 rfl ?_
                  refine g_get fl12_13 d12_reckonAll_24 f_74_3 ?_
                  refine g_aload_n d12_reckonAll_27 rfl ?_
                  refine g_get fl12_355 d12_reckonAll_28 f_74_28 ?_
                  refine g_topI (nI b) (hb) ?_
                  refine g_bipushv (nI 98) d12_reckonAll_31 rfl ?_
                  refine g_iaddN d12_reckonAll_33 ?_
                  refine g_iconstv (nI 2) d12_reckonAll_34 rfl ?_
                  refine g_iload d12_reckonAll_35 rfl ?_
                  refine g_imulN d12_reckonAll_37 ?_
                  refine g_iaddN d12_reckonAll_38 ?_
                  refine g_ialdN (((b + 98) + (2 * k))) d12_reckonAll_39 a_76 (rfl) (by omega) (by decide) ?_
                  refine g_topI (nI (op k)) (e1) ?_
                  refine g_istore d12_reckonAll_40 (by decide) ?_
                  refine g_aload_n d12_reckonAll_42 rfl ?_
                  refine g_get fl12_13 d12_reckonAll_43 f_74_3 ?_
                  refine g_aload_n d12_reckonAll_46 rfl ?_
                  refine g_get fl12_355 d12_reckonAll_47 f_74_28 ?_
                  refine g_topI (nI b) (hb) ?_
                  refine g_bipushv (nI 98) d12_reckonAll_50 rfl ?_
                  refine g_iaddN d12_reckonAll_52 ?_
                  refine g_iconstv (nI 2) d12_reckonAll_53 rfl ?_
                  refine g_iload d12_reckonAll_54 rfl ?_
                  refine g_imulN d12_reckonAll_56 ?_
                  refine g_iaddN d12_reckonAll_57 ?_
                  refine g_iconstv (nI 1) d12_reckonAll_58 rfl ?_
                  refine g_iaddN d12_reckonAll_59 ?_
                  refine g_ialdN ((((b + 98) + (2 * k)) + 1)) d12_reckonAll_60 a_76 (rfl) (by omega) (by decide) ?_
                  refine g_topI (nI (arg k)) (e2) ?_
                  refine g_istore d12_reckonAll_61 (by decide) ?_
                  refine g_iincN d12_reckonAll_63 rfl (by decide) ?_
                  refine g_iload d12_reckonAll_66 rfl ?_
                  refine g_bipushv (nI 20) d12_reckonAll_68 rfl ?_
                  refine g_ic_ge (((op k) : Nat) : Int) (20) 120 (nI_ti (by omega)) (by decide) d12_reckonAll_70 rfl (fun _ => ?_) (fun c70 => absurd c70 (by omega))
                  refine g_iload d12_reckonAll_120 rfl ?_
                  refine g_bipushv (nI 28) d12_reckonAll_122 rfl ?_
                  refine g_ic_ge (((op k) : Nat) : Int) (28) 197 (nI_ti (by omega)) (by decide) d12_reckonAll_124 rfl (fun _ => ?_) (fun c124 => absurd c124 (by omega))
                  refine g_iload d12_reckonAll_197 rfl ?_
                  refine g_bipushv (nI 28) d12_reckonAll_199 rfl ?_
                  refine g_ic_ne (((op k) : Nat) : Int) (28) 225 (nI_ti (by omega)) (by decide) d12_reckonAll_201 rfl (fun _ => ?_) (fun c201 => absurd c201 (by omega))
                  refine g_aload_n d12_reckonAll_225 rfl ?_
                  refine g_get fl12_80 d12_reckonAll_226 f_74_31 ?_
                  refine g_iload_n d12_reckonAll_229 rfl ?_
                  refine g_iconstv (nI 1) d12_reckonAll_230 rfl ?_
                  refine g_isubN (by omega) d12_reckonAll_231 ?_
                  refine g_topI (nI r.length) (rfl) ?_
                  refine g_laldN (r.length) d12_reckonAll_232 a_89 (rfl) (by omega) (by decide) ?_
                  refine g_topL (a) (r1) ?_
                  refine g_iload d12_reckonAll_233 rfl ?_
                  refine g_bipushv (nI 29) d12_reckonAll_235 rfl ?_
                  refine g_ic_ne (((op k) : Nat) : Int) (29) 244 (nI_ti (by omega)) (by decide) d12_reckonAll_237 rfl (fun _ => ?_) (fun c237 => absurd c237 (by omega))
                  refine g_lconstv (1) d12_reckonAll_244 rfl ?_
                  refine g_lx_ne _ (1) 256 (rfl) (by decide) d12_reckonAll_245 d12_reckonAll_246 rfl (fun _ => ?_) (fun c245 => absurd c245 (fun q => o5 (by rw [l_eq]; exact q)))
                  refine g_iinc (nI r.length) d12_reckonAll_256 rfl (sb_m1 (by omega)) (by decide) ?_
                  refine g_goto 10 d12_reckonAll_259 rfl ?_
                  refine g_lo [(0, .ref 74), (1, .int first), (2, .int (nI last)), (3, .int (nI (r.length))), (4, .int (nI (k + 1)))] ⟨rfl, rfl, rfl, rfl, rfl, trivial⟩ ?_
                  exact ih (k + 1) (r) (L2) res (r2) (hL) (by omega) (by omega) he
theorem r12_reckonAll {l : Launch} {K : cK} {d : Nat} {I : wI} {L : wL} {R : wR} {dy : cH} (b first last : Nat) (op arg : Nat → Nat) (hfl : first < 2147483648) (hlast : b + 98 + 2 * last ≤ 10880) (hb : I 74 28 = nI b) (hop : ∀ k, k < last → I 76 (b + 98 + 2 * k) = nI (op k) ∧ I 76 (b + 98 + 2 * k + 1) = nI (arg k) ∧ op k ≤ 30 ∧ arg k < 2147483648)
    (env : Nat → Int64) (ho : I 74 15 = 0 ∧ env = L 87 ∨ I 74 15 = 1 ∧ env = L 88) (f : Nat) (res : Option (List Int64)) (he : eS op arg env last f first [] = some res) (hd : 1 ≤ d) : CW l K m12_reckonAll d [.ref 74, .int (nI first), .int (nI last)] (hp I L R dy) (rA I L res) (fun x : wI × wL => hp x.1 x.2 R dy) := by
  refine CC.of ok12_reckonAll (Nat.le_of_ble_eq_true rfl) ?_
  refine g_aload_n d12_reckonAll_0 rfl ?_
  refine g_iconstv (nI 0) d12_reckonAll_1 rfl ?_
  refine g_putZh _ fl12_352 d12_reckonAll_2 f_74_32 (by decide) s_74_32 ?_
  refine g_iconstv (nI 0) d12_reckonAll_5 rfl ?_
  refine g_istore_n d12_reckonAll_6 (by decide) ?_
  refine g_iload_n d12_reckonAll_7 rfl ?_
  refine g_istore d12_reckonAll_8 (by decide) ?_
  refine g_lo [(0, .ref 74), (1, .int (nI first)), (2, .int (nI last)), (3, .int (nI ([] : List Int64).length)), (4, .int (nI first))] ⟨rfl, rfl, rfl, rfl, rfl, trivial⟩ ?_
  exact r12_rAll_loop b last op arg hlast hb hop env ho (nI first) hd f first [] L res trivial (fun _ _ => rfl) (by decide) hfl he
