theorem wpa_k {tp : Nat → Nat} {t f : Nat} {lw : Bool} (h : kd tp t f ≠ 1) : ∀ k, wpa tp t f lw k = 0
  | 0 => rfl
  | k + 1 => by show (if _ then _ else _) = 0; rw [if_neg (fun z => h z.1)]; exact wpa_k h k
theorem kd_lt {tp : Nat → Nat} {t f : Nat} (h : kd tp t f ≠ 0) : f < t := by
  by_cases z : t ≤ f
  · exact absurd (if_pos z) h
  · omega
set_option maxHeartbeats 1000000 in
theorem r4_part {l : Launch} {K : cK} {L : wL} {R : wR} {dy : cH} {tp : Nat → Nat} {t : Nat} {lw : Bool} {n : Nat} (hK : KR l K L R dy tp t lw m4_readSum 4 3 9 2 n) : KR l K L R dy tp t lw m4_readPart 6 1 7 0 (n + 1) := by
  intro br pa f v I b d hn hS hbf hpa hbr hd
  have hS0 := id hS
  obtain ⟨hTP, hTK, c1, c2, c3, c4, c5⟩ := hS
  obtain ⟨k1, k2, k3, k4, k5⟩ := id hTK
  have hkl := kd_le tp t f
  have ht4 := hTP.1
  have hw7 := wpa_le tp t f lw 7
  refine CC.of ok4_readPart (Nat.le_of_ble_eq_true rfl) ?_
  by_cases hsg : sg tp t f = 91
  · have hk0 : kd tp t f ≠ 0 := fun z => by unfold sg at hsg; rw [if_neg (by omega)] at hsg; omega
    have hft := kd_lt hk0
    by_cases hb8 : br < 8
    · rw [show pz tp t lw (n + 1) 6 br pa f v = brR tp t 93 (pz tp t lw n 4 (br + 1) pa (nxt tp t f) v) from by show (if _ then _ else _) = _; rw [if_pos hsg, if_pos hb8]; rfl]
      refine g_aload_n d4_readPart_0 rfl ?_
      refine g_get fl4_30 d4_readPart_1 f_14_0 ?_
      refine g_bipushv (nI 91) d4_readPart_4 rfl ?_
      refine g_EV1 vm8_isSign ml4_71 c_12 (r8_isSign tp t hTP f hTK 91 (by decide) (by decide) (Nat.le_refl 0)) (by omega) (Nat.le_of_ble_eq_true rfl) d4_readPart_6 ?_
      refine g_bz 21 d4_readPart_9 rfl (fun c9 => absurd c9 (fun z => z hsg)) (fun _ => ?_)
      refine g_aload_n d4_readPart_12 rfl ?_
      refine g_bipushv (nI 91) d4_readPart_13 rfl ?_
      refine g_bipushv (nI 93) d4_readPart_15 rfl ?_
      refine g_XV2 vm4_readBracketed ml4_120 c_14 (r4_brk_s hK br pa f v b (by omega) hS0 hbf hpa hb8 hk0 hft (d := d - 1) (by omega)) (by omega) (Nat.le_of_ble_eq_true rfl) d4_readPart_17 (fun x hx => ?_)
      exact g_zret rfl (b01 _) d4_readPart_20 (⟨x, hx, rfl, rfl⟩)
    · obtain rfl : br = 8 := by omega
      rw [show pz tp t lw (n + 1) 6 8 pa f v = .inl f from by show (if _ then _ else _) = _; rw [if_pos hsg, if_neg hb8]]
      refine g_aload_n d4_readPart_0 rfl ?_
      refine g_get fl4_30 d4_readPart_1 f_14_0 ?_
      refine g_bipushv (nI 91) d4_readPart_4 rfl ?_
      refine g_EV1 vm8_isSign ml4_71 c_12 (r8_isSign tp t hTP f hTK 91 (by decide) (by decide) (Nat.le_refl 0)) (by omega) (Nat.le_of_ble_eq_true rfl) d4_readPart_6 ?_
      refine g_bz 21 d4_readPart_9 rfl (fun c9 => absurd c9 (fun z => z hsg)) (fun _ => ?_)
      refine g_aload_n d4_readPart_12 rfl ?_
      refine g_bipushv (nI 91) d4_readPart_13 rfl ?_
      refine g_bipushv (nI 93) d4_readPart_15 rfl ?_
      refine g_EV2 vm4_readBracketed ml4_120 c_14 (r4_brk_8 tp t lw b pa f hS0 _ _ (Nat.le_refl 1)) (by omega) (Nat.le_of_ble_eq_true rfl) d4_readPart_17 ?_
      exact g_zret rfl (by decide) d4_readPart_20 (⟨(_, false), ⟨rfl, FRd.f (by decide) (by decide), rfl⟩, rfl, rfl⟩)
  · have hbad : ¬ ((wpa tp t f lw 7 ≠ 0 ∨ num tp t f) ∧ pa < 50) → pz tp t lw (n + 1) 6 br pa f v = .inl f := fun z => by show (if _ then _ else _) = _; rw [if_neg hsg, if_neg z]
    have hgood : (wpa tp t f lw 7 ≠ 0 ∨ num tp t f) ∧ pa < 50 → pz tp t lw (n + 1) 6 br pa f v = .inr (nxt tp t f, pa + 1, if num tp t f then (fun _ => some (lN (nu tp t f))) else (fun env => some (env (wpa tp t f lw 7)))) := fun z => by show (if _ then _ else _) = _; rw [if_neg hsg, if_pos z]
    have hstart : GL l K m4_readPart d 0 0 39 [(0, .ref 14)] [.retAddr (8 + (if lw = true then 5 else 6)), .ref 12] (hp I L R dy) (fun r h => ∃ x : wI × Bool, RP I tp t lw b br f (dpP br + 0) (pz tp t lw (n + 1) 6 br pa f v) x ∧ r = some (.int (if x.2 = true then 1 else 0)) ∧ h = hp x.1 L R dy) := by
      have hi8 : (if lw = true then 5 else 6) < 8 := by cases lw <;> decide
      by_cases hk2 : kd tp t f = 2
      · have hw0 : wpa tp t f lw 7 = 0 := wpa_k (by omega) 7
        have hft := kd_lt (show kd tp t f ≠ 0 by omega)
        rcases cn_nu hk2 with ⟨e1, e2⟩ | ⟨e1, e2⟩
        · by_cases hp5 : pa < 50
          · rw [hgood ⟨Or.inr ⟨hk2, e2⟩, hp5⟩, if_pos (show num tp t f from ⟨hk2, e2⟩)]
            refine g_EV1 vm8_wordIn ml4_88 c_12 (r8_wordIn tp t hTP f hTK (if lw = true then 5 else 6) hi8 (Nat.le_refl 5)) (by omega) (Nat.le_of_ble_eq_true rfl) d4_readPart_39 ?_
            refine g_topI ((-1 : Int32)) (by rw [wrd_w, if_pos hw0]; rfl) ?_
            refine g_istore_n d4_readPart_42 (by decide) ?_
            refine g_aload_n d4_readPart_43 rfl ?_
            refine g_get fl4_30 d4_readPart_44 f_14_0 ?_
            refine g_get fl4_63 d4_readPart_47 f_12_4 ?_
            refine g_topI (nI (kd tp t f)) (k4) ?_
            refine g_iconstv (nI 2) d4_readPart_50 rfl ?_
            refine g_ic_ne ((kd tp t f : Nat) : Int) (2) 71 (nI_ti (by omega)) (by decide) d4_readPart_51 rfl (fun c51 => absurd c51 (by omega)) (fun _ => ?_)
            refine g_aload_n d4_readPart_54 rfl ?_
            refine g_get fl4_30 d4_readPart_55 f_14_0 ?_
            refine g_get fl4_141 d4_readPart_58 f_12_5 ?_
            refine g_topI (nI (nu tp t f)) (by have h := k5; rw [if_pos hk2, e1] at h; exact h) ?_
            refine g_sipushv (nI 1000) d4_readPart_61 rfl ?_
            refine g_ic_gt ((nu tp t f : Nat) : Int) (1000) 71 (nI_ti (by omega)) (by decide) d4_readPart_64 rfl (fun c64 => absurd c64 (by omega)) (fun _ => ?_)
            refine g_iconstv (nI 1) d4_readPart_67 rfl ?_
            refine g_goto 72 d4_readPart_68 rfl ?_
            refine g_istore_n d4_readPart_72 (by decide) ?_
            refine g_iload_n d4_readPart_73 rfl ?_
            refine g_iconstv ((-1 : Int32)) d4_readPart_74 rfl ?_
            refine g_ic_ne (-1) (-1) 82 (by decide) (by decide) d4_readPart_75 rfl (fun c75 => absurd c75 (by decide)) (fun _ => ?_)
            refine g_iload_n d4_readPart_78 rfl ?_
            refine g_iz_eq (1) 91 (by decide) d4_readPart_79 rfl (fun c79 => absurd c79 (by decide)) (fun _ => ?_)
            refine g_aload_n d4_readPart_82 rfl ?_
            refine g_get fl4_38 d4_readPart_83 f_14_2 ?_
            refine g_topI (nI (pa)) (c2) ?_
            refine g_bipushv (nI 50) d4_readPart_86 rfl ?_
            refine g_ic_lt ((pa : Nat) : Int) (50) 96 (nI_ti (by omega)) (by decide) d4_readPart_88 rfl (fun _ => ?_) (fun c88 => absurd c88 (by omega))
            refine g_aload_n d4_readPart_96 rfl ?_
            refine g_dup d4_readPart_97 rfl ?_
            refine g_get fl4_38 d4_readPart_98 f_14_2 ?_
            refine g_topI (nI (pa)) (c2) ?_
            refine g_iconstv (nI 1) d4_readPart_101 rfl ?_
            refine g_iaddN d4_readPart_102 ?_
            refine g_putIh _ fl4_38 d4_readPart_103 f_14_2 s_14_2 ?_
            refine g_iload_n d4_readPart_106 rfl ?_
            refine g_iz_eq (1) 126 (by decide) d4_readPart_107 rfl (fun c107 => absurd c107 (by decide)) (fun _ => ?_)
            refine g_aload_n d4_readPart_110 rfl ?_
            refine g_iconstv (nI 0) d4_readPart_111 rfl ?_
            refine g_aload_n d4_readPart_112 rfl ?_
            refine g_get fl4_30 d4_readPart_113 f_14_0 ?_
            refine g_get fl4_141 d4_readPart_116 f_12_5 ?_
            refine g_topI (nI (nu tp t f)) (by have h := k5; rw [if_pos hk2, e1] at h; exact h) ?_
            refine g_EV2 vm4_add ml4_109 c_14 (r4_add (I := uI I 14 2 (nI (pa + 1))) b c4 (by omega) (nI 0) (nI (nu tp t f)) (Nat.le_refl 1)) (by omega) (Nat.le_of_ble_eq_true rfl) d4_readPart_119 ?_
            refine g_pop d4_readPart_122 rfl ?_
            refine g_goto 133 d4_readPart_123 rfl ?_
            refine g_aload_n d4_readPart_133 rfl ?_
            refine g_get fl4_30 d4_readPart_134 f_14_0 ?_
            refine g_WV0 vm8_advance ml4_74 c_12 (r8_next (I := (uI (uI (uI (uI I 14 2 (nI (pa + 1))) 19 b (nI 0)) 20 b (nI (nu tp t f))) 14 10 (nI (b + 1)))) tp t lw (b + 1) (pa + 1) br f ⟨hTP, hTK, c1, rfl, c3, rfl, c5⟩ (Nat.le_refl 1)) (by omega) (Nat.le_of_ble_eq_true rfl) d4_readPart_137 (fun x hx => ?_)
            refine g_iconstv (nI 1) d4_readPart_140 rfl ?_
            exact g_zret rfl (by decide) d4_readPart_141 (⟨(x, true), RP_leaf (st := 0) (wi := nu tp t f) hS0 hbf hp5 (by omega) (by omega) e2 (fun z => absurd z (by decide)) hx.1 hx.2, rfl, rfl⟩)
          · rw [hbad (fun z => hp5 z.2)]
            refine g_EV1 vm8_wordIn ml4_88 c_12 (r8_wordIn tp t hTP f hTK (if lw = true then 5 else 6) hi8 (Nat.le_refl 5)) (by omega) (Nat.le_of_ble_eq_true rfl) d4_readPart_39 ?_
            refine g_topI ((-1 : Int32)) (by rw [wrd_w, if_pos hw0]; rfl) ?_
            refine g_istore_n d4_readPart_42 (by decide) ?_
            refine g_aload_n d4_readPart_43 rfl ?_
            refine g_get fl4_30 d4_readPart_44 f_14_0 ?_
            refine g_get fl4_63 d4_readPart_47 f_12_4 ?_
            refine g_topI (nI (kd tp t f)) (k4) ?_
            refine g_iconstv (nI 2) d4_readPart_50 rfl ?_
            refine g_ic_ne ((kd tp t f : Nat) : Int) (2) 71 (nI_ti (by omega)) (by decide) d4_readPart_51 rfl (fun c51 => absurd c51 (by omega)) (fun _ => ?_)
            refine g_aload_n d4_readPart_54 rfl ?_
            refine g_get fl4_30 d4_readPart_55 f_14_0 ?_
            refine g_get fl4_141 d4_readPart_58 f_12_5 ?_
            refine g_topI (nI (nu tp t f)) (by have h := k5; rw [if_pos hk2, e1] at h; exact h) ?_
            refine g_sipushv (nI 1000) d4_readPart_61 rfl ?_
            refine g_ic_gt ((nu tp t f : Nat) : Int) (1000) 71 (nI_ti (by omega)) (by decide) d4_readPart_64 rfl (fun c64 => absurd c64 (by omega)) (fun _ => ?_)
            refine g_iconstv (nI 1) d4_readPart_67 rfl ?_
            refine g_goto 72 d4_readPart_68 rfl ?_
            refine g_istore_n d4_readPart_72 (by decide) ?_
            refine g_iload_n d4_readPart_73 rfl ?_
            refine g_iconstv ((-1 : Int32)) d4_readPart_74 rfl ?_
            refine g_ic_ne (-1) (-1) 82 (by decide) (by decide) d4_readPart_75 rfl (fun c75 => absurd c75 (by decide)) (fun _ => ?_)
            refine g_iload_n d4_readPart_78 rfl ?_
            refine g_iz_eq (1) 91 (by decide) d4_readPart_79 rfl (fun c79 => absurd c79 (by decide)) (fun _ => ?_)
            refine g_aload_n d4_readPart_82 rfl ?_
            refine g_get fl4_38 d4_readPart_83 f_14_2 ?_
            refine g_topI (nI (pa)) (c2) ?_
            refine g_bipushv (nI 50) d4_readPart_86 rfl ?_
            refine g_ic_lt ((pa : Nat) : Int) (50) 96 (nI_ti (by omega)) (by decide) d4_readPart_88 rfl (fun c88 => absurd c88 (by omega)) (fun _ => ?_)
            refine g_aload_n d4_readPart_91 rfl ?_
            refine g_EV0 vm4_wrong ml4_77 c_14 (r4_wrong f k2 (Nat.le_refl 0)) (by omega) (Nat.le_of_ble_eq_true rfl) d4_readPart_92 ?_
            exact g_zret rfl (by decide) d4_readPart_95 (⟨(_, false), ⟨rfl, FRd.f (by decide) (by decide), rfl⟩, rfl, rfl⟩)
        · rw [hbad (fun z => z.1.elim (fun q => q hw0) (fun q => by have := q.2; omega))]
          have hcl := cn_le tp f (tE tp t f - f)
          refine g_EV1 vm8_wordIn ml4_88 c_12 (r8_wordIn tp t hTP f hTK (if lw = true then 5 else 6) hi8 (Nat.le_refl 5)) (by omega) (Nat.le_of_ble_eq_true rfl) d4_readPart_39 ?_
          refine g_topI ((-1 : Int32)) (by rw [wrd_w, if_pos hw0]; rfl) ?_
          refine g_istore_n d4_readPart_42 (by decide) ?_
          refine g_aload_n d4_readPart_43 rfl ?_
          refine g_get fl4_30 d4_readPart_44 f_14_0 ?_
          refine g_get fl4_63 d4_readPart_47 f_12_4 ?_
          refine g_topI (nI (kd tp t f)) (k4) ?_
          refine g_iconstv (nI 2) d4_readPart_50 rfl ?_
          refine g_ic_ne ((kd tp t f : Nat) : Int) (2) 71 (nI_ti (by omega)) (by decide) d4_readPart_51 rfl (fun c51 => absurd c51 (by omega)) (fun _ => ?_)
          refine g_aload_n d4_readPart_54 rfl ?_
          refine g_get fl4_30 d4_readPart_55 f_14_0 ?_
          refine g_get fl4_141 d4_readPart_58 f_12_5 ?_
          refine g_topI (nI (cn tp f (tE tp t f - f))) (by have h := k5; rw [if_pos hk2] at h; exact h) ?_
          refine g_sipushv (nI 1000) d4_readPart_61 rfl ?_
          refine g_ic_gt ((cn tp f (tE tp t f - f) : Nat) : Int) (1000) 71 (nI_ti (by omega)) (by decide) d4_readPart_64 rfl (fun _ => ?_) (fun c64 => absurd c64 (by omega))
          refine g_iconstv (nI 0) d4_readPart_71 rfl ?_
          refine g_istore_n d4_readPart_72 (by decide) ?_
          refine g_iload_n d4_readPart_73 rfl ?_
          refine g_iconstv ((-1 : Int32)) d4_readPart_74 rfl ?_
          refine g_ic_ne (-1) (-1) 82 (by decide) (by decide) d4_readPart_75 rfl (fun c75 => absurd c75 (by decide)) (fun _ => ?_)
          refine g_iload_n d4_readPart_78 rfl ?_
          refine g_iz_eq (0) 91 (by decide) d4_readPart_79 rfl (fun _ => ?_) (fun c79 => absurd c79 (by decide))
          refine g_aload_n d4_readPart_91 rfl ?_
          refine g_EV0 vm4_wrong ml4_77 c_14 (r4_wrong f k2 (Nat.le_refl 0)) (by omega) (Nat.le_of_ble_eq_true rfl) d4_readPart_92 ?_
          exact g_zret rfl (by decide) d4_readPart_95 (⟨(_, false), ⟨rfl, FRd.f (by decide) (by decide), rfl⟩, rfl, rfl⟩)
      · by_cases hw0 : wpa tp t f lw 7 = 0
        · rw [hbad (fun z => z.1.elim (fun q => q hw0) (fun q => hk2 q.1))]
          refine g_EV1 vm8_wordIn ml4_88 c_12 (r8_wordIn tp t hTP f hTK (if lw = true then 5 else 6) hi8 (Nat.le_refl 5)) (by omega) (Nat.le_of_ble_eq_true rfl) d4_readPart_39 ?_
          refine g_topI ((-1 : Int32)) (by rw [wrd_w, if_pos hw0]; rfl) ?_
          refine g_istore_n d4_readPart_42 (by decide) ?_
          refine g_aload_n d4_readPart_43 rfl ?_
          refine g_get fl4_30 d4_readPart_44 f_14_0 ?_
          refine g_get fl4_63 d4_readPart_47 f_12_4 ?_
          refine g_topI (nI (kd tp t f)) (k4) ?_
          refine g_iconstv (nI 2) d4_readPart_50 rfl ?_
          refine g_ic_ne ((kd tp t f : Nat) : Int) (2) 71 (nI_ti (by omega)) (by decide) d4_readPart_51 rfl (fun _ => ?_) (fun c51 => absurd c51 (by omega))
          refine g_iconstv (nI 0) d4_readPart_71 rfl ?_
          refine g_istore_n d4_readPart_72 (by decide) ?_
          refine g_iload_n d4_readPart_73 rfl ?_
          refine g_iconstv ((-1 : Int32)) d4_readPart_74 rfl ?_
          refine g_ic_ne (-1) (-1) 82 (by decide) (by decide) d4_readPart_75 rfl (fun c75 => absurd c75 (by decide)) (fun _ => ?_)
          refine g_iload_n d4_readPart_78 rfl ?_
          refine g_iz_eq (0) 91 (by decide) d4_readPart_79 rfl (fun _ => ?_) (fun c79 => absurd c79 (by decide))
          refine g_aload_n d4_readPart_91 rfl ?_
          refine g_EV0 vm4_wrong ml4_77 c_14 (r4_wrong f k2 (Nat.le_refl 0)) (by omega) (Nat.le_of_ble_eq_true rfl) d4_readPart_92 ?_
          exact g_zret rfl (by decide) d4_readPart_95 (⟨(_, false), ⟨rfl, FRd.f (by decide) (by decide), rfl⟩, rfl, rfl⟩)
        · have hk1 : kd tp t f = 1 := by
            by_cases z : kd tp t f = 1
            · exact z
            · exact absurd (wpa_k z 7) hw0
          have hft := kd_lt (show kd tp t f ≠ 0 by omega)
          by_cases hp5 : pa < 50
          · rw [hgood ⟨Or.inl hw0, hp5⟩, if_neg (show ¬ num tp t f from fun z => hk2 z.1)]
            refine g_EV1 vm8_wordIn ml4_88 c_12 (r8_wordIn tp t hTP f hTK (if lw = true then 5 else 6) hi8 (Nat.le_refl 5)) (by omega) (Nat.le_of_ble_eq_true rfl) d4_readPart_39 ?_
            refine g_topI (nI (wpa tp t f lw 7 - 1)) (by rw [wrd_w, if_neg hw0]; rfl) ?_
            refine g_istore_n d4_readPart_42 (by decide) ?_
            refine g_aload_n d4_readPart_43 rfl ?_
            refine g_get fl4_30 d4_readPart_44 f_14_0 ?_
            refine g_get fl4_63 d4_readPart_47 f_12_4 ?_
            refine g_topI (nI (kd tp t f)) (k4) ?_
            refine g_iconstv (nI 2) d4_readPart_50 rfl ?_
            refine g_ic_ne ((kd tp t f : Nat) : Int) (2) 71 (nI_ti (by omega)) (by decide) d4_readPart_51 rfl (fun _ => ?_) (fun c51 => absurd c51 (by omega))
            refine g_iconstv (nI 0) d4_readPart_71 rfl ?_
            refine g_istore_n d4_readPart_72 (by decide) ?_
            refine g_iload_n d4_readPart_73 rfl ?_
            refine g_iconstv ((-1 : Int32)) d4_readPart_74 rfl ?_
            refine g_ic_ne (((wpa tp t f lw 7 - 1) : Nat) : Int) (-1) 82 (nI_ti (by omega)) (by decide) d4_readPart_75 rfl (fun _ => ?_) (fun c75 => absurd c75 (by omega))
            refine g_aload_n d4_readPart_82 rfl ?_
            refine g_get fl4_38 d4_readPart_83 f_14_2 ?_
            refine g_topI (nI (pa)) (c2) ?_
            refine g_bipushv (nI 50) d4_readPart_86 rfl ?_
            refine g_ic_lt ((pa : Nat) : Int) (50) 96 (nI_ti (by omega)) (by decide) d4_readPart_88 rfl (fun _ => ?_) (fun c88 => absurd c88 (by omega))
            refine g_aload_n d4_readPart_96 rfl ?_
            refine g_dup d4_readPart_97 rfl ?_
            refine g_get fl4_38 d4_readPart_98 f_14_2 ?_
            refine g_topI (nI (pa)) (c2) ?_
            refine g_iconstv (nI 1) d4_readPart_101 rfl ?_
            refine g_iaddN d4_readPart_102 ?_
            refine g_putIh _ fl4_38 d4_readPart_103 f_14_2 s_14_2 ?_
            refine g_iload_n d4_readPart_106 rfl ?_
            refine g_iz_eq (0) 126 (by decide) d4_readPart_107 rfl (fun _ => ?_) (fun c107 => absurd c107 (by decide))
            refine g_aload_n d4_readPart_126 rfl ?_
            refine g_iconstv (nI 1) d4_readPart_127 rfl ?_
            refine g_iload_n d4_readPart_128 rfl ?_
            refine g_EV2 vm4_add ml4_109 c_14 (r4_add (I := uI I 14 2 (nI (pa + 1))) b c4 (by omega) (nI 1) (nI (wpa tp t f lw 7 - 1)) (Nat.le_refl 1)) (by omega) (Nat.le_of_ble_eq_true rfl) d4_readPart_129 ?_
            refine g_pop d4_readPart_132 rfl ?_
            refine g_aload_n d4_readPart_133 rfl ?_
            refine g_get fl4_30 d4_readPart_134 f_14_0 ?_
            refine g_WV0 vm8_advance ml4_74 c_12 (r8_next (I := (uI (uI (uI (uI I 14 2 (nI (pa + 1))) 19 b (nI 1)) 20 b (nI (wpa tp t f lw 7 - 1))) 14 10 (nI (b + 1)))) tp t lw (b + 1) (pa + 1) br f ⟨hTP, hTK, c1, rfl, c3, rfl, c5⟩ (Nat.le_refl 1)) (by omega) (Nat.le_of_ble_eq_true rfl) d4_readPart_137 (fun x hx => ?_)
            refine g_iconstv (nI 1) d4_readPart_140 rfl ?_
            exact g_zret rfl (by decide) d4_readPart_141 (⟨(x, true), by have h9 := RP_leaf (st := 1) (wi := wpa tp t f lw 7 - 1) hS0 hbf hp5 (by omega) (by omega) (by omega) (fun _ => by omega) hx.1 hx.2; rw [if_neg (by decide), show wpa tp t f lw 7 - 1 + 1 = wpa tp t f lw 7 by omega] at h9; exact h9, rfl, rfl⟩)
          · rw [hbad (fun z => hp5 z.2)]
            refine g_EV1 vm8_wordIn ml4_88 c_12 (r8_wordIn tp t hTP f hTK (if lw = true then 5 else 6) hi8 (Nat.le_refl 5)) (by omega) (Nat.le_of_ble_eq_true rfl) d4_readPart_39 ?_
            refine g_topI (nI (wpa tp t f lw 7 - 1)) (by rw [wrd_w, if_neg hw0]; rfl) ?_
            refine g_istore_n d4_readPart_42 (by decide) ?_
            refine g_aload_n d4_readPart_43 rfl ?_
            refine g_get fl4_30 d4_readPart_44 f_14_0 ?_
            refine g_get fl4_63 d4_readPart_47 f_12_4 ?_
            refine g_topI (nI (kd tp t f)) (k4) ?_
            refine g_iconstv (nI 2) d4_readPart_50 rfl ?_
            refine g_ic_ne ((kd tp t f : Nat) : Int) (2) 71 (nI_ti (by omega)) (by decide) d4_readPart_51 rfl (fun _ => ?_) (fun c51 => absurd c51 (by omega))
            refine g_iconstv (nI 0) d4_readPart_71 rfl ?_
            refine g_istore_n d4_readPart_72 (by decide) ?_
            refine g_iload_n d4_readPart_73 rfl ?_
            refine g_iconstv ((-1 : Int32)) d4_readPart_74 rfl ?_
            refine g_ic_ne (((wpa tp t f lw 7 - 1) : Nat) : Int) (-1) 82 (nI_ti (by omega)) (by decide) d4_readPart_75 rfl (fun _ => ?_) (fun c75 => absurd c75 (by omega))
            refine g_aload_n d4_readPart_82 rfl ?_
            refine g_get fl4_38 d4_readPart_83 f_14_2 ?_
            refine g_topI (nI (pa)) (c2) ?_
            refine g_bipushv (nI 50) d4_readPart_86 rfl ?_
            refine g_ic_lt ((pa : Nat) : Int) (50) 96 (nI_ti (by omega)) (by decide) d4_readPart_88 rfl (fun c88 => absurd c88 (by omega)) (fun _ => ?_)
            refine g_aload_n d4_readPart_91 rfl ?_
            refine g_EV0 vm4_wrong ml4_77 c_14 (r4_wrong f k2 (Nat.le_refl 0)) (by omega) (Nat.le_of_ble_eq_true rfl) d4_readPart_92 ?_
            exact g_zret rfl (by decide) d4_readPart_95 (⟨(_, false), ⟨rfl, FRd.f (by decide) (by decide), rfl⟩, rfl, rfl⟩)
    cases lw
    · skip
      refine g_aload_n d4_readPart_0 rfl ?_
      refine g_get fl4_30 d4_readPart_1 f_14_0 ?_
      refine g_bipushv (nI 91) d4_readPart_4 rfl ?_
      refine g_EV1 vm8_isSign ml4_71 c_12 (r8_isSign tp t hTP f hTK 91 (by decide) (by decide) (Nat.le_refl 0)) (by omega) (Nat.le_of_ble_eq_true rfl) d4_readPart_6 ?_
      refine g_bz 21 d4_readPart_9 rfl (fun _ => ?_) (fun c9 => absurd c9 (hsg))
      refine g_aload_n d4_readPart_21 rfl ?_
      refine g_get fl4_30 d4_readPart_22 f_14_0 ?_
      refine g_aload_n d4_readPart_25 rfl ?_
      refine g_get fl4_34 d4_readPart_26 f_14_1 ?_
      refine g_topI (nI 0) (c1) ?_
      refine g_iz_eq (0) 37 (by decide) d4_readPart_29 rfl (fun _ => ?_) (fun c29 => absurd c29 (by decide))
      refine g_ldcS (i := 6) (by decide) rfl rfl d4_readPart_37 ?_
      refine g_lo [(0, .ref 14)] ⟨rfl, trivial⟩ ?_
      exact hstart
    · skip
      refine g_aload_n d4_readPart_0 rfl ?_
      refine g_get fl4_30 d4_readPart_1 f_14_0 ?_
      refine g_bipushv (nI 91) d4_readPart_4 rfl ?_
      refine g_EV1 vm8_isSign ml4_71 c_12 (r8_isSign tp t hTP f hTK 91 (by decide) (by decide) (Nat.le_refl 0)) (by omega) (Nat.le_of_ble_eq_true rfl) d4_readPart_6 ?_
      refine g_bz 21 d4_readPart_9 rfl (fun _ => ?_) (fun c9 => absurd c9 (hsg))
      refine g_aload_n d4_readPart_21 rfl ?_
      refine g_get fl4_30 d4_readPart_22 f_14_0 ?_
      refine g_aload_n d4_readPart_25 rfl ?_
      refine g_get fl4_34 d4_readPart_26 f_14_1 ?_
      refine g_topI (nI 1) (c1) ?_
      refine g_iz_eq (1) 37 (by decide) d4_readPart_29 rfl (fun c29 => absurd c29 (by decide)) (fun _ => ?_)
      refine g_ldcS (i := 5) (by decide) rfl rfl d4_readPart_32 ?_
      refine g_goto 39 d4_readPart_34 rfl ?_
      refine g_lo [(0, .ref 14)] ⟨rfl, trivial⟩ ?_
      exact hstart
