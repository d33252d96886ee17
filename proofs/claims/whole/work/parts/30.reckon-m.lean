/-! what a step of a text's code makes of two numbers: 20 +, 21 -, 22 *, 23 /, 24 %, 25 <, 26 >, 27 = -/
def ar0 (o : Nat) (a b : Int64) : Int64 := if o = 20 then a + b else if o = 21 then a - b else if o = 22 then a * b else if o = 23 then (if b = 0 then 0 else a / b) else if o = 24 then (if b = 0 then 0 else a - a / b * b) else if o = 25 then (if a < b then 1 else 0) else if o = 26 then (if b < a then 1 else 0) else (if a = b then 1 else 0)
def arB (o : Nat) (a b : Int64) : Prop := ((o = 23 ∨ o = 24) ∧ b = 0) ∨ ¬ (-1000000000 ≤ (ar0 o a b).toInt ∧ (ar0 o a b).toInt ≤ 1000000000)
theorem uI_id {I : wI} {k j : Nat} {x : Int32} (h : I k j = x) : uI I k j x = I := by
  funext a b
  rw [uI_at]
  by_cases q : a = k ∧ b = j
  · rw [if_pos q, q.1, q.2, h]
  · rw [if_neg q]
theorem uI_uI {I : wI} {k j : Nat} {x y : Int32} : uI (uI I k j x) k j y = uI I k j y := by
  funext a b
  simp only [uI_at]
  by_cases q : a = k ∧ b = j <;> simp [q]
theorem uL_uL {L : wL} {k j : Nat} {x y : Int64} : uL (uL L k j x) k j y = uL L k j y := by
  funext a b
  simp only [uL_at]
  by_cases q : a = k ∧ b = j <;> simp [q]
set_option maxHeartbeats 200000 in
theorem r12_reckon_20 {l : Launch} {K : cK} {d : Nat} {I : wI} {L : wL} {R : wR} {dy : cH} (a b : Int64)  (hd : 0 ≤ d) : CE l K m12_reckon d [.ref 74, .int (nI 20), .long a, .long b] (hp I L R dy) (.long (a + b)) (hp I L R dy) := by
  refine CC.of ok12_reckon (Nat.le_of_ble_eq_true rfl) ?_
  refine g_iload_n d12_reckon_0 rfl ?_
  refine g_tabIn 44 d12_reckon_1 (by decide) (by decide) rfl rfl ?_
  refine g_lload_n d12_reckon_44 rfl ?_
  refine g_lload d12_reckon_45 rfl ?_
  refine g_ladd d12_reckon_47 ?_
  exact g_lret rfl d12_reckon_48 (⟨rfl, rfl⟩)
set_option maxHeartbeats 200000 in
theorem r12_reckon_21 {l : Launch} {K : cK} {d : Nat} {I : wI} {L : wL} {R : wR} {dy : cH} (a b : Int64)  (hd : 0 ≤ d) : CE l K m12_reckon d [.ref 74, .int (nI 21), .long a, .long b] (hp I L R dy) (.long (a - b)) (hp I L R dy) := by
  refine CC.of ok12_reckon (Nat.le_of_ble_eq_true rfl) ?_
  refine g_iload_n d12_reckon_0 rfl ?_
  refine g_tabIn 49 d12_reckon_1 (by decide) (by decide) rfl rfl ?_
  refine g_lload_n d12_reckon_49 rfl ?_
  refine g_lload d12_reckon_50 rfl ?_
  refine g_lsub d12_reckon_52 ?_
  exact g_lret rfl d12_reckon_53 (⟨rfl, rfl⟩)
set_option maxHeartbeats 200000 in
theorem r12_reckon_22 {l : Launch} {K : cK} {d : Nat} {I : wI} {L : wL} {R : wR} {dy : cH} (a b : Int64)  (hd : 0 ≤ d) : CE l K m12_reckon d [.ref 74, .int (nI 22), .long a, .long b] (hp I L R dy) (.long (a * b)) (hp I L R dy) := by
  refine CC.of ok12_reckon (Nat.le_of_ble_eq_true rfl) ?_
  refine g_iload_n d12_reckon_0 rfl ?_
  refine g_tabIn 54 d12_reckon_1 (by decide) (by decide) rfl rfl ?_
  refine g_lload_n d12_reckon_54 rfl ?_
  refine g_lload d12_reckon_55 rfl ?_
  refine g_lmul d12_reckon_57 ?_
  exact g_lret rfl d12_reckon_58 (⟨rfl, rfl⟩)
set_option maxHeartbeats 200000 in
theorem r12_reckon_23_z {l : Launch} {K : cK} {d : Nat} {I : wI} {L : wL} {R : wR} {dy : cH} (a b : Int64) (hb : b = 0) (hd : 0 ≤ d) : CE l K m12_reckon d [.ref 74, .int (nI 23), .long a, .long b] (hp I L R dy) (.long (0)) (hp (uI I 74 32 1) L R dy) := by
  refine CC.of ok12_reckon (Nat.le_of_ble_eq_true rfl) ?_
  refine g_iload_n d12_reckon_0 rfl ?_
  refine g_tabIn 59 d12_reckon_1 (by decide) (by decide) rfl rfl ?_
  refine g_aload_n d12_reckon_59 rfl ?_
  refine g_lload d12_reckon_60 rfl ?_
  refine g_lconstv (0) d12_reckon_62 rfl ?_
  refine g_lx_ne _ (0) 71 (rfl) (by decide) d12_reckon_63 d12_reckon_64 rfl (fun c63 => absurd c63 (fun q => q (by rw [hb]; rfl))) (fun _ => ?_)
  refine g_iconstv (nI 1) d12_reckon_67 rfl ?_
  refine g_goto 72 d12_reckon_68 rfl ?_
  refine g_putZh _ fl12_352 d12_reckon_72 f_74_32 (by decide) s_74_32 ?_
  refine g_aload_n d12_reckon_75 rfl ?_
  refine g_get fl12_352 d12_reckon_76 f_74_32 ?_
  refine g_topI (nI 1) (rfl) ?_
  refine g_iz_eq ((1 : Nat) : Int) 86 (nI_ti (by omega)) d12_reckon_79 rfl (fun c79 => absurd c79 (by decide)) (fun _ => ?_)
  refine g_lconstv (0) d12_reckon_82 rfl ?_
  refine g_goto 90 d12_reckon_83 rfl ?_
  exact g_lret rfl d12_reckon_90 (⟨rfl, rfl⟩)
set_option maxHeartbeats 200000 in
theorem r12_reckon_23_n {l : Launch} {K : cK} {d : Nat} {I : wI} {L : wL} {R : wR} {dy : cH} (a b : Int64) (hb : ¬ b = 0) (hd : 0 ≤ d) : CE l K m12_reckon d [.ref 74, .int (nI 23), .long a, .long b] (hp I L R dy) (.long (a / b)) (hp (uI I 74 32 0) L R dy) := by
  refine CC.of ok12_reckon (Nat.le_of_ble_eq_true rfl) ?_
  refine g_iload_n d12_reckon_0 rfl ?_
  refine g_tabIn 59 d12_reckon_1 (by decide) (by decide) rfl rfl ?_
  refine g_aload_n d12_reckon_59 rfl ?_
  refine g_lload d12_reckon_60 rfl ?_
  refine g_lconstv (0) d12_reckon_62 rfl ?_
  refine g_lx_ne _ (0) 71 (rfl) (by decide) d12_reckon_63 d12_reckon_64 rfl (fun _ => ?_) (fun c63 => absurd c63 (fun q => hb (by rw [l_eq]; exact q)))
  refine g_iconstv (nI 0) d12_reckon_71 rfl ?_
  refine g_putZh _ fl12_352 d12_reckon_72 f_74_32 (by decide) s_74_32 ?_
  refine g_aload_n d12_reckon_75 rfl ?_
  refine g_get fl12_352 d12_reckon_76 f_74_32 ?_
  refine g_topI (nI 0) (rfl) ?_
  refine g_iz_eq ((0 : Nat) : Int) 86 (nI_ti (by omega)) d12_reckon_79 rfl (fun _ => ?_) (fun c79 => absurd c79 (by decide))
  refine g_lload_n d12_reckon_86 rfl ?_
  refine g_lload d12_reckon_87 rfl ?_
  refine g_ldiv d12_reckon_89 (hb) ?_
  exact g_lret rfl d12_reckon_90 (⟨rfl, rfl⟩)
set_option maxHeartbeats 200000 in
theorem r12_reckon_24_z {l : Launch} {K : cK} {d : Nat} {I : wI} {L : wL} {R : wR} {dy : cH} (a b : Int64) (hb : b = 0) (hd : 0 ≤ d) : CE l K m12_reckon d [.ref 74, .int (nI 24), .long a, .long b] (hp I L R dy) (.long (0)) (hp (uI I 74 32 1) L R dy) := by
  refine CC.of ok12_reckon (Nat.le_of_ble_eq_true rfl) ?_
  refine g_iload_n d12_reckon_0 rfl ?_
  refine g_tabIn 91 d12_reckon_1 (by decide) (by decide) rfl rfl ?_
  refine g_aload_n d12_reckon_91 rfl ?_
  refine g_lload d12_reckon_92 rfl ?_
  refine g_lconstv (0) d12_reckon_94 rfl ?_
  refine g_lx_ne _ (0) 103 (rfl) (by decide) d12_reckon_95 d12_reckon_96 rfl (fun c95 => absurd c95 (fun q => q (by rw [hb]; rfl))) (fun _ => ?_)
  refine g_iconstv (nI 1) d12_reckon_99 rfl ?_
  refine g_goto 104 d12_reckon_100 rfl ?_
  refine g_putZh _ fl12_352 d12_reckon_104 f_74_32 (by decide) s_74_32 ?_
  refine g_aload_n d12_reckon_107 rfl ?_
  refine g_get fl12_352 d12_reckon_108 f_74_32 ?_
  refine g_topI (nI 1) (rfl) ?_
  refine g_iz_eq ((1 : Nat) : Int) 118 (nI_ti (by omega)) d12_reckon_111 rfl (fun c111 => absurd c111 (by decide)) (fun _ => ?_)
  refine g_lconstv (0) d12_reckon_114 rfl ?_
  refine g_goto 122 d12_reckon_115 rfl ?_
  exact g_lret rfl d12_reckon_122 (⟨rfl, rfl⟩)
set_option maxHeartbeats 200000 in
theorem r12_reckon_24_n {l : Launch} {K : cK} {d : Nat} {I : wI} {L : wL} {R : wR} {dy : cH} (a b : Int64) (hb : ¬ b = 0) (hd : 0 ≤ d) : CE l K m12_reckon d [.ref 74, .int (nI 24), .long a, .long b] (hp I L R dy) (.long (a - a / b * b)) (hp (uI I 74 32 0) L R dy) := by
  refine CC.of ok12_reckon (Nat.le_of_ble_eq_true rfl) ?_
  refine g_iload_n d12_reckon_0 rfl ?_
  refine g_tabIn 91 d12_reckon_1 (by decide) (by decide) rfl rfl ?_
  refine g_aload_n d12_reckon_91 rfl ?_
  refine g_lload d12_reckon_92 rfl ?_
  refine g_lconstv (0) d12_reckon_94 rfl ?_
  refine g_lx_ne _ (0) 103 (rfl) (by decide) d12_reckon_95 d12_reckon_96 rfl (fun _ => ?_) (fun c95 => absurd c95 (fun q => hb (by rw [l_eq]; exact q)))
  refine g_iconstv (nI 0) d12_reckon_103 rfl ?_
  refine g_putZh _ fl12_352 d12_reckon_104 f_74_32 (by decide) s_74_32 ?_
  refine g_aload_n d12_reckon_107 rfl ?_
  refine g_get fl12_352 d12_reckon_108 f_74_32 ?_
  refine g_topI (nI 0) (rfl) ?_
  refine g_iz_eq ((0 : Nat) : Int) 118 (nI_ti (by omega)) d12_reckon_111 rfl (fun _ => ?_) (fun c111 => absurd c111 (by decide))
  refine g_lload_n d12_reckon_118 rfl ?_
  refine g_lload d12_reckon_119 rfl ?_
  refine g_lrem d12_reckon_121 (hb) ?_
  exact g_lret rfl d12_reckon_122 (⟨rfl, rfl⟩)
set_option maxHeartbeats 200000 in
theorem r12_reckon_25 {l : Launch} {K : cK} {d : Nat} {I : wI} {L : wL} {R : wR} {dy : cH} (a b : Int64)  (hd : 0 ≤ d) : CE l K m12_reckon d [.ref 74, .int (nI 25), .long a, .long b] (hp I L R dy) (.long (if a < b then 1 else 0)) (hp I L R dy) := by
  refine CC.of ok12_reckon (Nat.le_of_ble_eq_true rfl) ?_
  refine g_iload_n d12_reckon_0 rfl ?_
  refine g_tabIn 123 d12_reckon_1 (by decide) (by decide) rfl rfl ?_
  refine g_lload_n d12_reckon_123 rfl ?_
  refine g_lload d12_reckon_124 rfl ?_
  refine g_lx_ge _ _ 134 (rfl) (rfl) d12_reckon_126 d12_reckon_127 rfl (fun c126 => ?_) (fun c126 => ?_)
  · refine g_lconstv (0) d12_reckon_134 rfl ?_
    exact g_lret rfl d12_reckon_135 (⟨by first | rw [if_pos (by simp only [l_lt, l_eq]; omega)] | rw [if_neg (by simp only [l_lt, l_eq]; omega)], rfl⟩)
  · refine g_lconstv (1) d12_reckon_130 rfl ?_
    refine g_goto 135 d12_reckon_131 rfl ?_
    exact g_lret rfl d12_reckon_135 (⟨by first | rw [if_pos (by simp only [l_lt, l_eq]; omega)] | rw [if_neg (by simp only [l_lt, l_eq]; omega)], rfl⟩)
set_option maxHeartbeats 200000 in
theorem r12_reckon_26 {l : Launch} {K : cK} {d : Nat} {I : wI} {L : wL} {R : wR} {dy : cH} (a b : Int64)  (hd : 0 ≤ d) : CE l K m12_reckon d [.ref 74, .int (nI 26), .long a, .long b] (hp I L R dy) (.long (if b < a then 1 else 0)) (hp I L R dy) := by
  refine CC.of ok12_reckon (Nat.le_of_ble_eq_true rfl) ?_
  refine g_iload_n d12_reckon_0 rfl ?_
  refine g_tabIn 136 d12_reckon_1 (by decide) (by decide) rfl rfl ?_
  refine g_lload_n d12_reckon_136 rfl ?_
  refine g_lload d12_reckon_137 rfl ?_
  refine g_lx_le _ _ 147 (rfl) (rfl) d12_reckon_139 d12_reckon_140 rfl (fun c139 => ?_) (fun c139 => ?_)
  · refine g_lconstv (0) d12_reckon_147 rfl ?_
    exact g_lret rfl d12_reckon_148 (⟨by first | rw [if_pos (by simp only [l_lt, l_eq]; omega)] | rw [if_neg (by simp only [l_lt, l_eq]; omega)], rfl⟩)
  · refine g_lconstv (1) d12_reckon_143 rfl ?_
    refine g_goto 148 d12_reckon_144 rfl ?_
    exact g_lret rfl d12_reckon_148 (⟨by first | rw [if_pos (by simp only [l_lt, l_eq]; omega)] | rw [if_neg (by simp only [l_lt, l_eq]; omega)], rfl⟩)
set_option maxHeartbeats 200000 in
theorem r12_reckon_27 {l : Launch} {K : cK} {d : Nat} {I : wI} {L : wL} {R : wR} {dy : cH} (a b : Int64)  (hd : 0 ≤ d) : CE l K m12_reckon d [.ref 74, .int (nI 27), .long a, .long b] (hp I L R dy) (.long (if a = b then 1 else 0)) (hp I L R dy) := by
  refine CC.of ok12_reckon (Nat.le_of_ble_eq_true rfl) ?_
  refine g_iload_n d12_reckon_0 rfl ?_
  refine g_tabOut 149 d12_reckon_1 (by decide) rfl ?_
  refine g_lload_n d12_reckon_149 rfl ?_
  refine g_lload d12_reckon_150 rfl ?_
  refine g_lx_ne _ _ 160 (rfl) (rfl) d12_reckon_152 d12_reckon_153 rfl (fun c152 => ?_) (fun c152 => ?_)
  · refine g_lconstv (0) d12_reckon_160 rfl ?_
    exact g_lret rfl d12_reckon_161 (⟨by first | rw [if_pos (by simp only [l_lt, l_eq]; omega)] | rw [if_neg (by simp only [l_lt, l_eq]; omega)], rfl⟩)
  · refine g_lconstv (1) d12_reckon_156 rfl ?_
    refine g_goto 161 d12_reckon_157 rfl ?_
    exact g_lret rfl d12_reckon_161 (⟨by first | rw [if_pos (by simp only [l_lt, l_eq]; omega)] | rw [if_neg (by simp only [l_lt, l_eq]; omega)], rfl⟩)
/-- the step, whatever it is: the answer, and whether it divided by 0 -/
theorem r12_reckon {l : Launch} {K : cK} {d : Nat} {I : wI} {L : wL} {R : wR} {dy : cH} (o : Nat) (ho : 20 ≤ o) (ho2 : o ≤ 27) (a b : Int64) (hb0 : I 74 32 = 0) (hd : 0 ≤ d) : CE l K m12_reckon d [.ref 74, .int (nI o), .long a, .long b] (hp I L R dy) (.long (ar0 o a b)) (hp (uI I 74 32 (if (o = 23 ∨ o = 24) ∧ b = 0 then 1 else 0)) L R dy) := by
  have h0 : uI I 74 32 0 = I := uI_id hb0
  rcases (by omega : o = 20 ∨ o = 21 ∨ o = 22 ∨ o = 23 ∨ o = 24 ∨ o = 25 ∨ o = 26 ∨ o = 27) with rfl | rfl | rfl | rfl | rfl | rfl | rfl | rfl
  · rw [if_neg (fun q => by have := q.1; omega), h0]; exact r12_reckon_20 a b hd
  · rw [if_neg (fun q => by have := q.1; omega), h0]; exact r12_reckon_21 a b hd
  · rw [if_neg (fun q => by have := q.1; omega), h0]; exact r12_reckon_22 a b hd
  · by_cases hb : b = 0
    · rw [if_pos ⟨by omega, hb⟩]; have := r12_reckon_23_z (l := l) (K := K) (I := I) (L := L) (R := R) (dy := dy) a b hb hd; simpa [ar0, hb] using this
    · rw [if_neg (fun q => hb q.2)]; have := r12_reckon_23_n (l := l) (K := K) (I := I) (L := L) (R := R) (dy := dy) a b hb hd; simpa [ar0, hb] using this
  · by_cases hb : b = 0
    · rw [if_pos ⟨by omega, hb⟩]; have := r12_reckon_24_z (l := l) (K := K) (I := I) (L := L) (R := R) (dy := dy) a b hb hd; simpa [ar0, hb] using this
    · rw [if_neg (fun q => hb q.2)]; have := r12_reckon_24_n (l := l) (K := K) (I := I) (L := L) (R := R) (dy := dy) a b hb hd; simpa [ar0, hb] using this
  · rw [if_neg (fun q => by have := q.1; omega), h0]; exact r12_reckon_25 a b hd
  · rw [if_neg (fun q => by have := q.1; omega), h0]; exact r12_reckon_26 a b hd
  · rw [if_neg (fun q => by have := q.1; omega), h0]; exact r12_reckon_27 a b hd
