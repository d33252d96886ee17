def GX (l : Launch) (K : cK) (d : Nat) (R : wR) (dy : cH) (Q : Option Value → cH → Prop) (te : Int32) (z : Nat) (I : wI) (L : wL) : Prop := GL l K m12_readExpression d 0 0 20 [(0, .ref 74), (1, .int te), (2, .int (nI z))] [] (hp I L R dy) Q
theorem gx1 {l : Launch} {K : cK} {d : Nat} {R : wR} {dy : cH} {Q : Option Value → cH → Prop} {te : Int32} {I : wI} {L : wL} (hb : I 74 14 = 0) (hd : 6 ≤ d) (z : Nat) (Pp : wI × wL → Prop) (hc : CX l K m12_readPart 4 [.ref 74] (hp I L R dy) (α := wI × wL) Pp (fun _ => .int (nI z)) (fun x => hp x.1 x.2 R dy)) (kk : ∀ x, Pp x → GX l K d R dy Q te z x.1 x.2) : GX l K d R dy Q te 1 I L := by
  show GL l K m12_readExpression d 0 0 20 _ [] (hp I L R dy) Q
  refine g_aload_n d12_readExpression_20 rfl ?_
  refine g_get fl12_192 d12_readExpression_21 f_74_14 ?_
  refine g_topI ((0 : Int32)) (hb) ?_
  refine g_iz_ne (0) 76 (by decide) d12_readExpression_24 rfl (fun c24 => absurd c24 (by decide)) (fun _ => ?_)
  refine g_iload_n d12_readExpression_27 rfl ?_
  refine g_iconstv (nI 4) d12_readExpression_28 rfl ?_
  refine g_ic_eq (1) (4) 76 (by decide) (by decide) d12_readExpression_29 rfl (fun c29 => absurd c29 (by decide)) (fun _ => ?_)
  refine g_iload_n d12_readExpression_32 rfl ?_
  refine g_iz_ne (1) 43 (by decide) d12_readExpression_33 rfl (fun _ => ?_) (fun c33 => absurd c33 (by decide))
  refine g_iload_n d12_readExpression_43 rfl ?_
  refine g_iconstv (nI 1) d12_readExpression_44 rfl ?_
  refine g_ic_ne (1) (1) 55 (by decide) (by decide) d12_readExpression_45 rfl (fun c45 => absurd c45 (by decide)) (fun _ => ?_)
  refine g_aload_n d12_readExpression_48 rfl ?_
  refine g_XV0 vm12_readPart ml12_289 c_74 (hc) (by omega) (Nat.le_of_ble_eq_true rfl) d12_readExpression_49 (fun x hx => ?_)
  refine g_goto 72 d12_readExpression_52 rfl ?_
  refine g_istore_n d12_readExpression_72 (by decide) ?_
  refine g_goto 20 d12_readExpression_73 rfl ?_
  refine g_lo [(0, .ref 74), (1, .int te), (2, .int (nI (z)))] ⟨rfl, rfl, rfl, trivial⟩ ?_
  exact kk x hx
theorem gx0 {l : Launch} {K : cK} {d : Nat} {R : wR} {dy : cH} {Q : Option Value → cH → Prop} {te : Int32} {I : wI} {L : wL} (hb : I 74 14 = 0) (hd : 6 ≤ d) (z : Nat) (Pp : wI × wL → Prop) (hc : CX l K m12_readPlain 5 [.ref 74] (hp I L R dy) (α := wI × wL) Pp (fun _ => .int (nI z)) (fun x => hp x.1 x.2 R dy)) (kk : ∀ x, Pp x → GX l K d R dy Q te z x.1 x.2) : GX l K d R dy Q te 0 I L := by
  show GL l K m12_readExpression d 0 0 20 _ [] (hp I L R dy) Q
  refine g_aload_n d12_readExpression_20 rfl ?_
  refine g_get fl12_192 d12_readExpression_21 f_74_14 ?_
  refine g_topI ((0 : Int32)) (hb) ?_
  refine g_iz_ne (0) 76 (by decide) d12_readExpression_24 rfl (fun c24 => absurd c24 (by decide)) (fun _ => ?_)
  refine g_iload_n d12_readExpression_27 rfl ?_
  refine g_iconstv (nI 4) d12_readExpression_28 rfl ?_
  refine g_ic_eq (0) (4) 76 (by decide) (by decide) d12_readExpression_29 rfl (fun c29 => absurd c29 (by decide)) (fun _ => ?_)
  refine g_iload_n d12_readExpression_32 rfl ?_
  refine g_iz_ne (0) 43 (by decide) d12_readExpression_33 rfl (fun c33 => absurd c33 (by decide)) (fun _ => ?_)
  refine g_aload_n d12_readExpression_36 rfl ?_
  refine g_XV0 vm12_readPlain ml12_306 c_74 (hc) (by omega) (Nat.le_of_ble_eq_true rfl) d12_readExpression_37 (fun x hx => ?_)
  refine g_goto 72 d12_readExpression_40 rfl ?_
  refine g_istore_n d12_readExpression_72 (by decide) ?_
  refine g_goto 20 d12_readExpression_73 rfl ?_
  refine g_lo [(0, .ref 74), (1, .int te), (2, .int (nI (z)))] ⟨rfl, rfl, rfl, trivial⟩ ?_
  exact kk x hx
theorem gx3 {l : Launch} {K : cK} {d : Nat} {R : wR} {dy : cH} {Q : Option Value → cH → Prop} {te : Int32} {I : wI} {L : wL} (hb : I 74 14 = 0) (hd : 6 ≤ d) (z : Nat) (Pp : wI × wL → Prop) (hc : CX l K m12_behindSum 3 [.ref 74, .int te] (hp I L R dy) (α := wI × wL) Pp (fun _ => .int (nI z)) (fun x => hp x.1 x.2 R dy)) (kk : ∀ x, Pp x → GX l K d R dy Q te z x.1 x.2) : GX l K d R dy Q te 3 I L := by
  show GL l K m12_readExpression d 0 0 20 _ [] (hp I L R dy) Q
  refine g_aload_n d12_readExpression_20 rfl ?_
  refine g_get fl12_192 d12_readExpression_21 f_74_14 ?_
  refine g_topI ((0 : Int32)) (hb) ?_
  refine g_iz_ne (0) 76 (by decide) d12_readExpression_24 rfl (fun c24 => absurd c24 (by decide)) (fun _ => ?_)
  refine g_iload_n d12_readExpression_27 rfl ?_
  refine g_iconstv (nI 4) d12_readExpression_28 rfl ?_
  refine g_ic_eq (3) (4) 76 (by decide) (by decide) d12_readExpression_29 rfl (fun c29 => absurd c29 (by decide)) (fun _ => ?_)
  refine g_iload_n d12_readExpression_32 rfl ?_
  refine g_iz_ne (3) 43 (by decide) d12_readExpression_33 rfl (fun _ => ?_) (fun c33 => absurd c33 (by decide))
  refine g_iload_n d12_readExpression_43 rfl ?_
  refine g_iconstv (nI 1) d12_readExpression_44 rfl ?_
  refine g_ic_ne (3) (1) 55 (by decide) (by decide) d12_readExpression_45 rfl (fun _ => ?_) (fun c45 => absurd c45 (by decide))
  refine g_iload_n d12_readExpression_55 rfl ?_
  refine g_iconstv (nI 3) d12_readExpression_56 rfl ?_
  refine g_ic_ne (3) (3) 68 (by decide) (by decide) d12_readExpression_57 rfl (fun c57 => absurd c57 (by decide)) (fun _ => ?_)
  refine g_aload_n d12_readExpression_60 rfl ?_
  refine g_iload_n d12_readExpression_61 rfl ?_
  refine g_XV1 vm12_behindSum ml12_309 c_74 (hc) (by omega) (Nat.le_of_ble_eq_true rfl) d12_readExpression_62 (fun x hx => ?_)
  refine g_goto 72 d12_readExpression_65 rfl ?_
  refine g_istore_n d12_readExpression_72 (by decide) ?_
  refine g_goto 20 d12_readExpression_73 rfl ?_
  refine g_lo [(0, .ref 74), (1, .int te), (2, .int (nI (z)))] ⟨rfl, rfl, rfl, trivial⟩ ?_
  exact kk x hx
theorem gx3n {l : Launch} {K : cK} {d : Nat} {R : wR} {dy : cH} {Q : Option Value → cH → Prop} {te : Int32} {I : wI} {L : wL} (hb : I 74 14 = 0) (hd : 6 ≤ d) (z : Nat) (Pp : wI × wL × Nat → Prop) (hc : CX l K m12_behindSum 3 [.ref 74, .int te] (hp I L R dy) (α := wI × wL × Nat) Pp (fun _ => .int (nI z)) (fun x => hp x.1 x.2.1 R dy)) (kk : ∀ x, Pp x → GX l K d R dy Q te z x.1 x.2.1) : GX l K d R dy Q te 3 I L := by
  show GL l K m12_readExpression d 0 0 20 _ [] (hp I L R dy) Q
  refine g_aload_n d12_readExpression_20 rfl ?_
  refine g_get fl12_192 d12_readExpression_21 f_74_14 ?_
  refine g_topI ((0 : Int32)) (hb) ?_
  refine g_iz_ne (0) 76 (by decide) d12_readExpression_24 rfl (fun c24 => absurd c24 (by decide)) (fun _ => ?_)
  refine g_iload_n d12_readExpression_27 rfl ?_
  refine g_iconstv (nI 4) d12_readExpression_28 rfl ?_
  refine g_ic_eq (3) (4) 76 (by decide) (by decide) d12_readExpression_29 rfl (fun c29 => absurd c29 (by decide)) (fun _ => ?_)
  refine g_iload_n d12_readExpression_32 rfl ?_
  refine g_iz_ne (3) 43 (by decide) d12_readExpression_33 rfl (fun _ => ?_) (fun c33 => absurd c33 (by decide))
  refine g_iload_n d12_readExpression_43 rfl ?_
  refine g_iconstv (nI 1) d12_readExpression_44 rfl ?_
  refine g_ic_ne (3) (1) 55 (by decide) (by decide) d12_readExpression_45 rfl (fun _ => ?_) (fun c45 => absurd c45 (by decide))
  refine g_iload_n d12_readExpression_55 rfl ?_
  refine g_iconstv (nI 3) d12_readExpression_56 rfl ?_
  refine g_ic_ne (3) (3) 68 (by decide) (by decide) d12_readExpression_57 rfl (fun c57 => absurd c57 (by decide)) (fun _ => ?_)
  refine g_aload_n d12_readExpression_60 rfl ?_
  refine g_iload_n d12_readExpression_61 rfl ?_
  refine g_XV1 vm12_behindSum ml12_309 c_74 (hc) (by omega) (Nat.le_of_ble_eq_true rfl) d12_readExpression_62 (fun x hx => ?_)
  refine g_goto 72 d12_readExpression_65 rfl ?_
  refine g_istore_n d12_readExpression_72 (by decide) ?_
  refine g_goto 20 d12_readExpression_73 rfl ?_
  refine g_lo [(0, .ref 74), (1, .int te), (2, .int (nI (z)))] ⟨rfl, rfl, rfl, trivial⟩ ?_
  exact kk x hx
theorem gx3e {l : Launch} {K : cK} {d : Nat} {R : wR} {dy : cH} {Q : Option Value → cH → Prop} {te : Int32} {I : wI} {L : wL} (hb : I 74 14 = 0) (hd : 6 ≤ d) (z : Nat) (hc : CE l K m12_behindSum 3 [.ref 74, .int te] (hp I L R dy) (.int (nI z)) (hp I L R dy)) (kk : GX l K d R dy Q te z I L) : GX l K d R dy Q te 3 I L := by
  show GL l K m12_readExpression d 0 0 20 _ [] (hp I L R dy) Q
  refine g_aload_n d12_readExpression_20 rfl ?_
  refine g_get fl12_192 d12_readExpression_21 f_74_14 ?_
  refine g_topI ((0 : Int32)) (hb) ?_
  refine g_iz_ne (0) 76 (by decide) d12_readExpression_24 rfl (fun c24 => absurd c24 (by decide)) (fun _ => ?_)
  refine g_iload_n d12_readExpression_27 rfl ?_
  refine g_iconstv (nI 4) d12_readExpression_28 rfl ?_
  refine g_ic_eq (3) (4) 76 (by decide) (by decide) d12_readExpression_29 rfl (fun c29 => absurd c29 (by decide)) (fun _ => ?_)
  refine g_iload_n d12_readExpression_32 rfl ?_
  refine g_iz_ne (3) 43 (by decide) d12_readExpression_33 rfl (fun _ => ?_) (fun c33 => absurd c33 (by decide))
  refine g_iload_n d12_readExpression_43 rfl ?_
  refine g_iconstv (nI 1) d12_readExpression_44 rfl ?_
  refine g_ic_ne (3) (1) 55 (by decide) (by decide) d12_readExpression_45 rfl (fun _ => ?_) (fun c45 => absurd c45 (by decide))
  refine g_iload_n d12_readExpression_55 rfl ?_
  refine g_iconstv (nI 3) d12_readExpression_56 rfl ?_
  refine g_ic_ne (3) (3) 68 (by decide) (by decide) d12_readExpression_57 rfl (fun c57 => absurd c57 (by decide)) (fun _ => ?_)
  refine g_aload_n d12_readExpression_60 rfl ?_
  refine g_iload_n d12_readExpression_61 rfl ?_
  refine g_EV1 vm12_behindSum ml12_309 c_74 (hc) (by omega) (Nat.le_of_ble_eq_true rfl) d12_readExpression_62 ?_
  refine g_goto 72 d12_readExpression_65 rfl ?_
  refine g_istore_n d12_readExpression_72 (by decide) ?_
  refine g_goto 20 d12_readExpression_73 rfl ?_
  refine g_lo [(0, .ref 74), (1, .int te), (2, .int (nI (z)))] ⟨rfl, rfl, rfl, trivial⟩ ?_
  exact kk
theorem gx2 {l : Launch} {K : cK} {d : Nat} {R : wR} {dy : cH} {Q : Option Value → cH → Prop} {te : Int32} {I : wI} {L : wL} (hb : I 74 14 = 0) (hd : 6 ≤ d) (z : Nat) (Pp : wI × wL → Prop) (hc : CX l K m12_behindTest 3 [.ref 74] (hp I L R dy) (α := wI × wL) Pp (fun _ => .int (nI z)) (fun x => hp x.1 x.2 R dy)) (kk : ∀ x, Pp x → GX l K d R dy Q te z x.1 x.2) : GX l K d R dy Q te 2 I L := by
  show GL l K m12_readExpression d 0 0 20 _ [] (hp I L R dy) Q
  refine g_aload_n d12_readExpression_20 rfl ?_
  refine g_get fl12_192 d12_readExpression_21 f_74_14 ?_
  refine g_topI ((0 : Int32)) (hb) ?_
  refine g_iz_ne (0) 76 (by decide) d12_readExpression_24 rfl (fun c24 => absurd c24 (by decide)) (fun _ => ?_)
  refine g_iload_n d12_readExpression_27 rfl ?_
  refine g_iconstv (nI 4) d12_readExpression_28 rfl ?_
  refine g_ic_eq (2) (4) 76 (by decide) (by decide) d12_readExpression_29 rfl (fun c29 => absurd c29 (by decide)) (fun _ => ?_)
  refine g_iload_n d12_readExpression_32 rfl ?_
  refine g_iz_ne (2) 43 (by decide) d12_readExpression_33 rfl (fun _ => ?_) (fun c33 => absurd c33 (by decide))
  refine g_iload_n d12_readExpression_43 rfl ?_
  refine g_iconstv (nI 1) d12_readExpression_44 rfl ?_
  refine g_ic_ne (2) (1) 55 (by decide) (by decide) d12_readExpression_45 rfl (fun _ => ?_) (fun c45 => absurd c45 (by decide))
  refine g_iload_n d12_readExpression_55 rfl ?_
  refine g_iconstv (nI 3) d12_readExpression_56 rfl ?_
  refine g_ic_ne (2) (3) 68 (by decide) (by decide) d12_readExpression_57 rfl (fun _ => ?_) (fun c57 => absurd c57 (by decide))
  refine g_aload_n d12_readExpression_68 rfl ?_
  refine g_XV0 vm12_behindTest ml12_313 c_74 (hc) (by omega) (Nat.le_of_ble_eq_true rfl) d12_readExpression_69 (fun x hx => ?_)
  refine g_istore_n d12_readExpression_72 (by decide) ?_
  refine g_goto 20 d12_readExpression_73 rfl ?_
  refine g_lo [(0, .ref 74), (1, .int te), (2, .int (nI (z)))] ⟨rfl, rfl, rfl, trivial⟩ ?_
  exact kk x hx
theorem gx2n {l : Launch} {K : cK} {d : Nat} {R : wR} {dy : cH} {Q : Option Value → cH → Prop} {te : Int32} {I : wI} {L : wL} (hb : I 74 14 = 0) (hd : 6 ≤ d) (z : Nat) (Pp : wI × wL × Nat → Prop) (hc : CX l K m12_behindTest 3 [.ref 74] (hp I L R dy) (α := wI × wL × Nat) Pp (fun _ => .int (nI z)) (fun x => hp x.1 x.2.1 R dy)) (kk : ∀ x, Pp x → GX l K d R dy Q te z x.1 x.2.1) : GX l K d R dy Q te 2 I L := by
  show GL l K m12_readExpression d 0 0 20 _ [] (hp I L R dy) Q
  refine g_aload_n d12_readExpression_20 rfl ?_
  refine g_get fl12_192 d12_readExpression_21 f_74_14 ?_
  refine g_topI ((0 : Int32)) (hb) ?_
  refine g_iz_ne (0) 76 (by decide) d12_readExpression_24 rfl (fun c24 => absurd c24 (by decide)) (fun _ => ?_)
  refine g_iload_n d12_readExpression_27 rfl ?_
  refine g_iconstv (nI 4) d12_readExpression_28 rfl ?_
  refine g_ic_eq (2) (4) 76 (by decide) (by decide) d12_readExpression_29 rfl (fun c29 => absurd c29 (by decide)) (fun _ => ?_)
  refine g_iload_n d12_readExpression_32 rfl ?_
  refine g_iz_ne (2) 43 (by decide) d12_readExpression_33 rfl (fun _ => ?_) (fun c33 => absurd c33 (by decide))
  refine g_iload_n d12_readExpression_43 rfl ?_
  refine g_iconstv (nI 1) d12_readExpression_44 rfl ?_
  refine g_ic_ne (2) (1) 55 (by decide) (by decide) d12_readExpression_45 rfl (fun _ => ?_) (fun c45 => absurd c45 (by decide))
  refine g_iload_n d12_readExpression_55 rfl ?_
  refine g_iconstv (nI 3) d12_readExpression_56 rfl ?_
  refine g_ic_ne (2) (3) 68 (by decide) (by decide) d12_readExpression_57 rfl (fun _ => ?_) (fun c57 => absurd c57 (by decide))
  refine g_aload_n d12_readExpression_68 rfl ?_
  refine g_XV0 vm12_behindTest ml12_313 c_74 (hc) (by omega) (Nat.le_of_ble_eq_true rfl) d12_readExpression_69 (fun x hx => ?_)
  refine g_istore_n d12_readExpression_72 (by decide) ?_
  refine g_goto 20 d12_readExpression_73 rfl ?_
  refine g_lo [(0, .ref 74), (1, .int te), (2, .int (nI (z)))] ⟨rfl, rfl, rfl, trivial⟩ ?_
  exact kk x hx
theorem gx2e {l : Launch} {K : cK} {d : Nat} {R : wR} {dy : cH} {Q : Option Value → cH → Prop} {te : Int32} {I : wI} {L : wL} (hb : I 74 14 = 0) (hd : 6 ≤ d) (z : Nat) (hc : CE l K m12_behindTest 3 [.ref 74] (hp I L R dy) (.int (nI z)) (hp I L R dy)) (kk : GX l K d R dy Q te z I L) : GX l K d R dy Q te 2 I L := by
  show GL l K m12_readExpression d 0 0 20 _ [] (hp I L R dy) Q
  refine g_aload_n d12_readExpression_20 rfl ?_
  refine g_get fl12_192 d12_readExpression_21 f_74_14 ?_
  refine g_topI ((0 : Int32)) (hb) ?_
  refine g_iz_ne (0) 76 (by decide) d12_readExpression_24 rfl (fun c24 => absurd c24 (by decide)) (fun _ => ?_)
  refine g_iload_n d12_readExpression_27 rfl ?_
  refine g_iconstv (nI 4) d12_readExpression_28 rfl ?_
  refine g_ic_eq (2) (4) 76 (by decide) (by decide) d12_readExpression_29 rfl (fun c29 => absurd c29 (by decide)) (fun _ => ?_)
  refine g_iload_n d12_readExpression_32 rfl ?_
  refine g_iz_ne (2) 43 (by decide) d12_readExpression_33 rfl (fun _ => ?_) (fun c33 => absurd c33 (by decide))
  refine g_iload_n d12_readExpression_43 rfl ?_
  refine g_iconstv (nI 1) d12_readExpression_44 rfl ?_
  refine g_ic_ne (2) (1) 55 (by decide) (by decide) d12_readExpression_45 rfl (fun _ => ?_) (fun c45 => absurd c45 (by decide))
  refine g_iload_n d12_readExpression_55 rfl ?_
  refine g_iconstv (nI 3) d12_readExpression_56 rfl ?_
  refine g_ic_ne (2) (3) 68 (by decide) (by decide) d12_readExpression_57 rfl (fun _ => ?_) (fun c57 => absurd c57 (by decide))
  refine g_aload_n d12_readExpression_68 rfl ?_
  refine g_EV0 vm12_behindTest ml12_313 c_74 (hc) (by omega) (Nat.le_of_ble_eq_true rfl) d12_readExpression_69 ?_
  refine g_istore_n d12_readExpression_72 (by decide) ?_
  refine g_goto 20 d12_readExpression_73 rfl ?_
  refine g_lo [(0, .ref 74), (1, .int te), (2, .int (nI (z)))] ⟨rfl, rfl, rfl, trivial⟩ ?_
  exact kk
theorem gxE {l : Launch} {K : cK} {d : Nat} {R : wR} {dy : cH} {Q : Option Value → cH → Prop} {te : Int32} {I : wI} {L : wL} (hb : I 74 14 = 0) (kk : GL l K m12_readExpression d 0 0 76 [(0, .ref 74)] [] (hp I L R dy) Q) : GX l K d R dy Q te 4 I L := by
  show GL l K m12_readExpression d 0 0 20 _ [] (hp I L R dy) Q
  refine g_aload_n d12_readExpression_20 rfl ?_
  refine g_get fl12_192 d12_readExpression_21 f_74_14 ?_
  refine g_topI ((0 : Int32)) (hb) ?_
  refine g_iz_ne (0) 76 (by decide) d12_readExpression_24 rfl (fun c24 => absurd c24 (by decide)) (fun _ => ?_)
  refine g_iload_n d12_readExpression_27 rfl ?_
  refine g_iconstv (nI 4) d12_readExpression_28 rfl ?_
  refine g_ic_eq (4) (4) 76 (by decide) (by decide) d12_readExpression_29 rfl (fun _ => ?_) (fun c29 => absurd c29 (by decide))
  refine g_lo [(0, .ref 74)] ⟨rfl, trivial⟩ ?_
  exact kk
theorem gxB {l : Launch} {K : cK} {d : Nat} {R : wR} {dy : cH} {Q : Option Value → cH → Prop} {te : Int32} {I : wI} {L : wL} {z : Nat} (hb : I 74 14 = 1) (kk : GL l K m12_readExpression d 0 0 76 [(0, .ref 74)] [] (hp I L R dy) Q) : GX l K d R dy Q te z I L := by
  show GL l K m12_readExpression d 0 0 20 _ [] (hp I L R dy) Q
  refine g_aload_n d12_readExpression_20 rfl ?_
  refine g_get fl12_192 d12_readExpression_21 f_74_14 ?_
  refine g_topI ((1 : Int32)) (hb) ?_
  refine g_iz_ne (1) 76 (by decide) d12_readExpression_24 rfl (fun _ => ?_) (fun c24 => absurd c24 (by decide))
  refine g_lo [(0, .ref 74)] ⟨rfl, trivial⟩ ?_
  exact kk
/-- a part may be read -/
def EN (tp : Nat → Nat) (t z f : Nat) : Prop := z = 1 ∨ (z = 0 ∧ ¬ iw tp t f 14836 ∧ sg tp t f ≠ 40)
theorem gxP {l : Launch} {K : cK} {d : Nat} {R : wR} {dy : cH} {Q : Option Value → cH → Prop} {te : Int32} {tp : Nat → Nat} {t : Nat} {lw : Bool} {I : wI} {L : wL} {X : List (Nat × Nat)} {b pa br f y : Nat} (hS : PSt I L tp t lw X b pa br f) (hE : EN tp t y f) (hd : 6 ≤ d) (z : Nat) (Pp : wI × wL → Prop) (hc : CX l K m12_readPart 4 [.ref 74] (hp I L R dy) (α := wI × wL) Pp (fun _ => .int (nI z)) (fun x => hp x.1 x.2 R dy)) (kk : ∀ x, Pp x → GX l K d R dy Q te z x.1 x.2) : GX l K d R dy Q te y I L := by
  rcases hE with rfl | ⟨rfl, h1, h2⟩
  · exact gx1 hS.2.2.2.1 hd z Pp hc kk
  · exact gx0 hS.2.2.2.1 hd z Pp (r12_pl_p tp t lw X b pa br f hS h1 h2 Pp z hc (Nat.le_refl 5)) kk
theorem BSt.tr {I I1 : wI} {L L1 : wL} {e : Nat} {x : wI × wL} (h : BSt I1 L1 e x) (hF : FP I L I1 L1) : BSt I L e x := ⟨h.1, h.2.1, hF.tr h.2.2.1, h.2.2.2⟩
/-- what reading comes to -/
def MP (Gp : Nat → wI → wL → Prop) (tp : Nat → Nat) (t : Nat) (lw : Bool) (I : wI) (L : wL) (X : List (Nat × Nat)) (b br z lv f : Nat) (sd : Nat → Prop) (r : Res) : Prop := match r with
  | .inl e => ∀ x : wI × wL, BSt I L e x → ∀ y, Gp y x.1 x.2
  | .inr (f1, p1, v1) => ∀ (I2 : wI) (L2 : wL) (Y : List (Nat × Nat)) (b1 : Nat), PSt I2 L2 tp t lw (X ++ Y) b1 p1 br f1 → FP I L I2 L2 → (∀ q, q < b → I2 81 q = I 81 q ∧ I2 82 q = I 82 q) → PD (opF I2) (agF I2) Y b b1 v1 → BG lv Y → b1 + X.length + Y.length + 1 ≤ f1 → f < f1 → p1 ≤ 50 → sd f1 → Gp z I2 L2
theorem MP.tr {Gp : Nat → wI → wL → Prop} {tp : Nat → Nat} {t : Nat} {lw : Bool} {I I1 : wI} {L L1 : wL} {X : List (Nat × Nat)} {b br z lv f : Nat} {sd : Nat → Prop} {r : Res} (h : MP Gp tp t lw I L X b br z lv f sd r) (hF : FP I L I1 L1) (hc : ∀ q, q < b → I1 81 q = I 81 q ∧ I1 82 q = I 82 q) : MP Gp tp t lw I1 L1 X b br z lv f sd r := by
  match r, h with
  | .inl e, h => exact fun x hx y => h x (hx.tr hF) y
  | .inr (f1, p1, v1), h => exact fun I2 L2 Y b1 a1 a2 a3 a4 a5 a6 a7 a8 a9 => h I2 L2 Y b1 a1 (hF.tr a2) (fun q hq => ⟨(a3 q hq).1.trans (hc q hq).1, (a3 q hq).2.trans (hc q hq).2⟩) a4 a5 a6 a7 a8 a9
theorem MP.lv {Gp : Nat → wI → wL → Prop} {tp : Nat → Nat} {t : Nat} {lw : Bool} {I : wI} {L : wL} {X : List (Nat × Nat)} {b br z lv lv2 f : Nat} {sd : Nat → Prop} {r : Res} (h : MP Gp tp t lw I L X b br z lv f sd r) (hl : lv ≤ lv2) : MP Gp tp t lw I L X b br z lv2 f sd r := by
  match r, h with
  | .inl e, h => exact h
  | .inr (f1, p1, v1), h => exact fun I2 L2 Y b1 a1 a2 a3 a4 a5 a6 a7 a8 a9 => h I2 L2 Y b1 a1 a2 a3 a4 (BG.mono hl Y a5) a6 a7 a8 a9
theorem MP.bd {Gp : Nat → wI → wL → Prop} {tp : Nat → Nat} {t : Nat} {lw : Bool} {I : wI} {L : wL} {X X2 : List (Nat × Nat)} {b b2 br br2 z z2 lv lv2 f f2 : Nat} {sd sd2 : Nat → Prop} {r : Res} {k : Nat → Nat → Den → Res} (h : MP Gp tp t lw I L X b br z lv f sd (rb r k))
    (hk : ∀ (f1 p1 : Nat) (v1 : Den), MP Gp tp t lw I L X b br z lv f sd (k f1 p1 v1) → ∀ (I2 : wI) (L2 : wL) (Y : List (Nat × Nat)) (b1 : Nat), PSt I2 L2 tp t lw (X2 ++ Y) b1 p1 br2 f1 → FP I L I2 L2 → (∀ q, q < b2 → I2 81 q = I 81 q ∧ I2 82 q = I 82 q) → PD (opF I2) (agF I2) Y b2 b1 v1 → BG lv2 Y → b1 + X2.length + Y.length + 1 ≤ f1 → f2 < f1 → p1 ≤ 50 → sd2 f1 → Gp z2 I2 L2) :
    MP Gp tp t lw I L X2 b2 br2 z2 lv2 f2 sd2 r := by
  match r, h with
  | .inl e, h => exact h
  | .inr (f1, p1, v1), h => exact hk f1 p1 v1 h
theorem BG7 : ∀ (Y : List (Nat × Nat)), BG 7 Y → Y = []
  | [], _ => rfl
  | (o, j) :: Y, h => by have h1 : 7 ≤ bnd o := h.1; have := bnd_le o; omega
theorem opF_cg {I I2 : wI} {a b : Nat} {v : Den} (h : SG (opF I) (agF I) a b v) (hc : ∀ q, q < b → I2 81 q = I 81 q ∧ I2 82 q = I 82 q) : SG (opF I2) (agF I2) a b v := SG.cg h (fun k _ k2 => ⟨congrArg Int32.toNatClampNeg (hc k k2).1, congrArg Int32.toNatClampNeg (hc k k2).2⟩)
theorem addO_or {c : Nat} (h : addO c ≠ 0) : c = 43 ∧ addO c = 20 ∨ c = 45 ∧ addO c = 21 := by
  by_cases a : c = 43
  · exact Or.inl ⟨a, by subst a; rfl⟩
  · by_cases b : c = 45
    · exact Or.inr ⟨b, by subst b; rfl⟩
    · exact absurd (by unfold addO; rw [if_neg a, if_neg b]) h
theorem mulO_or {c : Nat} (h : mulO c ≠ 0) : c = 42 ∧ mulO c = 22 ∨ c = 47 ∧ mulO c = 23 ∨ c = 37 ∧ mulO c = 24 := by
  by_cases a : c = 42
  · exact Or.inl ⟨a, by subst a; rfl⟩
  · by_cases b : c = 47
    · exact Or.inr (Or.inl ⟨b, by subst b; rfl⟩)
    · by_cases e : c = 37
      · exact Or.inr (Or.inr ⟨e, by subst e; rfl⟩)
      · exact absurd (by unfold mulO; rw [if_neg a, if_neg b, if_neg e]) h
theorem cmpO_or {c : Nat} (h : cmpO c ≠ 0) : c = 60 ∧ cmpO c = 25 ∨ c = 62 ∧ cmpO c = 26 ∨ c = 61 ∧ cmpO c = 27 := by
  by_cases a : c = 60
  · exact Or.inl ⟨a, by subst a; rfl⟩
  · by_cases b : c = 62
    · exact Or.inr (Or.inl ⟨b, by subst b; rfl⟩)
    · by_cases e : c = 61
      · exact Or.inr (Or.inr ⟨e, by subst e; rfl⟩)
      · exact absurd (by unfold cmpO; rw [if_neg a, if_neg b, if_neg e]) h
theorem TB.top {X : List (Nat × Nat)} {o j r : Nat} (h : bnd o < r) : TB (X ++ [(o, j)]) r := Or.inr ⟨X, o, j, rfl, h⟩
abbrev sdA (tp : Nat → Nat) (t f : Nat) : Prop := addO (sg tp t f) = 0 ∧ mulO (sg tp t f) = 0
abbrev sdM (tp : Nat → Nat) (t f : Nat) : Prop := mulO (sg tp t f) = 0
abbrev sdN (tp : Nat → Nat) (t f : Nat) : Prop := ¬ iw tp t f 1476
abbrev sdO (tp : Nat → Nat) (t f : Nat) : Prop := ¬ iw tp t f 1476 ∧ ¬ iw tp t f 498
abbrev sdT (_f : Nat) : Prop := True
def T6 (l : Launch) (K : cK) (d : Nat) (R : wR) (dy : cH) (Q : Option Value → cH → Prop) (te : Int32) (tp : Nat → Nat) (t : Nat) (lw : Bool) (n : Nat) : Prop := ∀ (br pa f : Nat) (v : Den) (I : wI) (L : wL) (X : List (Nat × Nat)) (b y : Nat), 8 * (t - f) + 1 ≤ n → PSt I L tp t lw X b pa br f → b + X.length + 1 ≤ f → pa ≤ 50 → br ≤ 8 → EN tp t y f → MP (GX l K d R dy Q te) tp t lw I L X b br 3 7 f (sdT) (pz tp t lw n 6 br pa f v) → GX l K d R dy Q te y I L
def T5 (l : Launch) (K : cK) (d : Nat) (R : wR) (dy : cH) (Q : Option Value → cH → Prop) (te : Int32) (tp : Nat → Nat) (t : Nat) (lw : Bool) (n : Nat) : Prop := ∀ (br pa f : Nat) (v : Den) (I : wI) (L : wL) (X : List (Nat × Nat)) (b y : Nat), 8 * (t - f) + 2 ≤ n → PSt I L tp t lw X b pa br f → b + X.length + 1 ≤ f → pa ≤ 50 → br ≤ 8 → EN tp t y f → TB X 6 → MP (GX l K d R dy Q te) tp t lw I L X b br 3 6 f (sdM tp t) (pz tp t lw n 5 br pa f v) → GX l K d R dy Q te y I L
def T4 (l : Launch) (K : cK) (d : Nat) (R : wR) (dy : cH) (Q : Option Value → cH → Prop) (te : Int32) (tp : Nat → Nat) (t : Nat) (lw : Bool) (n : Nat) : Prop := ∀ (br pa f : Nat) (v : Den) (I : wI) (L : wL) (X : List (Nat × Nat)) (b y : Nat), 8 * (t - f) + 3 ≤ n → PSt I L tp t lw X b pa br f → b + X.length + 1 ≤ f → pa ≤ 50 → br ≤ 8 → EN tp t y f → TB X 5 → MP (GX l K d R dy Q te) tp t lw I L X b br 3 5 f (sdA tp t) (pz tp t lw n 4 br pa f v) → GX l K d R dy Q te y I L
def T3 (l : Launch) (K : cK) (d : Nat) (R : wR) (dy : cH) (Q : Option Value → cH → Prop) (te : Int32) (tp : Nat → Nat) (t : Nat) (lw : Bool) (n : Nat) : Prop := ∀ (br pa f : Nat) (v : Den) (I : wI) (L : wL) (X : List (Nat × Nat)) (b y : Nat), 8 * (t - f) + 4 ≤ n → PSt I L tp t lw X b pa br f → b + X.length + 1 ≤ f → pa ≤ 50 → br ≤ 8 → EN tp t y f → TB X 4 → (ibX X = 0 ∨ ibX X = 31) → MP (GX l K d R dy Q te) tp t lw I L X b br 2 4 f (sdT) (pz tp t lw n 3 br pa f v) → GX l K d R dy Q te y I L
def T2 (l : Launch) (K : cK) (d : Nat) (R : wR) (dy : cH) (Q : Option Value → cH → Prop) (te : Int32) (tp : Nat → Nat) (t : Nat) (lw : Bool) (n : Nat) : Prop := ∀ (br pa f : Nat) (v : Den) (I : wI) (L : wL) (X : List (Nat × Nat)) (b y : Nat), 8 * (t - f) + 5 ≤ n → PSt I L tp t lw X b pa br f → b + X.length + 1 ≤ f → pa ≤ 50 → br ≤ 8 → y = 0 → TB X 4 → (ibX X = 0 ∨ ibX X = 31) → MP (GX l K d R dy Q te) tp t lw I L X b br 2 3 f (sdT) (pz tp t lw n 2 br pa f v) → GX l K d R dy Q te y I L
def T1 (l : Launch) (K : cK) (d : Nat) (R : wR) (dy : cH) (Q : Option Value → cH → Prop) (te : Int32) (tp : Nat → Nat) (t : Nat) (lw : Bool) (n : Nat) : Prop := ∀ (br pa f : Nat) (v : Den) (I : wI) (L : wL) (X : List (Nat × Nat)) (b y : Nat), 8 * (t - f) + 6 ≤ n → PSt I L tp t lw X b pa br f → b + X.length + 1 ≤ f → pa ≤ 50 → br ≤ 8 → y = 0 → TB X 2 → (ibX X = 0 ∨ ibX X = 31) → MP (GX l K d R dy Q te) tp t lw I L X b br 2 2 f (sdN tp t) (pz tp t lw n 1 br pa f v) → GX l K d R dy Q te y I L
def T0 (l : Launch) (K : cK) (d : Nat) (R : wR) (dy : cH) (Q : Option Value → cH → Prop) (te : Int32) (tp : Nat → Nat) (t : Nat) (lw : Bool) (n : Nat) : Prop := ∀ (br pa f : Nat) (v : Den) (I : wI) (L : wL) (X : List (Nat × Nat)) (b y : Nat), 8 * (t - f) + 7 ≤ n → PSt I L tp t lw X b pa br f → b + X.length + 1 ≤ f → pa ≤ 50 → br ≤ 8 → y = 0 → TB X 1 → (ibX X = 0 ∨ ibX X = 31) → MP (GX l K d R dy Q te) tp t lw I L X b br 2 1 f (sdO tp t) (pz tp t lw n 0 br pa f v) → GX l K d R dy Q te y I L
def T10 (l : Launch) (K : cK) (d : Nat) (R : wR) (dy : cH) (Q : Option Value → cH → Prop) (te : Int32) (tp : Nat → Nat) (t : Nat) (lw : Bool) (n : Nat) : Prop := ∀ (br pa f f0 : Nat) (v : Den) (I : wI) (L : wL) (X Y : List (Nat × Nat)) (b b1 : Nat), 8 * (t - f) + 1 ≤ n → PSt I L tp t lw (X ++ Y) b1 pa br f → b1 + X.length + Y.length + 1 ≤ f → pa ≤ 50 → br ≤ 8 → PD (opF I) (agF I) Y b b1 v → f0 < f → TB X 6 → BG 6 Y → MP (GX l K d R dy Q te) tp t lw I L X b br 3 6 f0 (sdM tp t) (pz tp t lw n 10 br pa f v) → GX l K d R dy Q te 3 I L
def T9 (l : Launch) (K : cK) (d : Nat) (R : wR) (dy : cH) (Q : Option Value → cH → Prop) (te : Int32) (tp : Nat → Nat) (t : Nat) (lw : Bool) (n : Nat) : Prop := ∀ (br pa f f0 : Nat) (v : Den) (I : wI) (L : wL) (X Y : List (Nat × Nat)) (b b1 : Nat), 8 * (t - f) + 1 ≤ n → PSt I L tp t lw (X ++ Y) b1 pa br f → b1 + X.length + Y.length + 1 ≤ f → pa ≤ 50 → br ≤ 8 → PD (opF I) (agF I) Y b b1 v → f0 < f → TB X 5 → BG 5 Y → mulO (sg tp t f) = 0 → MP (GX l K d R dy Q te) tp t lw I L X b br 3 5 f0 (sdA tp t) (pz tp t lw n 9 br pa f v) → GX l K d R dy Q te 3 I L
def T8 (l : Launch) (K : cK) (d : Nat) (R : wR) (dy : cH) (Q : Option Value → cH → Prop) (te : Int32) (tp : Nat → Nat) (t : Nat) (lw : Bool) (n : Nat) : Prop := ∀ (br pa f f0 : Nat) (v : Den) (I : wI) (L : wL) (X Y : List (Nat × Nat)) (b b1 : Nat), 8 * (t - f) + 1 ≤ n → PSt I L tp t lw (X ++ Y) b1 pa br f → b1 + X.length + Y.length + 1 ≤ f → pa ≤ 50 → br ≤ 8 → PD (opF I) (agF I) Y b b1 v → f0 < f → TB X 2 → BG 2 Y → (ibX X = 0 ∨ ibX X = 31) → MP (GX l K d R dy Q te) tp t lw I L X b br 2 2 f0 (sdN tp t) (pz tp t lw n 8 br pa f v) → GX l K d R dy Q te 2 I L
def T7 (l : Launch) (K : cK) (d : Nat) (R : wR) (dy : cH) (Q : Option Value → cH → Prop) (te : Int32) (tp : Nat → Nat) (t : Nat) (lw : Bool) (n : Nat) : Prop := ∀ (br pa f f0 : Nat) (v : Den) (I : wI) (L : wL) (X Y : List (Nat × Nat)) (b b1 : Nat), 8 * (t - f) + 1 ≤ n → PSt I L tp t lw (X ++ Y) b1 pa br f → b1 + X.length + Y.length + 1 ≤ f → pa ≤ 50 → br ≤ 8 → PD (opF I) (agF I) Y b b1 v → f0 < f → TB X 1 → BG 1 Y → ¬ iw tp t f 1476 → (ibX X = 0 ∨ ibX X = 31) → MP (GX l K d R dy Q te) tp t lw I L X b br 2 1 f0 (sdO tp t) (pz tp t lw n 7 br pa f v) → GX l K d R dy Q te 2 I L
theorem t6 {l : Launch} {K : cK} {d : Nat} {R : wR} {dy : cH} {Q : Option Value → cH → Prop} {te : Int32} {tp : Nat → Nat} {t : Nat} {lw : Bool} (hd : 6 ≤ d) {n : Nat} (h4 : T4 l K d R dy Q te tp t lw n) : T6 l K d R dy Q te tp t lw (n + 1) := by
  intro br pa f v I L X b y hn hS hB hpa hbr hE hM
  have hft := hS.2.1.1
  have hnx := nxt_le (tp := tp) hft
  have ht4 := hS.1.1
  rw [show pz tp t lw (n + 1) 6 br pa f v = if sg tp t f = 91 then (if br < 8 then rb (pz tp t lw n 4 (br + 1) pa (nxt tp t f) v) (fun f1 p1 v1 => if sg tp t f1 = 93 then .inr (nxt tp t f1, p1, v1) else .inl f1) else .inl f) else if (wpa tp t f lw 7 ≠ 0 ∨ num tp t f) ∧ pa < 50 then .inr (nxt tp t f, pa + 1, if num tp t f then (fun _ => some (lN (nu tp t f))) else (fun env => some (env (wpa tp t f lw 7)))) else .inl f from rfl] at hM
  by_cases hsg : sg tp t f = 91
  · rw [if_pos hsg] at hM
    have hk3 := sg_kd hsg (by decide)
    have hlt := hnx.2.2 (by omega)
    by_cases hb8 : br < 8
    · rw [if_pos hb8] at hM
      refine gxP hS hE hd 1 _ (r12_rp_b tp t lw X b pa br f hS (by omega) hsg hb8 (Nat.le_refl 4)) (fun x hx => ?_)
      obtain ⟨hx1, hx2, hx3⟩ := hx
      refine h4 (br + 1) pa (nxt tp t f) v x.1 x.2 (X ++ [(32, 0)]) b 1 (by omega) hx1 (by rw [List.length_append]; show b + (X.length + 1) + 1 ≤ _; omega) hpa (by omega) (Or.inl rfl) (TB.top (by decide)) ?_
      refine MP.bd (hM.tr hx2 (fun q _ => hx3 q)) (fun f1 p1 v1 hk I2 L2 Y b1 a1 a2 a3 a4 a5 a6 a7 a8 a9 => ?_)
      have hib : ibX (X ++ [(32, 0)] ++ Y) = 32 := by rw [ibX_BG _ Y.length Y rfl (a5.mono (by decide) Y), ibX_snoc]; rfl
      by_cases hs2 : sg tp t f1 = 93
      · rw [if_pos hs2] at hk
        refine gx3n a1.2.2.2.1 hd 3 _ (r12_bs_sh tp t lw (X ++ [(32, 0)]) Y b b1 p1 (br + 1) f1 v1 a1 1 a6 a9.1 a9.2 hib te X rfl (by omega) hs2 a5 a4 (Nat.le_refl 3)) (fun z hz => ?_)
        obtain ⟨z1, z2, z3, z4, z5⟩ := hz
        have hnx1 := (nxt_le (tp := tp) a1.2.1.1).2.2 (by rw [sg_kd hs2 (by decide)]; decide)
        exact hk z.1 z.2.1 [] z.2.2 (by rw [List.append_nil]; exact z1) (a2.tr z2) (fun q hq => ⟨(z5 q hq).1.trans (a3 q hq).1, (z5 q hq).2.trans (a3 q hq).2⟩) z3 trivial z4 (by omega) a8 trivial
      · rw [if_neg hs2] at hk
        exact gx3 a1.2.2.2.1 hd 3 _ (r12_bs_shn tp t lw (X ++ [(32, 0)]) Y b b1 p1 (br + 1) f1 v1 a1 1 a6 a9.1 a9.2 hib te hs2 (Nat.le_refl 3)) (fun z hz => hk z (hz.tr a2) 3)
    · rw [if_neg hb8] at hM
      exact gxP hS hE hd 1 _ (r12_rp_bn tp t lw X b pa br f hS (by omega) hsg hb8 hbr (Nat.le_refl 4)) (fun x hx => hM x hx 1)
  · rw [if_neg hsg] at hM
    by_cases hp5 : pa < 50
    · by_cases hnum : num tp t f
      · rw [if_pos ⟨Or.inr hnum, hp5⟩, if_pos hnum] at hM
        refine gxP hS hE hd 3 _ (r12_rp_d tp t lw X b pa br f hS (by omega) hsg hnum hp5 (Nat.le_refl 4)) (fun x hx => ?_)
        obtain ⟨x1, x2, x3, x4, x5⟩ := hx
        have hlt := hnx.2.2 (by rw [hnum.1]; decide)
        have e1 : opF x.1 b = 0 := by unfold opF; rw [x4]; rfl
        have e2 : agF x.1 b = nu tp t f := by unfold agF; rw [x5]; exact nI_tc (by have := hnum.2; omega)
        refine hM x.1 x.2 [] (b + 1) (by rw [List.append_nil]; exact x1) x2 (fun q hq => x3 q (by omega)) ?_ trivial (by show b + 1 + X.length + 0 + 1 ≤ _; omega) hlt (by omega) trivial
        have := SG.leaf (op := opF x.1) (arg := agF x.1) (a := b) (by omega)
        rw [e1, e2] at this
        exact this
      · by_cases hw : wpa tp t f lw 7 = 0
        · rw [if_neg (fun z => by rcases z.1 with h | h; exact h hw; exact hnum h)] at hM
          exact gxP hS hE hd 3 _ (r12_rp_n tp t lw X b pa br f hS (by omega) hsg hw hnum (Nat.le_refl 4)) (fun x hx => hM x hx 3)
        · rw [if_pos ⟨Or.inl hw, hp5⟩, if_neg hnum] at hM
          refine gxP hS hE hd 3 _ (r12_rp_w tp t lw X b pa br f hS (by omega) hsg hw hp5 (Nat.le_refl 4)) (fun x hx => ?_)
          obtain ⟨x1, x2, x3, x4, x5⟩ := hx
          have hlt := hnx.2.2 (by rw [wpa_kd 7 hw]; decide)
          have h7 := wpa_le tp t f lw 7
          have e1 : opF x.1 b = wpa tp t f lw 7 := by unfold opF; rw [x4]; exact nI_tc (by omega)
          refine hM x.1 x.2 [] (b + 1) (by rw [List.append_nil]; exact x1) x2 (fun q hq => x3 q (by omega)) ?_ trivial (by show b + 1 + X.length + 0 + 1 ≤ _; omega) hlt (by omega) trivial
          have := SG.leaf (op := opF x.1) (arg := agF x.1) (a := b) (by omega)
          rw [e1] at this
          simp only [if_neg hw] at this
          exact this
    · rw [if_neg (fun z => hp5 z.2)] at hM
      by_cases hnum : num tp t f
      · exact gxP hS hE hd 3 _ (r12_rp_dn tp t lw X b pa br f hS (by omega) hsg hnum hp5 hpa (Nat.le_refl 4)) (fun x hx => hM x hx 3)
      · by_cases hw : wpa tp t f lw 7 = 0
        · exact gxP hS hE hd 3 _ (r12_rp_n tp t lw X b pa br f hS (by omega) hsg hw hnum (Nat.le_refl 4)) (fun x hx => hM x hx 3)
        · exact gxP hS hE hd 3 _ (r12_rp_wn tp t lw X b pa br f hS (by omega) hsg hw hp5 hpa (Nat.le_refl 4)) (fun x hx => hM x hx 3)
theorem t10 {l : Launch} {K : cK} {d : Nat} {R : wR} {dy : cH} {Q : Option Value → cH → Prop} {te : Int32} {tp : Nat → Nat} {t : Nat} {lw : Bool} (hd : 6 ≤ d) {n : Nat} (h6 : T6 l K d R dy Q te tp t lw n) (h10 : T10 l K d R dy Q te tp t lw n) : T10 l K d R dy Q te tp t lw (n + 1) := by
  intro br pa f f0 v I L X Y b b1 hn hS hB hpa hbr hPD hf0 hTB hBG hM
  have hft := hS.2.1.1
  have hnx := nxt_le (tp := tp) hft
  rw [show pz tp t lw (n + 1) 10 br pa f v = if mulO (sg tp t f) = 0 then .inr (f, pa, v) else rb (pz tp t lw n 6 br pa (nxt tp t f) v) (fun f1 p1 v1 => pz tp t lw n 10 br p1 f1 (binD (mulO (sg tp t f)) v v1)) from rfl] at hM
  by_cases ho : mulO (sg tp t f) = 0
  · rw [if_pos ho] at hM
    exact hM I L Y b1 hS FR.rf (fun _ _ => ⟨rfl, rfl⟩) hPD hBG hB hf0 hpa ho
  · rw [if_neg ho] at hM
    have hlt := hnx.2.2 (fun z => ho (by rw [kd_sg (by omega)]; rfl))
    rcases mulO_or ho with ⟨hsg, he⟩ | ⟨hsg, he⟩ | ⟨hsg, he⟩
    · rw [he] at hM
      refine gx3n hS.2.2.2.1 hd 1 _ (r12_bs_22 tp t lw X Y b b1 pa br f v hS 1 hB hsg hTB hBG hPD te (Nat.le_refl 3)) (fun x hx => ?_)
      obtain ⟨x1, x2, x3, x4, x5⟩ := hx
      refine h6 br pa (nxt tp t f) v x.1 x.2.1 (X ++ [(22, 0)]) x.2.2 1 (by omega) x1 (by rw [List.length_append]; show x.2.2 + (X.length + 1) + 1 ≤ _; omega) hpa hbr (Or.inl rfl) ?_
      refine MP.bd (hM.tr x2 x5) (fun f1 p1 v1 hk I2 L2 Y2 b2 a1 a2 a3 a4 a5 a6 a7 a8 a9 => ?_)
      have hx0 : b < x.2.2 := x3.1
      rw [List.append_assoc] at a1
      refine h10 br p1 f1 f0 _ I2 L2 X ((22, 0) :: Y2) b b2 (by omega) a1 (by rw [List.length_append] at a6; show b2 + X.length + (Y2.length + 1) + 1 ≤ f1; have : X.length + [(22, 0)].length = X.length + 1 := rfl; omega) a8 hbr (Or.inl ⟨by decide, by decide, x.2.2, v, v1, opF_cg x3 a3, a4, rfl⟩) (by omega) hTB ⟨by decide, a5.mono (by decide) Y2⟩ (hk.tr a2 (fun q hq => a3 q (by omega)))
    · rw [he] at hM
      refine gx3n hS.2.2.2.1 hd 1 _ (r12_bs_23 tp t lw X Y b b1 pa br f v hS 1 hB hsg hTB hBG hPD te (Nat.le_refl 3)) (fun x hx => ?_)
      obtain ⟨x1, x2, x3, x4, x5⟩ := hx
      refine h6 br pa (nxt tp t f) v x.1 x.2.1 (X ++ [(23, 0)]) x.2.2 1 (by omega) x1 (by rw [List.length_append]; show x.2.2 + (X.length + 1) + 1 ≤ _; omega) hpa hbr (Or.inl rfl) ?_
      refine MP.bd (hM.tr x2 x5) (fun f1 p1 v1 hk I2 L2 Y2 b2 a1 a2 a3 a4 a5 a6 a7 a8 a9 => ?_)
      have hx0 : b < x.2.2 := x3.1
      rw [List.append_assoc] at a1
      refine h10 br p1 f1 f0 _ I2 L2 X ((23, 0) :: Y2) b b2 (by omega) a1 (by rw [List.length_append] at a6; show b2 + X.length + (Y2.length + 1) + 1 ≤ f1; have : X.length + [(23, 0)].length = X.length + 1 := rfl; omega) a8 hbr (Or.inl ⟨by decide, by decide, x.2.2, v, v1, opF_cg x3 a3, a4, rfl⟩) (by omega) hTB ⟨by decide, a5.mono (by decide) Y2⟩ (hk.tr a2 (fun q hq => a3 q (by omega)))
    · rw [he] at hM
      refine gx3n hS.2.2.2.1 hd 1 _ (r12_bs_24 tp t lw X Y b b1 pa br f v hS 1 hB hsg hTB hBG hPD te (Nat.le_refl 3)) (fun x hx => ?_)
      obtain ⟨x1, x2, x3, x4, x5⟩ := hx
      refine h6 br pa (nxt tp t f) v x.1 x.2.1 (X ++ [(24, 0)]) x.2.2 1 (by omega) x1 (by rw [List.length_append]; show x.2.2 + (X.length + 1) + 1 ≤ _; omega) hpa hbr (Or.inl rfl) ?_
      refine MP.bd (hM.tr x2 x5) (fun f1 p1 v1 hk I2 L2 Y2 b2 a1 a2 a3 a4 a5 a6 a7 a8 a9 => ?_)
      have hx0 : b < x.2.2 := x3.1
      rw [List.append_assoc] at a1
      refine h10 br p1 f1 f0 _ I2 L2 X ((24, 0) :: Y2) b b2 (by omega) a1 (by rw [List.length_append] at a6; show b2 + X.length + (Y2.length + 1) + 1 ≤ f1; have : X.length + [(24, 0)].length = X.length + 1 := rfl; omega) a8 hbr (Or.inl ⟨by decide, by decide, x.2.2, v, v1, opF_cg x3 a3, a4, rfl⟩) (by omega) hTB ⟨by decide, a5.mono (by decide) Y2⟩ (hk.tr a2 (fun q hq => a3 q (by omega)))
theorem t9 {l : Launch} {K : cK} {d : Nat} {R : wR} {dy : cH} {Q : Option Value → cH → Prop} {te : Int32} {tp : Nat → Nat} {t : Nat} {lw : Bool} (hd : 6 ≤ d) {n : Nat} (h5 : T5 l K d R dy Q te tp t lw n) (h9 : T9 l K d R dy Q te tp t lw n) : T9 l K d R dy Q te tp t lw (n + 1) := by
  intro br pa f f0 v I L X Y b b1 hn hS hB hpa hbr hPD hf0 hTB hBG hmu hM
  have hft := hS.2.1.1
  have hnx := nxt_le (tp := tp) hft
  rw [show pz tp t lw (n + 1) 9 br pa f v = if addO (sg tp t f) = 0 then .inr (f, pa, v) else rb (pz tp t lw n 5 br pa (nxt tp t f) v) (fun f1 p1 v1 => pz tp t lw n 9 br p1 f1 (binD (addO (sg tp t f)) v v1)) from rfl] at hM
  by_cases ho : addO (sg tp t f) = 0
  · rw [if_pos ho] at hM
    exact hM I L Y b1 hS FR.rf (fun _ _ => ⟨rfl, rfl⟩) hPD hBG hB hf0 hpa ⟨ho, hmu⟩
  · rw [if_neg ho] at hM
    have hlt := hnx.2.2 (fun z => ho (by rw [kd_sg (by omega)]; rfl))
    rcases addO_or ho with ⟨hsg, he⟩ | ⟨hsg, he⟩
    · rw [he] at hM
      refine gx3n hS.2.2.2.1 hd 1 _ (r12_bs_20 tp t lw X Y b b1 pa br f v hS 1 hB hsg hTB hBG hPD te (Nat.le_refl 3)) (fun x hx => ?_)
      obtain ⟨x1, x2, x3, x4, x5⟩ := hx
      refine h5 br pa (nxt tp t f) v x.1 x.2.1 (X ++ [(20, 0)]) x.2.2 1 (by omega) x1 (by rw [List.length_append]; show x.2.2 + (X.length + 1) + 1 ≤ _; omega) hpa hbr (Or.inl rfl) (TB.top (by decide)) ?_
      refine MP.bd (hM.tr x2 x5) (fun f1 p1 v1 hk I2 L2 Y2 b2 a1 a2 a3 a4 a5 a6 a7 a8 a9 => ?_)
      have hx0 : b < x.2.2 := x3.1
      rw [List.append_assoc] at a1
      refine h9 br p1 f1 f0 _ I2 L2 X ((20, 0) :: Y2) b b2 (by omega) a1 (by rw [List.length_append] at a6; show b2 + X.length + (Y2.length + 1) + 1 ≤ f1; have : X.length + [(20, 0)].length = X.length + 1 := rfl; omega) a8 hbr (Or.inl ⟨by decide, by decide, x.2.2, v, v1, opF_cg x3 a3, a4, rfl⟩) (by omega) hTB ⟨by decide, a5.mono (by decide) Y2⟩ a9 (hk.tr a2 (fun q hq => a3 q (by omega)))
    · rw [he] at hM
      refine gx3n hS.2.2.2.1 hd 1 _ (r12_bs_21 tp t lw X Y b b1 pa br f v hS 1 hB hsg hTB hBG hPD te (Nat.le_refl 3)) (fun x hx => ?_)
      obtain ⟨x1, x2, x3, x4, x5⟩ := hx
      refine h5 br pa (nxt tp t f) v x.1 x.2.1 (X ++ [(21, 0)]) x.2.2 1 (by omega) x1 (by rw [List.length_append]; show x.2.2 + (X.length + 1) + 1 ≤ _; omega) hpa hbr (Or.inl rfl) (TB.top (by decide)) ?_
      refine MP.bd (hM.tr x2 x5) (fun f1 p1 v1 hk I2 L2 Y2 b2 a1 a2 a3 a4 a5 a6 a7 a8 a9 => ?_)
      have hx0 : b < x.2.2 := x3.1
      rw [List.append_assoc] at a1
      refine h9 br p1 f1 f0 _ I2 L2 X ((21, 0) :: Y2) b b2 (by omega) a1 (by rw [List.length_append] at a6; show b2 + X.length + (Y2.length + 1) + 1 ≤ f1; have : X.length + [(21, 0)].length = X.length + 1 := rfl; omega) a8 hbr (Or.inl ⟨by decide, by decide, x.2.2, v, v1, opF_cg x3 a3, a4, rfl⟩) (by omega) hTB ⟨by decide, a5.mono (by decide) Y2⟩ a9 (hk.tr a2 (fun q hq => a3 q (by omega)))
theorem t5 {l : Launch} {K : cK} {d : Nat} {R : wR} {dy : cH} {Q : Option Value → cH → Prop} {te : Int32} {tp : Nat → Nat} {t : Nat} {lw : Bool} (hd : 6 ≤ d) {n : Nat} (h6 : T6 l K d R dy Q te tp t lw n) (h10 : T10 l K d R dy Q te tp t lw n) : T5 l K d R dy Q te tp t lw (n + 1) := by
  intro br pa f v I L X b y hn hS hB hpa hbr hE hTB hM
  rw [show pz tp t lw (n + 1) 5 br pa f v = rb (pz tp t lw n 6 br pa f v) (fun f1 p1 v1 => pz tp t lw n 10 br p1 f1 v1) from rfl] at hM
  refine h6 br pa f v I L X b y (by omega) hS hB hpa hbr hE (MP.bd hM (fun f1 p1 v1 hk I2 L2 Y b1 a1 a2 a3 a4 a5 a6 a7 a8 a9 => ?_))
  exact h10 br p1 f1 f v1 I2 L2 X Y b b1 (by omega) a1 a6 a8 hbr a4 a7 hTB (a5.mono (by decide) Y) (hk.tr a2 a3)
theorem t4 {l : Launch} {K : cK} {d : Nat} {R : wR} {dy : cH} {Q : Option Value → cH → Prop} {te : Int32} {tp : Nat → Nat} {t : Nat} {lw : Bool} (hd : 6 ≤ d) {n : Nat} (h5 : T5 l K d R dy Q te tp t lw n) (h9 : T9 l K d R dy Q te tp t lw n) : T4 l K d R dy Q te tp t lw (n + 1) := by
  intro br pa f v I L X b y hn hS hB hpa hbr hE hTB hM
  rw [show pz tp t lw (n + 1) 4 br pa f v = rb (pz tp t lw n 5 br pa f v) (fun f1 p1 v1 => pz tp t lw n 9 br p1 f1 v1) from rfl] at hM
  refine h5 br pa f v I L X b y (by omega) hS hB hpa hbr hE (hTB.mono (by decide)) (MP.bd hM (fun f1 p1 v1 hk I2 L2 Y b1 a1 a2 a3 a4 a5 a6 a7 a8 a9 => ?_))
  exact h9 br p1 f1 f v1 I2 L2 X Y b b1 (by omega) a1 a6 a8 hbr a4 a7 hTB (a5.mono (by decide) Y) a9 (hk.tr a2 a3)
theorem t3 {l : Launch} {K : cK} {d : Nat} {R : wR} {dy : cH} {Q : Option Value → cH → Prop} {te : Int32} {tp : Nat → Nat} {t : Nat} {lw : Bool} (hd : 6 ≤ d) (hte : te = nI 1) {n : Nat} (h4 : T4 l K d R dy Q te tp t lw n) : T3 l K d R dy Q te tp t lw (n + 1) := by
  intro br pa f v I L X b y hn hS hB hpa hbr hE hTB hib hM
  subst hte
  rw [show pz tp t lw (n + 1) 3 br pa f v = rb (pz tp t lw n 4 br pa f v) (fun f1 p1 v1 => if cmpO (sg tp t f1) = 0 then .inl f1 else rb (pz tp t lw n 4 br p1 (nxt tp t f1) v) (fun f2 p2 v2 => .inr (f2, p2, binD (cmpO (sg tp t f1)) v1 v2))) from rfl] at hM
  refine h4 br pa f v I L X b y (by omega) hS hB hpa hbr hE (hTB.mono (by decide)) (MP.bd hM (fun f1 p1 v1 hk I2 L2 Y b1 a1 a2 a3 a4 a5 a6 a7 a8 a9 => ?_))
  have hin : ibX (X ++ Y) = ibX X := ibX_BG X Y.length Y rfl (a5.mono (by decide) Y)
  have a10 := a1.2.2.2.2.2.2.2.2.2
  have hcp : icX (X ++ Y) = false := by
    rw [icX_BG X Y.length Y rfl a5 (fun p hp => PQ.ge _ a10 p (List.mem_append_right _ hp))]
    exact hTB.ic (fun p hp => PQ.ge _ a10 p (List.mem_append_left _ hp))
  have hnx := nxt_le (tp := tp) a1.2.1.1
  by_cases ho : cmpO (sg tp t f1) = 0
  · rw [if_pos ho] at hk
    rcases hib with hib | hib
    · exact gx3 a1.2.2.2.1 hd 1 _ (r12_bs_na tp t lw X Y b b1 p1 br f1 v1 a1 1 a6 a9.1 a9.2 (hin.trans hib) hcp ho (Nat.le_refl 3)) (fun z hz => hk z (hz.tr a2) 1)
    · exact gx3 a1.2.2.2.1 hd 1 _ (r12_bs_nb tp t lw X Y b b1 p1 br f1 v1 a1 1 a6 a9.1 a9.2 (hin.trans hib) hcp ho (Nat.le_refl 3)) (fun z hz => hk z (hz.tr a2) 1)
  · rw [if_neg ho] at hk
    have hlt := hnx.2.2 (fun z => ho (by rw [kd_sg (by omega)]; rfl))
    rcases cmpO_or ho with ⟨hsg, he⟩ | ⟨hsg, he⟩ | ⟨hsg, he⟩
    · rw [he] at hk
      have hgo : ∀ x : wI × wL × Nat, PSt x.1 x.2.1 tp t lw (X ++ [(25, 0)]) x.2.2 p1 br (nxt tp t f1) ∧ FP I2 L2 x.1 x.2.1 ∧ SG (opF x.1) (agF x.1) b x.2.2 v1 ∧ x.2.2 + X.length + 1 + 1 ≤ nxt tp t f1 ∧ (∀ k, k < b → x.1 81 k = I2 81 k ∧ x.1 82 k = I2 82 k) → GX l K d R dy Q (nI 1) 1 x.1 x.2.1 := by
        rintro x ⟨x1, x2, x3, x4, x5⟩
        refine h4 br p1 (nxt tp t f1) v x.1 x.2.1 (X ++ [(25, 0)]) x.2.2 1 (by omega) x1 (by rw [List.length_append]; show x.2.2 + (X.length + 1) + 1 ≤ _; omega) a8 hbr (Or.inl rfl) (TB.top (by decide)) ?_
        refine MP.bd ((hk.tr a2 a3).tr x2 x5) (fun f2 p2 v2 hk2 I3 L3 Y2 b2 c1 c2 c3 c4 c5 c6 c7 c8 c9 => ?_)
        have hx0 : b < x.2.2 := x3.1
        have c10 := c1.2.2.2.2.2.2.2.2.2
        have hcp2 : icX (X ++ [(25, 0)] ++ Y2) = true := by
          rw [icX_BG _ Y2.length Y2 rfl c5 (fun p hp => PQ.ge _ c10 p (List.mem_append_right _ hp)), icX_snoc]; rfl
        have hin2 : ibX (X ++ [(25, 0)] ++ Y2) = ibX X := by rw [ibX_BG _ Y2.length Y2 rfl (c5.mono (by decide) Y2), ibX_snoc]; rfl
        have hend : GX l K d R dy Q (nI 1) 2 I3 L3 := by
          rw [List.append_assoc] at c1
          refine hk2 I3 L3 ((25, 0) :: Y2) b2 c1 c2 (fun q hq => c3 q (by omega)) (Or.inl ⟨by decide, by decide, x.2.2, v1, v2, opF_cg x3 c3, c4, rfl⟩) ⟨by decide, c5.mono (by decide) Y2⟩ (by rw [List.length_append] at c6; show b2 + X.length + (Y2.length + 1) + 1 ≤ f2; have : X.length + [(25, 0)].length = X.length + 1 := rfl; omega) (by omega) c8 trivial
        rcases hib with hib | hib
        · exact gx3e c1.2.2.2.1 hd 2 (r12_bs_ca tp t lw _ Y2 x.2.2 b2 p2 br f2 v2 c1 1 c6 c9.1 c9.2 (hin2.trans hib) hcp2 (Nat.le_refl 3)) hend
        · exact gx3e c1.2.2.2.1 hd 2 (r12_bs_cb tp t lw _ Y2 x.2.2 b2 p2 br f2 v2 c1 1 c6 c9.1 c9.2 (hin2.trans hib) hcp2 (Nat.le_refl 3)) hend
      rcases hib with hib | hib
      · exact gx3n a1.2.2.2.1 hd 1 _ (r12_bs_25a tp t lw X Y b b1 p1 br f1 v1 a1 1 a6 a9.1 a9.2 (hin.trans hib) hcp hsg (hTB.mono (by decide)) a5 a4 (Nat.le_refl 3)) hgo
      · exact gx3n a1.2.2.2.1 hd 1 _ (r12_bs_25b tp t lw X Y b b1 p1 br f1 v1 a1 1 a6 a9.1 a9.2 (hin.trans hib) hcp hsg (hTB.mono (by decide)) a5 a4 (Nat.le_refl 3)) hgo
    · rw [he] at hk
      have hgo : ∀ x : wI × wL × Nat, PSt x.1 x.2.1 tp t lw (X ++ [(26, 0)]) x.2.2 p1 br (nxt tp t f1) ∧ FP I2 L2 x.1 x.2.1 ∧ SG (opF x.1) (agF x.1) b x.2.2 v1 ∧ x.2.2 + X.length + 1 + 1 ≤ nxt tp t f1 ∧ (∀ k, k < b → x.1 81 k = I2 81 k ∧ x.1 82 k = I2 82 k) → GX l K d R dy Q (nI 1) 1 x.1 x.2.1 := by
        rintro x ⟨x1, x2, x3, x4, x5⟩
        refine h4 br p1 (nxt tp t f1) v x.1 x.2.1 (X ++ [(26, 0)]) x.2.2 1 (by omega) x1 (by rw [List.length_append]; show x.2.2 + (X.length + 1) + 1 ≤ _; omega) a8 hbr (Or.inl rfl) (TB.top (by decide)) ?_
        refine MP.bd ((hk.tr a2 a3).tr x2 x5) (fun f2 p2 v2 hk2 I3 L3 Y2 b2 c1 c2 c3 c4 c5 c6 c7 c8 c9 => ?_)
        have hx0 : b < x.2.2 := x3.1
        have c10 := c1.2.2.2.2.2.2.2.2.2
        have hcp2 : icX (X ++ [(26, 0)] ++ Y2) = true := by
          rw [icX_BG _ Y2.length Y2 rfl c5 (fun p hp => PQ.ge _ c10 p (List.mem_append_right _ hp)), icX_snoc]; rfl
        have hin2 : ibX (X ++ [(26, 0)] ++ Y2) = ibX X := by rw [ibX_BG _ Y2.length Y2 rfl (c5.mono (by decide) Y2), ibX_snoc]; rfl
        have hend : GX l K d R dy Q (nI 1) 2 I3 L3 := by
          rw [List.append_assoc] at c1
          refine hk2 I3 L3 ((26, 0) :: Y2) b2 c1 c2 (fun q hq => c3 q (by omega)) (Or.inl ⟨by decide, by decide, x.2.2, v1, v2, opF_cg x3 c3, c4, rfl⟩) ⟨by decide, c5.mono (by decide) Y2⟩ (by rw [List.length_append] at c6; show b2 + X.length + (Y2.length + 1) + 1 ≤ f2; have : X.length + [(26, 0)].length = X.length + 1 := rfl; omega) (by omega) c8 trivial
        rcases hib with hib | hib
        · exact gx3e c1.2.2.2.1 hd 2 (r12_bs_ca tp t lw _ Y2 x.2.2 b2 p2 br f2 v2 c1 1 c6 c9.1 c9.2 (hin2.trans hib) hcp2 (Nat.le_refl 3)) hend
        · exact gx3e c1.2.2.2.1 hd 2 (r12_bs_cb tp t lw _ Y2 x.2.2 b2 p2 br f2 v2 c1 1 c6 c9.1 c9.2 (hin2.trans hib) hcp2 (Nat.le_refl 3)) hend
      rcases hib with hib | hib
      · exact gx3n a1.2.2.2.1 hd 1 _ (r12_bs_26a tp t lw X Y b b1 p1 br f1 v1 a1 1 a6 a9.1 a9.2 (hin.trans hib) hcp hsg (hTB.mono (by decide)) a5 a4 (Nat.le_refl 3)) hgo
      · exact gx3n a1.2.2.2.1 hd 1 _ (r12_bs_26b tp t lw X Y b b1 p1 br f1 v1 a1 1 a6 a9.1 a9.2 (hin.trans hib) hcp hsg (hTB.mono (by decide)) a5 a4 (Nat.le_refl 3)) hgo
    · rw [he] at hk
      have hgo : ∀ x : wI × wL × Nat, PSt x.1 x.2.1 tp t lw (X ++ [(27, 0)]) x.2.2 p1 br (nxt tp t f1) ∧ FP I2 L2 x.1 x.2.1 ∧ SG (opF x.1) (agF x.1) b x.2.2 v1 ∧ x.2.2 + X.length + 1 + 1 ≤ nxt tp t f1 ∧ (∀ k, k < b → x.1 81 k = I2 81 k ∧ x.1 82 k = I2 82 k) → GX l K d R dy Q (nI 1) 1 x.1 x.2.1 := by
        rintro x ⟨x1, x2, x3, x4, x5⟩
        refine h4 br p1 (nxt tp t f1) v x.1 x.2.1 (X ++ [(27, 0)]) x.2.2 1 (by omega) x1 (by rw [List.length_append]; show x.2.2 + (X.length + 1) + 1 ≤ _; omega) a8 hbr (Or.inl rfl) (TB.top (by decide)) ?_
        refine MP.bd ((hk.tr a2 a3).tr x2 x5) (fun f2 p2 v2 hk2 I3 L3 Y2 b2 c1 c2 c3 c4 c5 c6 c7 c8 c9 => ?_)
        have hx0 : b < x.2.2 := x3.1
        have c10 := c1.2.2.2.2.2.2.2.2.2
        have hcp2 : icX (X ++ [(27, 0)] ++ Y2) = true := by
          rw [icX_BG _ Y2.length Y2 rfl c5 (fun p hp => PQ.ge _ c10 p (List.mem_append_right _ hp)), icX_snoc]; rfl
        have hin2 : ibX (X ++ [(27, 0)] ++ Y2) = ibX X := by rw [ibX_BG _ Y2.length Y2 rfl (c5.mono (by decide) Y2), ibX_snoc]; rfl
        have hend : GX l K d R dy Q (nI 1) 2 I3 L3 := by
          rw [List.append_assoc] at c1
          refine hk2 I3 L3 ((27, 0) :: Y2) b2 c1 c2 (fun q hq => c3 q (by omega)) (Or.inl ⟨by decide, by decide, x.2.2, v1, v2, opF_cg x3 c3, c4, rfl⟩) ⟨by decide, c5.mono (by decide) Y2⟩ (by rw [List.length_append] at c6; show b2 + X.length + (Y2.length + 1) + 1 ≤ f2; have : X.length + [(27, 0)].length = X.length + 1 := rfl; omega) (by omega) c8 trivial
        rcases hib with hib | hib
        · exact gx3e c1.2.2.2.1 hd 2 (r12_bs_ca tp t lw _ Y2 x.2.2 b2 p2 br f2 v2 c1 1 c6 c9.1 c9.2 (hin2.trans hib) hcp2 (Nat.le_refl 3)) hend
        · exact gx3e c1.2.2.2.1 hd 2 (r12_bs_cb tp t lw _ Y2 x.2.2 b2 p2 br f2 v2 c1 1 c6 c9.1 c9.2 (hin2.trans hib) hcp2 (Nat.le_refl 3)) hend
      rcases hib with hib | hib
      · exact gx3n a1.2.2.2.1 hd 1 _ (r12_bs_27a tp t lw X Y b b1 p1 br f1 v1 a1 1 a6 a9.1 a9.2 (hin.trans hib) hcp hsg (hTB.mono (by decide)) a5 a4 (Nat.le_refl 3)) hgo
      · exact gx3n a1.2.2.2.1 hd 1 _ (r12_bs_27b tp t lw X Y b b1 p1 br f1 v1 a1 1 a6 a9.1 a9.2 (hin.trans hib) hcp hsg (hTB.mono (by decide)) a5 a4 (Nat.le_refl 3)) hgo
theorem t2 {l : Launch} {K : cK} {d : Nat} {R : wR} {dy : cH} {Q : Option Value → cH → Prop} {te : Int32} {tp : Nat → Nat} {t : Nat} {lw : Bool} (hd : 6 ≤ d) (hte : te = nI 1) {n : Nat} (h0 : T0 l K d R dy Q te tp t lw n) (h2 : T2 l K d R dy Q te tp t lw n) (h3 : T3 l K d R dy Q te tp t lw n) : T2 l K d R dy Q te tp t lw (n + 1) := by
  intro br pa f v I L X b y hn hS hB hpa hbr hE hTB hib hM
  subst hE
  have hnx := nxt_le (tp := tp) hS.2.1.1
  rw [show pz tp t lw (n + 1) 2 br pa f v = if iw tp t f 14836 then rb (pz tp t lw n 2 br pa (nxt tp t f) v) (fun f1 p1 v1 => .inr (f1, p1, notD v1))
      else if sg tp t f = 40 then (if br < 8 then rb (pz tp t lw n 0 (br + 1) pa (nxt tp t f) v) (fun f1 p1 v1 => if sg tp t f1 = 41 then .inr (nxt tp t f1, p1, v1) else .inl f1) else .inl f)
      else pz tp t lw n 3 br pa f v from rfl] at hM
  by_cases hiw : iw tp t f 14836
  · rw [if_pos hiw] at hM
    have hlt := hnx.2.2 (by rw [hiw.1]; decide)
    refine gx0 hS.2.2.2.1 hd 0 _ (r12_pl_n tp t lw X b pa br f hS (by omega) hiw (Nat.le_refl 5)) (fun x hx => ?_)
    obtain ⟨x1, x2, x3⟩ := hx
    refine h2 br pa (nxt tp t f) v x.1 x.2 (X ++ [(28, 0)]) b 0 (by omega) x1 (by rw [List.length_append]; show b + (X.length + 1) + 1 ≤ _; omega) hpa hbr rfl (TB.top (by decide)) (by rw [ibX_snoc]; exact hib) ?_
    refine MP.bd (hM.tr x2 (fun q _ => x3 q)) (fun f1 p1 v1 hk I2 L2 Y b1 a1 a2 a3 a4 a5 a6 a7 a8 a9 => ?_)
    rw [List.append_assoc] at a1
    exact hk I2 L2 ((28, 0) :: Y) b1 a1 a2 a3 (Or.inr (Or.inl ⟨rfl, v1, a4, rfl⟩)) ⟨by decide, a5⟩ (by rw [List.length_append] at a6; show b1 + X.length + (Y.length + 1) + 1 ≤ f1; have : X.length + [(28, 0)].length = X.length + 1 := rfl; omega) (by omega) a8 trivial
  · rw [if_neg hiw] at hM
    by_cases hsg : sg tp t f = 40
    · rw [if_pos hsg] at hM
      have hlt := hnx.2.2 (by rw [sg_kd hsg (by decide)]; decide)
      by_cases hb8 : br < 8
      · rw [if_pos hb8] at hM
        refine gx0 hS.2.2.2.1 hd 0 _ (r12_pl_b tp t lw X b pa br f hS (by omega) hsg hb8 (Nat.le_refl 5)) (fun x hx => ?_)
        obtain ⟨x1, x2, x3⟩ := hx
        refine h0 (br + 1) pa (nxt tp t f) v x.1 x.2 (X ++ [(31, 0)]) b 0 (by omega) x1 (by rw [List.length_append]; show b + (X.length + 1) + 1 ≤ _; omega) hpa (by omega) rfl (TB.top (by decide)) (Or.inr (by rw [ibX_snoc]; rfl)) ?_
        refine MP.bd (hM.tr x2 (fun q _ => x3 q)) (fun f1 p1 v1 hk I2 L2 Y b1 a1 a2 a3 a4 a5 a6 a7 a8 a9 => ?_)
        have hin : ibX (X ++ [(31, 0)] ++ Y) = 31 := by rw [ibX_BG _ Y.length Y rfl a5, ibX_snoc]; rfl
        by_cases hs2 : sg tp t f1 = 41
        · rw [if_pos hs2] at hk
          refine gx2n a1.2.2.2.1 hd 2 _ (r12_bt_sh tp t lw (X ++ [(31, 0)]) Y b b1 p1 (br + 1) f1 v1 a1 1 a6 a9.1 a9.2 hin X rfl (by omega) hs2 a5 a4 (Nat.le_refl 3)) (fun z hz => ?_)
          obtain ⟨z1, z2, z3, z4, z5⟩ := hz
          have hnx1 := (nxt_le (tp := tp) a1.2.1.1).2.2 (by rw [sg_kd hs2 (by decide)]; decide)
          exact hk z.1 z.2.1 [] z.2.2 (by rw [List.append_nil]; exact z1) (a2.tr z2) (fun q hq => ⟨(z5 q hq).1.trans (a3 q hq).1, (z5 q hq).2.trans (a3 q hq).2⟩) z3 trivial z4 (by omega) a8 trivial
        · rw [if_neg hs2] at hk
          exact gx2 a1.2.2.2.1 hd 2 _ (r12_bt_shn tp t lw (X ++ [(31, 0)]) Y b b1 p1 (br + 1) f1 v1 a1 1 a6 a9.1 a9.2 hin hs2 (Nat.le_refl 3)) (fun z hz => hk z (hz.tr a2) 2)
      · rw [if_neg hb8] at hM
        exact gx0 hS.2.2.2.1 hd 0 _ (r12_pl_bn tp t lw X b pa br f hS (by omega) hsg hb8 hbr (Nat.le_refl 5)) (fun x hx => hM x hx 0)
    · rw [if_neg hsg] at hM
      exact h3 br pa f v I L X b 0 (by omega) hS hB hpa hbr (Or.inr ⟨rfl, hiw, hsg⟩) hTB hib (hM.lv (by decide))
theorem t8 {l : Launch} {K : cK} {d : Nat} {R : wR} {dy : cH} {Q : Option Value → cH → Prop} {te : Int32} {tp : Nat → Nat} {t : Nat} {lw : Bool} (hd : 6 ≤ d) {n : Nat} (h2 : T2 l K d R dy Q te tp t lw n) (h8 : T8 l K d R dy Q te tp t lw n) : T8 l K d R dy Q te tp t lw (n + 1) := by
  intro br pa f f0 v I L X Y b b1 hn hS hB hpa hbr hPD hf0 hTB hBG hib hM
  have hft := hS.2.1.1
  have hnx := nxt_le (tp := tp) hft
  rw [show pz tp t lw (n + 1) 8 br pa f v = if iw tp t f 1476 then rb (pz tp t lw n 2 br pa (nxt tp t f) v) (fun f1 p1 v1 => pz tp t lw n 8 br p1 f1 (jmpD 29 v v1)) else .inr (f, pa, v) from rfl] at hM
  by_cases hiw : iw tp t f 1476
  · rw [if_pos hiw] at hM
    have hlt := hnx.2.2 (by rw [hiw.1]; decide)
    refine gx2n hS.2.2.2.1 hd 0 _ (r12_bt_29 tp t lw X Y b b1 pa br f v hS 1 hB hiw hTB hBG hPD (Nat.le_refl 3)) (fun x hx => ?_)
    obtain ⟨x1, x2, x3, x4, x5, x6⟩ := hx
    have hx0 : b < x.2.2 := x3.1
    refine h2 br pa (nxt tp t f) v x.1 x.2.1 (X ++ [(29, x.2.2)]) (x.2.2 + 1) 0 (by omega) x1 (by rw [List.length_append]; show x.2.2 + 1 + (X.length + 1) + 1 ≤ _; omega) hpa hbr rfl (TB.top (by decide)) (by rw [ibX_snoc]; exact hib) ?_
    refine MP.bd (hM.tr x2 x5) (fun f1 p1 v1 hk I2 L2 Y2 b2 a1 a2 a3 a4 a5 a6 a7 a8 a9 => ?_)
    rw [List.append_assoc] at a1
    refine h8 br p1 f1 f0 _ I2 L2 X ((29, x.2.2) :: Y2) b b2 (by omega) a1 (by rw [List.length_append] at a6; show b2 + X.length + (Y2.length + 1) + 1 ≤ f1; have : X.length + [(29, x.2.2)].length = X.length + 1 := rfl; omega) a8 hbr (Or.inr (Or.inr ⟨Or.inl rfl, ?_, v, v1, opF_cg x3 (fun q hq => a3 q (by omega)), a4, rfl⟩)) (by omega) hTB ⟨by decide, a5.mono (by decide) Y2⟩ hib (hk.tr a2 (fun q hq => a3 q (by omega)))
    show (I2 81 x.2.2).toNatClampNeg = 29
    rw [(a3 x.2.2 (by omega)).1]; exact x6
  · rw [if_neg hiw] at hM
    exact hM I L Y b1 hS FR.rf (fun _ _ => ⟨rfl, rfl⟩) hPD hBG hB hf0 hpa hiw
theorem t7 {l : Launch} {K : cK} {d : Nat} {R : wR} {dy : cH} {Q : Option Value → cH → Prop} {te : Int32} {tp : Nat → Nat} {t : Nat} {lw : Bool} (hd : 6 ≤ d) {n : Nat} (h1 : T1 l K d R dy Q te tp t lw n) (h7 : T7 l K d R dy Q te tp t lw n) : T7 l K d R dy Q te tp t lw (n + 1) := by
  intro br pa f f0 v I L X Y b b1 hn hS hB hpa hbr hPD hf0 hTB hBG hna hib hM
  have hft := hS.2.1.1
  have hnx := nxt_le (tp := tp) hft
  rw [show pz tp t lw (n + 1) 7 br pa f v = if iw tp t f 498 then rb (pz tp t lw n 1 br pa (nxt tp t f) v) (fun f1 p1 v1 => pz tp t lw n 7 br p1 f1 (jmpD 30 v v1)) else .inr (f, pa, v) from rfl] at hM
  by_cases hiw : iw tp t f 498
  · rw [if_pos hiw] at hM
    have hlt := hnx.2.2 (by rw [hiw.1]; decide)
    refine gx2n hS.2.2.2.1 hd 0 _ (r12_bt_30 tp t lw X Y b b1 pa br f v hS 1 hB hiw hTB hBG hPD (Nat.le_refl 3)) (fun x hx => ?_)
    obtain ⟨x1, x2, x3, x4, x5, x6⟩ := hx
    have hx0 : b < x.2.2 := x3.1
    refine h1 br pa (nxt tp t f) v x.1 x.2.1 (X ++ [(30, x.2.2)]) (x.2.2 + 1) 0 (by omega) x1 (by rw [List.length_append]; show x.2.2 + 1 + (X.length + 1) + 1 ≤ _; omega) hpa hbr rfl (TB.top (by decide)) (by rw [ibX_snoc]; exact hib) ?_
    refine MP.bd (hM.tr x2 x5) (fun f1 p1 v1 hk I2 L2 Y2 b2 a1 a2 a3 a4 a5 a6 a7 a8 a9 => ?_)
    rw [List.append_assoc] at a1
    refine h7 br p1 f1 f0 _ I2 L2 X ((30, x.2.2) :: Y2) b b2 (by omega) a1 (by rw [List.length_append] at a6; show b2 + X.length + (Y2.length + 1) + 1 ≤ f1; have : X.length + [(30, x.2.2)].length = X.length + 1 := rfl; omega) a8 hbr (Or.inr (Or.inr ⟨Or.inr rfl, ?_, v, v1, opF_cg x3 (fun q hq => a3 q (by omega)), a4, rfl⟩)) (by omega) hTB ⟨by decide, a5.mono (by decide) Y2⟩ a9 hib (hk.tr a2 (fun q hq => a3 q (by omega)))
    show (I2 81 x.2.2).toNatClampNeg = 30
    rw [(a3 x.2.2 (by omega)).1]; exact x6
  · rw [if_neg hiw] at hM
    exact hM I L Y b1 hS FR.rf (fun _ _ => ⟨rfl, rfl⟩) hPD hBG hB hf0 hpa ⟨hna, hiw⟩
theorem t1 {l : Launch} {K : cK} {d : Nat} {R : wR} {dy : cH} {Q : Option Value → cH → Prop} {te : Int32} {tp : Nat → Nat} {t : Nat} {lw : Bool} (hd : 6 ≤ d) {n : Nat} (h2 : T2 l K d R dy Q te tp t lw n) (h8 : T8 l K d R dy Q te tp t lw n) : T1 l K d R dy Q te tp t lw (n + 1) := by
  intro br pa f v I L X b y hn hS hB hpa hbr hE hTB hib hM
  rw [show pz tp t lw (n + 1) 1 br pa f v = rb (pz tp t lw n 2 br pa f v) (fun f1 p1 v1 => pz tp t lw n 8 br p1 f1 v1) from rfl] at hM
  refine h2 br pa f v I L X b y (by omega) hS hB hpa hbr hE (hTB.mono (by decide)) hib (MP.bd hM (fun f1 p1 v1 hk I2 L2 Y b1 a1 a2 a3 a4 a5 a6 a7 a8 a9 => ?_))
  exact h8 br p1 f1 f v1 I2 L2 X Y b b1 (by omega) a1 a6 a8 hbr a4 a7 hTB (a5.mono (by decide) Y) hib (hk.tr a2 a3)
theorem t0 {l : Launch} {K : cK} {d : Nat} {R : wR} {dy : cH} {Q : Option Value → cH → Prop} {te : Int32} {tp : Nat → Nat} {t : Nat} {lw : Bool} (hd : 6 ≤ d) {n : Nat} (h1 : T1 l K d R dy Q te tp t lw n) (h7 : T7 l K d R dy Q te tp t lw n) : T0 l K d R dy Q te tp t lw (n + 1) := by
  intro br pa f v I L X b y hn hS hB hpa hbr hE hTB hib hM
  rw [show pz tp t lw (n + 1) 0 br pa f v = rb (pz tp t lw n 1 br pa f v) (fun f1 p1 v1 => pz tp t lw n 7 br p1 f1 v1) from rfl] at hM
  refine h1 br pa f v I L X b y (by omega) hS hB hpa hbr hE (hTB.mono (by decide)) hib (MP.bd hM (fun f1 p1 v1 hk I2 L2 Y b1 a1 a2 a3 a4 a5 a6 a7 a8 a9 => ?_))
  exact h7 br p1 f1 f v1 I2 L2 X Y b b1 (by omega) a1 a6 a8 hbr a4 a7 hTB (a5.mono (by decide) Y) a9 hib (hk.tr a2 a3)
theorem tS {l : Launch} {K : cK} {d : Nat} {R : wR} {dy : cH} {Q : Option Value → cH → Prop} {te : Int32} {tp : Nat → Nat} {t : Nat} {lw : Bool} (hd : 6 ≤ d) : ∀ n, T4 l K d R dy Q te tp t lw n ∧ T5 l K d R dy Q te tp t lw n ∧ T6 l K d R dy Q te tp t lw n ∧ T9 l K d R dy Q te tp t lw n ∧ T10 l K d R dy Q te tp t lw n
  | 0 => ⟨fun _ _ _ _ _ _ _ _ _ hn => absurd hn (by omega), fun _ _ _ _ _ _ _ _ _ hn => absurd hn (by omega), fun _ _ _ _ _ _ _ _ _ hn => absurd hn (by omega), fun _ _ _ _ _ _ _ _ _ _ _ hn => absurd hn (by omega), fun _ _ _ _ _ _ _ _ _ _ _ hn => absurd hn (by omega)⟩
  | n + 1 => by
    obtain ⟨h4, h5, h6, h9, h10⟩ := tS hd n
    exact ⟨t4 hd h5 h9, t5 hd h6 h10, t6 hd h4, t9 hd h5 h9, t10 hd h6 h10⟩
theorem tT {l : Launch} {K : cK} {d : Nat} {R : wR} {dy : cH} {Q : Option Value → cH → Prop} {te : Int32} {tp : Nat → Nat} {t : Nat} {lw : Bool} (hd : 6 ≤ d) (hte : te = nI 1) : ∀ n, T0 l K d R dy Q te tp t lw n ∧ T1 l K d R dy Q te tp t lw n ∧ T2 l K d R dy Q te tp t lw n ∧ T3 l K d R dy Q te tp t lw n ∧ T7 l K d R dy Q te tp t lw n ∧ T8 l K d R dy Q te tp t lw n
  | 0 => ⟨fun _ _ _ _ _ _ _ _ _ hn => absurd hn (by omega), fun _ _ _ _ _ _ _ _ _ hn => absurd hn (by omega), fun _ _ _ _ _ _ _ _ _ hn => absurd hn (by omega), fun _ _ _ _ _ _ _ _ _ hn => absurd hn (by omega), fun _ _ _ _ _ _ _ _ _ _ _ hn => absurd hn (by omega), fun _ _ _ _ _ _ _ _ _ _ _ hn => absurd hn (by omega)⟩
  | n + 1 => by
    obtain ⟨h0, h1, h2, h3, h7, h8⟩ := tT hd hte n
    exact ⟨t0 hd h1 h7, t1 hd h2 h8, t2 hd hte h0 h2 h3, t3 hd hte (tS hd n).1, t7 hd h1 h7, t8 hd h2 h8⟩
