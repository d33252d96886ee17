theorem nrw_c : ∀ k, k < 256 → (nI k).toUInt32.toUInt16.toUInt32.toInt32 = nI k := by decide +kernel
theorem i2c_c : ∀ k, k < 256 → ((nI k).toUInt32 % 65536).toInt32 = nI k := by decide +kernel
/-- a String constant's letters -/
def scH (i k : Nat) : Nat := ((sBy.getD i []).getD k 0).toNatClampNeg
def scN (i : Nat) : Nat := sLn.getD i 0
theorem scH_all : ∀ i, i < 8 → ∀ k, k < 40 → (sBy.getD i []).getD k 0 = nI (scH i k) ∧ scH i k < 256 := by decide +kernel
theorem scN_all : ∀ i, i < 8 → scN i < 40 := by decide +kernel
section RS
variable {l : Launch} {K : cK} {M : MI} {d kc ks pc n : Nat} {lo : List (Nat × Value)} {st : List Value} {h : cH} {Q : Option Value → cH → Prop}
/-- String constants: .retAddr (8 + i) is the i-th, .retAddr (16 + i) its bytes -/
theorem g_ldcS {ix i : Nat} (hi : i < 8) (hix : sIx.getD i 0 = ix) (hM : M.1.cls = "CoinsWarden$Reading") (hd : dc M pc (.ldc ix) 2 n) (kk : GL l K M d kc ks n lo (.retAddr (8 + i) :: st) h Q) : GL l K M d kc ks pc lo st h Q := by
  intro p e R s m args below meth c H locs cells slots mc ms ls hB h1 h2 h3 h4 h5 h6 h7 h8 h9 h10
  obtain ⟨hdg, rfl⟩ := hd
  have hU := hB.2.2.2.2.2.2.2.2.1
  have vS := hU.2.2.2.2.2.2.1
  subst hix
  exact va_ldcS (own := "CoinsWarden$Reading") hB.1 hB.2.1 (by rw [← hM]; exact hB.2.2.2.2.1) (hU.2.2.2.2.2.1 i hi) hdg (kk p e R s m args below meth c H locs cells slots mc ms ls hB h1 h2 h3 h4 h5 h6 h7 h8 h9 h10)
theorem g_sval {ix i : Nat} (hi : i < 8) (hw : Cond.fieldLink M.1.cls ix "java/lang/String" "value" "[B" ∈ tblG) (hd : dc M pc (.getfield ix) 3 n) (kk : GL l K M d kc ks n lo (.retAddr (16 + i) :: st) h Q) : GL l K M d kc ks pc lo (.retAddr (8 + i) :: st) h Q := by
  intro p e R s m args below meth c H locs cells slots mc ms ls hB h1 h2 h3 h4 h5 h6 h7 h8 h9 h10
  obtain ⟨hdg, rfl⟩ := hd
  have hU := hB.2.2.2.2.2.2.2.2.1
  have vS := hU.2.2.2.2.2.2.1
  exact vk_getf (v := .ref (K.2.1 (16 + i))) hB.1 hB.2.1 (va_OF.kept (vS.1 i hi).2.2.1 (low_H hB)) (low_S hB h7 h8 h9) hB.2.2.2.2.1 (hB.2.2.2.2.2.1 _ hw) (fun _ g => g) hdg (kk p e R s m args below meth c H locs cells slots mc ms ls hB h1 h2 h3 h4 h5 h6 h7 h8 h9 h10)
theorem g_scod {ix i : Nat} (hi : i < 8) (hw : Cond.fieldLink M.1.cls ix "java/lang/String" "coder" "B" ∈ tblG) (hd : dc M pc (.getfield ix) 3 n) (kk : GL l K M d kc ks n lo (.int 0 :: st) h Q) : GL l K M d kc ks pc lo (.retAddr (8 + i) :: st) h Q := by
  intro p e R s m args below meth c H locs cells slots mc ms ls hB h1 h2 h3 h4 h5 h6 h7 h8 h9 h10
  obtain ⟨hdg, rfl⟩ := hd
  have hU := hB.2.2.2.2.2.2.2.2.1
  have vS := hU.2.2.2.2.2.2.1
  exact vk_getf (v := .int 0) hB.1 hB.2.1 (va_OF.kept (vS.1 i hi).2.1 (low_H hB)) (low_S hB h7 h8 h9) hB.2.2.2.2.1 (hB.2.2.2.2.2.1 _ hw) (fun _ g => g) hdg (kk p e R s m args below meth c H locs cells slots mc ms ls hB h1 h2 h3 h4 h5 h6 h7 h8 h9 h10)
theorem g_scmp {ix : Nat} (hw : Cond.fieldLink M.1.cls ix "java/lang/String" "COMPACT_STRINGS" "Z" ∈ tblG) (hd : dc M pc (.getstatic ix) 3 n) (kk : GL l K M d kc ks n lo (.int 1 :: st) h Q) : GL l K M d kc ks pc lo st h Q := by
  intro p e R s m args below meth c H locs cells slots mc ms ls hB h1 h2 h3 h4 h5 h6 h7 h8 h9 h10
  obtain ⟨hdg, rfl⟩ := hd
  have hU := hB.2.2.2.2.2.2.2.2.1
  have vS := hU.2.2.2.2.2.2.1
  exact va_gets (v := .int 1) hB.1 hB.2.1 (va_Z.kept hU.2.2.2.1 (low_H hB)) (low_S hB h7 h8 h9) hB.2.2.2.2.1 (hB.2.2.2.2.2.1 _ hw) (fun _ g => g) hdg (kk p e R s m args below meth c H locs cells slots mc ms ls hB h1 h2 h3 h4 h5 h6 h7 h8 h9 h10)
theorem g_salen {i : Nat} (hi : i < 8) (hd : dc M pc .arraylength 1 n) (kk : GL l K M d kc ks n lo (.int (Int32.ofNat (sLn.getD i 0)) :: st) h Q) : GL l K M d kc ks pc lo (.retAddr (16 + i) :: st) h Q := by
  intro p e R s m args below meth c H locs cells slots mc ms ls hB h1 h2 h3 h4 h5 h6 h7 h8 h9 h10
  obtain ⟨hdg, rfl⟩ := hd
  have hU := hB.2.2.2.2.2.2.2.2.1
  have vS := hU.2.2.2.2.2.2.1
  obtain ⟨cell, c1, c2, c3, c4, c5, c6, c7⟩ := (vS.1 i hi).2.2.2
  have hlt : K.2.1 (16 + i) < K.1.size := (Array.getElem?_eq_some_iff.mp c1).1
  exact W.alen hB.1 hB.2.1 (by show H[K.2.1 (16 + i)]? = _; rw [h7.2.2 _ hlt]; exact c1) c2 c5 rfl rfl hdg (kk p e R s m args below meth c H locs cells slots mc ms ls hB h1 h2 h3 h4 h5 h6 h7 h8 h9 h10)
theorem g_sbald {i : Nat} {x : Int32} (hi : i < 8) (hin : vp_in x (sLn.getD i 0)) (hd : dc M pc .baload 1 n) (kk : GL l K M d kc ks n lo (.int ((sBy.getD i []).getD x.toNatClampNeg 0) :: st) h Q) : GL l K M d kc ks pc lo (.int x :: .retAddr (16 + i) :: st) h Q := by
  intro p e R s m args below meth c H locs cells slots mc ms ls hB h1 h2 h3 h4 h5 h6 h7 h8 h9 h10
  obtain ⟨hdg, rfl⟩ := hd
  have hU := hB.2.2.2.2.2.2.2.2.1
  have vS := hU.2.2.2.2.2.2.1
  exact va_tb hB.1 hB.2.1 (va_T.kept (vS.1 i hi).2.2.2 (low_H hB)) (low_S hB h7 h8 h9) hin rfl hdg (kk p e R s m args below meth c H locs cells slots mc ms ls hB h1 h2 h3 h4 h5 h6 h7 h8 h9 h10)
theorem g_nret {x : Int32} {ty : FieldType} (hr : M.2.2.2 = some ty) (hx : (ty = .byte ∧ x = 0) ∨ (ty = .char ∧ ∃ k, k < 256 ∧ x = nI k)) (hd : dc M pc .ireturn 1 n) (hq : Q (some (.int x)) h) : GL l K M d kc ks pc lo (.int x :: []) h Q := by
  intro p e R s m args below meth c H locs cells slots mc ms ls hB h1 h2 h3 h4 h5 h6 h7 h8 h9 h10
  obtain ⟨hdg, rfl⟩ := hd
  refine W.widen (k := mc) (n := ms) (by omega) (by omega) ?_
  exact W.zret (v := x) (ty := ty) hB.1 hB.2.1 (hB.2.2.2.1.trans hr) (by
    rcases hx with ⟨rfl, rfl⟩ | ⟨rfl, k, hk, rfl⟩
    · rfl
    · exact congrArg Value.int (nrw_c k hk)) (fun t ht hW => ⟨some (.int x), h, rfl, by rw [ht]; exact h7, hq, by rw [ht]; exact h8⟩) h9 hdg (hlocks := hB.2.2.2.2.2.2.1)
theorem g_callT {Y : MI} {ix i d1 : Nat} {as : List Value} {Q1 : Option Value → cH → Prop} (hi : i < 8) (hY : okV Y) (hYs : Y.1.cls = "java/lang/String") (hl : ml M.1.cls ix Y as.length) (hc : CC l K Y d1 0 0 (.retAddr (8 + i) :: as) h Q1) (hd1 : d1 + 1 ≤ d) (hW : (st.map fun v => v.category).sum ≤ 8) (hd : dc M pc (.invokevirtual ix) 3 n) (kk : ∀ (r : Option Value) (h1 : cH), Q1 r h1 → GL l K M d kc ks n lo (r.toList ++ st) h1 Q) : GL l K M d (0 + kc) (0 + ks) pc lo (as.reverse ++ .retAddr (8 + i) :: st) h Q := by
  intro p e R s m args below meth c H locs cells slots mc ms ls hB h1 h2 h3 h4 h5 h6 h7 h8 h9 h10
  obtain ⟨hdg, rfl⟩ := hd
  have hU := hB.2.2.2.2.2.2.2.2.1
  have vS := hU.2.2.2.2.2.2.1
  have hts := hB.2.2.2.2.2.1
  rw [map_append_rev]
  have hrecv : ∃ cell : Cell, H[K.2.1 (8 + i)]? = some cell ∧ cell.vm.isStatics = false ∧ s.vm.findClass Y.1.cls = some cell.cls := by
    rw [hYs]
    exact vk_recv (i := i) (adK := fun i => K.2.1 (8 + i)) (vk_S.kept vS (low_H hB)) hi (low_S hB h7 h8 h9)
  exact g_after hB h1 h2 h3 h4 h5 h6 h8 h7 h9 h10 (va_runV (C := Y.1.cls) (b := K.2.1 (8 + i)) (As := as.map (cv K)) (rest := st.map (cv K)) ⟨hB.1, hB.2.1, hB.2.2.1, hB.2.2.2.2.1, hts⟩ (hc d1 (Nat.le_refl _)) ⟨cb_of hY.1 hl hts hd1 h1 h2, hts _ hY.2.1, hts _ hY.2.2⟩ ⟨cP_blind, hrecv, fun U hU hW => ⟨rfl, by rw [hU]; exact h7, hB.2.2.2.2.2.2.2.2.1.warm hW⟩⟩ rfl (by simp) h10.1 rfl (by show 2 * 0 + _ ≤ 8; rw [cat_sum]; omega) hdg ⟨by omega, by omega⟩) kk
end RS
theorem prC {l : Launch} {K : cK} {h : cH} {i N : Nat} (hi : i < N) (hN : N < 1000) (v : Value) (hc : (lg_sl [.int (nI i), .int (nI N), v]).length ≤ 3) : ∀ D : Nat, 0 ≤ D → Met l mPr_checkIndex.1 (wsM mPr_checkIndex) (rmM D 0 0) (fun a U => a = #[.int (nI i), .int (nI N), v] ∧ cR K h U.heap ∧ cU K U) (cQ K (fun r h1 => r = some (.int (nI i)) ∧ h1 = h)) 0 0 (cA K) := by
  intro D hD
  have body : GL l K mPr_checkIndex 0 0 0 0 [(0, .int (nI i)), (1, .int (nI N))] [] h (fun r h1 => r = some (.int (nI i)) ∧ h1 = h) := by
    refine g_iload_n dPr_checkIndex_0 rfl ?_
    refine g_iz_lt ((i : Nat) : Int) 9 (nI_ti (by omega)) dPr_checkIndex_1 rfl (fun c1 => absurd c1 (by omega)) (fun _ => ?_)
    refine g_iload_n dPr_checkIndex_4 rfl ?_
    refine g_iload_n dPr_checkIndex_5 rfl ?_
    refine g_ic_lt ((i : Nat) : Int) ((N : Nat) : Int) 16 (nI_ti (by omega)) (nI_ti (by omega)) dPr_checkIndex_6 rfl (fun _ => ?_) (fun c6 => absurd c6 (by omega))
    refine g_iload_n dPr_checkIndex_16 rfl ?_
    exact g_iret rfl dPr_checkIndex_17 (⟨rfl, rfl⟩)
  refine Met.ofW (cc := mPr_checkIndex.2.1) (maxL := mPr_checkIndex.2.2.1) (ret := mPr_checkIndex.2.2.2) okPr_checkIndex.2.1 rfl ?_
  intro p e s m args below meth c s₁ B hml hv
  obtain ⟨rfl, hR, hU⟩ := hv
  have hts := atoms_spec (ws := wsM mPr_checkIndex) B.pre
  have hB : cB K mPr_checkIndex p s m _ meth c := ⟨B.exec, B.bytes, hml, B.returns, findClass_of_methodNamed B.named, fun w hw => hts w (List.mem_cons_of_mem _ hw), B.notSynchronized, (name_of_methodNamed B.named B.method).1, hU, by rw [hR.1]; omega, hR.2.2⟩
  rw [show (#[Value.int (nI i), Value.int (nI N), v] : Array Value) = [Value.int (nI i), Value.int (nI N), v].toArray from rfl] at *
  rw [lg_entry_eq]
  have hl := lv_entry [Value.int (nI i), Value.int (nI N), v] (n := mPr_checkIndex.2.2.1) hc
  refine body p e _ s m _ below meth c s.heap [] 0 0 0 0 _ hB hD (Nat.mul_le_mul_left 64 hD) (Nat.le_refl _) (Nat.le_refl _) (by omega) (by omega) hR (Nat.le_refl _) (fun _ hq => absurd hq List.not_mem_nil) (lh_sub hl (fun q hq => ?_))
  have hq2 : q ∈ [((0 : Nat), Value.int (nI i)), (1, Value.int (nI N))] := hq
  have : lv_args 0 [Value.int (nI i), Value.int (nI N), v] = [(0, Value.int (nI i)), (1, Value.int (nI N)), (2, v)] := rfl
  rw [this]
  simp only [List.mem_cons, List.not_mem_nil, or_false] at hq2 ⊢
  rcases hq2 with z | z
  · exact Or.inl z
  · exact Or.inr (Or.inl z)
theorem g_ckIx {l : Launch} {K : cK} {d : Nat} {lo : List (Nat × Value)} {h : cH} {Q : Option Value → cH → Prop} {i N : Nat} (hi : i < N) (hN : N < 1000) (hd0 : 1 ≤ d) (kk : GL l K mSt_checkIndex d 0 0 8 lo [.int (nI i)] h Q) : GL l K mSt_checkIndex d 0 0 2 lo [.int (nI N), .int (nI i)] h Q := by
  intro p e R s m args below meth c H locs cells slots mc ms ls hB h1 h2 h3 h4 h5 h6 h7 h8 h9 h10
  have hU := hB.2.2.2.2.2.2.2.2.1
  have hts := hB.2.2.2.2.2.1
  have fin : ∀ v : Value, (lg_sl [.int (nI i), .int (nI N), v]).length ≤ 3 → W p l e R s m args below meth c H locs cells slots (MQ below (cQ K Q) args s mc ms (cA K)) (F0 m 5 ls [v, .int (nI N), .int (nI i)]) := fun v hc =>
    g_after (st := []) (kc := 0) (ks := 0) (kc1 := 0) (ks1 := 0) hB h1 h2 h3 h4 (by omega) (by omega) h8 h7 h9 h10 (va_runS (As := [.int (nI i), .int (nI N), v]) (rest := []) ⟨hB.1, hB.2.1, hB.2.2.1, hB.2.2.2.2.1, hts⟩ (prC (h := h) hi hN v hc 0 (Nat.le_refl _)) ⟨cb_of okPr_checkIndex mlSt_1059 hts hd0 h1 h2, hts _ smPr_checkIndex.2⟩ ⟨fun a U g mk q => ⟨q.1, q.2.1, cU.same (s := U) rfl q.2.2⟩, fun U hU2 hW => ⟨rfl, by rw [hU2]; exact h7, hU.warm hW⟩⟩ rfl (by simp) h10.1 rfl (by show 2 * 0 + _ ≤ 8; decide) dSt_checkIndex_5.1 ⟨by omega, by omega⟩) (fun r h1 hq => by obtain ⟨rfl, rfl⟩ := hq; exact kk)
  rcases hU.2.2.2.2.1 with hz | ⟨t, hz⟩
  · exact va_gets (v := .null) hB.1 hB.2.1 (va_Z.kept hz (low_H hB)) (low_S hB h7 h8 h9) hB.2.2.2.2.1 (hts _ fsSt_1053) (fun _ g => g) dSt_checkIndex_2.1 (fin .null (Nat.le_refl 3))
  · exact va_gets (v := .ref t) hB.1 hB.2.1 (va_Z.kept hz (low_H hB)) (low_S hB h7 h8 h9) hB.2.2.2.2.1 (hts _ fsSt_1053) (fun _ g => g) dSt_checkIndex_2.1 (fin (.ref t) (Nat.le_refl 3))
theorem rSt_coder {l : Launch} {K : cK} {d : Nat} {h : cH} (i : Nat) (hi : i < 8) (hd : 0 ≤ d) : CE l K mSt_coder d [.retAddr (8 + i)] h (.int 0) h := by
  refine CC.of okSt_coder (Nat.le_of_ble_eq_true rfl) ?_
  refine g_scmp fsSt_38 dSt_coder_0 ?_
  refine g_iz_eq (1) 13 (by decide) dSt_coder_3 rfl (fun c => absurd c (by decide)) (fun _ => ?_)
  refine g_sload_n dSt_coder_6 rfl ?_
  refine g_scod hi fsSt_15 dSt_coder_7 ?_
  refine g_goto 14 dSt_coder_10 rfl ?_
  exact g_nret rfl (Or.inl ⟨rfl, rfl⟩) dSt_coder_14 ⟨rfl, rfl⟩
theorem rSt_isLatin1 {l : Launch} {K : cK} {d : Nat} {h : cH} (i : Nat) (hi : i < 8) (hd : 0 ≤ d) : CE l K mSt_isLatin1 d [.retAddr (8 + i)] h (.int 1) h := by
  refine CC.of okSt_isLatin1 (Nat.le_of_ble_eq_true rfl) ?_
  refine g_scmp fsSt_38 dSt_isLatin1_0 ?_
  refine g_iz_eq (1) 17 (by decide) dSt_isLatin1_3 rfl (fun c => absurd c (by decide)) (fun _ => ?_)
  refine g_sload_n dSt_isLatin1_6 rfl ?_
  refine g_scod hi fsSt_15 dSt_isLatin1_7 ?_
  refine g_iz_ne (0) 17 (by decide) dSt_isLatin1_10 rfl (fun c => absurd c (by decide)) (fun _ => ?_)
  refine g_iconstv (nI 1) dSt_isLatin1_13 rfl ?_
  refine g_goto 18 dSt_isLatin1_14 rfl ?_
  exact g_zret rfl (by decide) dSt_isLatin1_18 ⟨rfl, rfl⟩
theorem rSt_length {l : Launch} {K : cK} {d : Nat} {h : cH} (i : Nat) (hi : i < 8) (hd : 1 ≤ d) : CE l K mSt_length d [.retAddr (8 + i)] h (.int (nI (scN i))) h := by
  refine CC.of okSt_length (Nat.le_of_ble_eq_true rfl) ?_
  refine g_sload_n dSt_length_0 rfl ?_
  refine g_sval hi fsSt_9 dSt_length_1 ?_
  refine g_salen hi dSt_length_4 ?_
  refine g_sload_n dSt_length_5 rfl ?_
  refine g_callT (as := []) (kc := 0) (ks := 0) hi vmSt_coder rfl mlSt_335 (rSt_coder i hi (Nat.le_refl 0)) (by omega) (Nat.le_of_ble_eq_true rfl) dSt_length_6 (fun r h1 hq => ?_)
  obtain ⟨rfl, rfl⟩ := hq
  show GL l K mSt_length d 0 0 9 _ (.int 0 :: .int (nI (scN i)) :: []) _ _
  refine g_ishr dSt_length_9 ?_
  refine g_topI (nI (scN i)) ?_ ?_
  · have := scN_all i hi
    have e := shr_k (m := scN i) (k := 0) (by omega) (by omega)
    rw [Nat.pow_zero, Nat.div_one] at e
    exact e
  exact g_iret rfl dSt_length_10 ⟨rfl, rfl⟩
theorem rSt_check {l : Launch} {K : cK} {d : Nat} {h : cH} {i N : Nat} (hi : i < N) (hN : N < 1000) (hd : 1 ≤ d) : CV l K mSt_checkIndex d [.int (nI i), .int (nI N)] h h := by
  refine CC.of okSt_checkIndex (Nat.le_of_ble_eq_true rfl) ?_
  refine g_iload_n dSt_checkIndex_0 rfl ?_
  refine g_iload_n dSt_checkIndex_1 rfl ?_
  refine g_ckIx hi hN hd ?_
  refine g_pop dSt_checkIndex_8 rfl ?_
  exact g_vret rfl dSt_checkIndex_9 ⟨rfl, rfl⟩
theorem rSl_charAt {l : Launch} {K : cK} {d : Nat} {h : cH} (i : Nat) (hi : i < 8) (k : Nat) (hk : k < scN i) (hd : 2 ≤ d) : CE l K mSl_charAt d [.retAddr (16 + i), .int (nI k)] h (.int (nI (scH i k))) h := by
  have hN := scN_all i hi
  obtain ⟨e1, e2⟩ := scH_all i hi k (by omega)
  refine CC.of okSl_charAt (Nat.le_of_ble_eq_true rfl) ?_
  refine g_iload_n dSl_charAt_0 rfl ?_
  refine g_sload_n dSl_charAt_1 rfl ?_
  refine g_salen hi dSl_charAt_2 ?_
  refine g_VS2 smSt_checkIndex mlSl_9 (rSt_check (N := scN i) hk (by omega) (Nat.le_refl 1)) (by omega) (Nat.le_of_ble_eq_true rfl) dSl_charAt_3 ?_
  refine g_sload_n dSl_charAt_6 rfl ?_
  refine g_iload_n dSl_charAt_7 rfl ?_
  refine g_sbald hi (vp_in_nI hk (Nat.lt_trans hN (by decide))) dSl_charAt_8 ?_
  refine g_topI (nI (scH i k)) (by rw [nI_clamp (by omega)]; exact e1) ?_
  refine g_sipushv (nI 255) dSl_charAt_9 rfl ?_
  refine g_iand dSl_charAt_12 ?_
  refine g_topI (nI (scH i k)) (by rw [show nI (scH i k) &&& nI 255 = nI (scH i k % 2 ^ 8) from pk_andN (by omega) 8 (by decide), Nat.mod_eq_of_lt (by omega)]) ?_
  refine g_i2c dSl_charAt_13 ?_
  refine g_topI (nI (scH i k)) (i2c_c _ e2) ?_
  exact g_nret rfl (Or.inr ⟨rfl, _, e2, rfl⟩) dSl_charAt_14 ⟨rfl, rfl⟩
theorem rSt_charAt {l : Launch} {K : cK} {d : Nat} {h : cH} (i : Nat) (hi : i < 8) (k : Nat) (hk : k < scN i) (hd : 3 ≤ d) : CE l K mSt_charAt d [.retAddr (8 + i), .int (nI k)] h (.int (nI (scH i k))) h := by
  have hN := scN_all i hi
  obtain ⟨e1, e2⟩ := scH_all i hi k (by omega)
  refine CC.of okSt_charAt (Nat.le_of_ble_eq_true rfl) ?_
  refine g_sload_n dSt_charAt_0 rfl ?_
  refine g_callT (as := []) (kc := 0) (ks := 0) hi vmSt_isLatin1 rfl mlSt_492 (rSt_isLatin1 i hi (Nat.le_refl 0)) (by omega) (Nat.le_of_ble_eq_true rfl) dSt_charAt_1 (fun r h1 hq => ?_)
  obtain ⟨rfl, rfl⟩ := hq
  show GL l K mSt_charAt d 0 0 4 _ (.int 1 :: []) _ _
  refine g_iz_eq (1) 16 (by decide) dSt_charAt_4 rfl (fun c => absurd c (by decide)) (fun _ => ?_)
  refine g_sload_n dSt_charAt_7 rfl ?_
  refine g_sval hi fsSt_9 dSt_charAt_8 ?_
  refine g_iload_n dSt_charAt_11 rfl ?_
  refine g_ES2 smSl_charAt mlSt_495 (rSl_charAt i hi k hk (Nat.le_refl 2)) (by omega) (Nat.le_of_ble_eq_true rfl) dSt_charAt_12 ?_
  exact g_nret rfl (Or.inr ⟨rfl, _, e2, rfl⟩) dSt_charAt_15 ⟨rfl, rfl⟩
