set_option maxHeartbeats 200000 in
theorem r11_hasBit {l : Launch} {K : cK} {d : Nat} {h : cH} (m k : Nat) (hm : m < 2147483648) (hk : k < 31) (hd : 0 ≤ d) : CE l K m11_hasBit d [.int (nI m), .int (nI k)] h (.int (if bt m k = 1 then 1 else 0)) h := by
  have hb := bt_lt m k
  refine CC.of ok11_hasBit (Nat.le_of_ble_eq_true rfl) ?_
  refine g_iload_n d11_hasBit_0 rfl ?_
  refine g_iload_n d11_hasBit_1 rfl ?_
  refine g_ishr d11_hasBit_2 ?_
  refine g_topI (nI (m / 2 ^ k)) (shr_k hm hk) ?_
  refine g_iconstv (nI 1) d11_hasBit_3 rfl ?_
  refine g_iand d11_hasBit_4 ?_
  refine g_topI (nI (bt m k)) (bt_v hm) ?_
  refine g_iconstv (nI 1) d11_hasBit_5 rfl ?_
  refine g_ic_ne ((bt m k : Nat) : Int) (1) 13 (nI_ti (by omega)) (by decide) d11_hasBit_6 rfl (fun c6 => ?_) (fun c6 => ?_)
  · refine g_iconstv (nI 0) d11_hasBit_13 rfl ?_
    exact g_zret rfl (by decide) d11_hasBit_14 (⟨congrArg (fun z => some (Value.int z)) (by first | rw [if_pos (by omega)] <;> rfl | rw [if_neg (by omega)] <;> rfl), rfl⟩)
  · refine g_iconstv (nI 1) d11_hasBit_9 rfl ?_
    refine g_goto 14 d11_hasBit_10 rfl ?_
    exact g_zret rfl (by decide) d11_hasBit_14 (⟨congrArg (fun z => some (Value.int z)) (by first | rw [if_pos (by omega)] <;> rfl | rw [if_neg (by omega)] <;> rfl), rfl⟩)
def us_ (x y : Int32) : Int32 := (x.toUInt32 >>> (y.toUInt32 &&& Int32.toUInt32 31)).toInt32
def bc1 (x : Int32) : Int32 := x - (us_ x (nI 1) &&& 1431655765)
def bc2 (x : Int32) : Int32 := (x &&& 858993459) + (us_ x (nI 2) &&& 858993459)
def bc3 (x : Int32) : Int32 := (x + us_ x (nI 4)) &&& 252645135
def bc4 (x : Int32) : Int32 := x + us_ x (nI 8)
def bc5 (x : Int32) : Int32 := x + us_ x (nI 16)
theorem bc_64 : ∀ a, a < 64 → ∀ b, b < 64 → bc5 (bc4 (bc3 (bc2 (bc1 (nI (64 * a + b)))))) &&& nI 63 = nI (on12 (64 * a + b) 12) := by decide +kernel
theorem bc_all (m : Nat) (h : m < 4096) : bc5 (bc4 (bc3 (bc2 (bc1 (nI m))))) &&& nI 63 = nI (on12 m 12) := by
  have := bc_64 (m / 64) (by omega) (m % 64) (by omega)
  rw [show 64 * (m / 64) + m % 64 = m by omega] at this
  exact this
theorem nsub_ti {a b : Nat} (ha : a < 2 ^ 30) (hb : b < 2 ^ 30) : (nI a - nI b).toInt = (a : Int) - b := by
  rw [Int32.toInt_sub, nI_ti (by omega), nI_ti (by omega)]
  exact Int.bmod_eq_of_le (by omega) (by omega)
theorem shl_k {j : Nat} (h : j < 12) : nI 1 <<< (nI j &&& 31) = nI (2 ^ j) := by
  have : ∀ j : Fin 12, nI 1 <<< (nI j.val &&& 31) = nI (2 ^ j.val) := by decide
  exact this ⟨j, h⟩
theorem or_k {a b : Nat} : nI a ||| nI b = nI (a ||| b) := by
  apply Int32.toBitVec_inj.1
  show (Int32.ofNat a ||| Int32.ofNat b).toBitVec = (Int32.ofNat (a ||| b)).toBitVec
  rw [Int32.toBitVec_or, Int32.toBitVec_ofNat', Int32.toBitVec_ofNat', Int32.toBitVec_ofNat', BitVec.ofNat_or]
set_option maxHeartbeats 200000 in
theorem rIn_bitCount {l : Launch} {K : cK} {d : Nat} {h : cH} (m : Nat) (hm : m < 4096) (hd : 0 ≤ d) : CE l K mIn_bitCount d [.int (nI m)] h (.int (nI (on12 m 12))) h := by
  refine CC.of okIn_bitCount (Nat.le_of_ble_eq_true rfl) ?_
  refine g_iload_n dIn_bitCount_0 rfl ?_
  refine g_iload_n dIn_bitCount_1 rfl ?_
  refine g_iconstv (nI 1) dIn_bitCount_2 rfl ?_
  refine g_iushr dIn_bitCount_3 ?_
  refine g_ldcw dIn_bitCount_4 kiIn_265 ?_
  refine g_iand dIn_bitCount_7 ?_
  refine g_isub dIn_bitCount_8 ?_
  refine g_topI (bc1 (nI m)) (rfl) ?_
  refine g_istore_n dIn_bitCount_9 (by decide) ?_
  refine g_iload_n dIn_bitCount_10 rfl ?_
  refine g_ldcw dIn_bitCount_11 kiIn_266 ?_
  refine g_iand dIn_bitCount_14 ?_
  refine g_iload_n dIn_bitCount_15 rfl ?_
  refine g_iconstv (nI 2) dIn_bitCount_16 rfl ?_
  refine g_iushr dIn_bitCount_17 ?_
  refine g_ldcw dIn_bitCount_18 kiIn_266 ?_
  refine g_iand dIn_bitCount_21 ?_
  refine g_iadd dIn_bitCount_22 ?_
  refine g_topI (bc2 (bc1 (nI m))) (rfl) ?_
  refine g_istore_n dIn_bitCount_23 (by decide) ?_
  refine g_iload_n dIn_bitCount_24 rfl ?_
  refine g_iload_n dIn_bitCount_25 rfl ?_
  refine g_iconstv (nI 4) dIn_bitCount_26 rfl ?_
  refine g_iushr dIn_bitCount_27 ?_
  refine g_iadd dIn_bitCount_28 ?_
  refine g_ldcw dIn_bitCount_29 kiIn_267 ?_
  refine g_iand dIn_bitCount_32 ?_
  refine g_topI (bc3 (bc2 (bc1 (nI m)))) (rfl) ?_
  refine g_istore_n dIn_bitCount_33 (by decide) ?_
  refine g_iload_n dIn_bitCount_34 rfl ?_
  refine g_iload_n dIn_bitCount_35 rfl ?_
  refine g_bipushv (nI 8) dIn_bitCount_36 rfl ?_
  refine g_iushr dIn_bitCount_38 ?_
  refine g_iadd dIn_bitCount_39 ?_
  refine g_topI (bc4 (bc3 (bc2 (bc1 (nI m))))) (rfl) ?_
  refine g_istore_n dIn_bitCount_40 (by decide) ?_
  refine g_iload_n dIn_bitCount_41 rfl ?_
  refine g_iload_n dIn_bitCount_42 rfl ?_
  refine g_bipushv (nI 16) dIn_bitCount_43 rfl ?_
  refine g_iushr dIn_bitCount_45 ?_
  refine g_iadd dIn_bitCount_46 ?_
  refine g_topI (bc5 (bc4 (bc3 (bc2 (bc1 (nI m)))))) (rfl) ?_
  refine g_istore_n dIn_bitCount_47 (by decide) ?_
  refine g_iload_n dIn_bitCount_48 rfl ?_
  refine g_bipushv (nI 63) dIn_bitCount_49 rfl ?_
  refine g_iand dIn_bitCount_51 ?_
  refine g_topI (nI (on12 m 12)) (bc_all m hm) ?_
  exact g_iret rfl dIn_bitCount_52 (⟨rfl, rfl⟩)
set_option maxHeartbeats 200000 in
theorem r11_fewer {l : Launch} {K : cK} {d : Nat} {h : cH} (a b : Nat) (ha : a < 4096) (hb : b < 4096) (hd : 1 ≤ d) : CE l K m11_fewerOrLower d [.int (nI a), .int (nI b)] h (.int (if keyC a < keyC b then 1 else 0)) h := by
  have k1 : keyC a = 4096 * on12 a 12 + a := rfl
  have k2 : keyC b = 4096 * on12 b 12 + b := rfl
  have o1 := on12_le a 12
  have o2 := on12_le b 12
  refine CC.of ok11_fewerOrLower (Nat.le_of_ble_eq_true rfl) ?_
  refine g_iload_n d11_fewerOrLower_0 rfl ?_
  refine g_ES1 smIn_bitCount ml11_262 (rIn_bitCount (a) (by omega) (Nat.le_refl 0)) (by omega) (Nat.le_of_ble_eq_true rfl) d11_fewerOrLower_1 ?_
  refine g_iload_n d11_fewerOrLower_4 rfl ?_
  refine g_ES1 smIn_bitCount ml11_262 (rIn_bitCount (b) (by omega) (Nat.le_refl 0)) (by omega) (Nat.le_of_ble_eq_true rfl) d11_fewerOrLower_5 ?_
  refine g_isub d11_fewerOrLower_8 ?_
  refine g_istore_n d11_fewerOrLower_9 (by decide) ?_
  refine g_iload_n d11_fewerOrLower_10 rfl ?_
  refine g_iz_lt (((on12 a 12 : Nat) : Int) - ((on12 b 12 : Nat) : Int)) 23 (nsub_ti (by omega) (by omega)) d11_fewerOrLower_11 rfl (fun c11 => ?_) (fun c11 => ?_)
  · refine g_iconstv (nI 1) d11_fewerOrLower_23 rfl ?_
    refine g_goto 28 d11_fewerOrLower_24 rfl ?_
    exact g_zret rfl (by decide) d11_fewerOrLower_28 (⟨congrArg (fun z => some (Value.int z)) (by first | rw [if_pos (by omega)] <;> rfl | rw [if_neg (by omega)] <;> rfl), rfl⟩)
  · refine g_iload_n d11_fewerOrLower_14 rfl ?_
    refine g_iz_ne (((on12 a 12 : Nat) : Int) - ((on12 b 12 : Nat) : Int)) 27 (nsub_ti (by omega) (by omega)) d11_fewerOrLower_15 rfl (fun c15 => ?_) (fun c15 => ?_)
    · refine g_iconstv (nI 0) d11_fewerOrLower_27 rfl ?_
      exact g_zret rfl (by decide) d11_fewerOrLower_28 (⟨congrArg (fun z => some (Value.int z)) (by first | rw [if_pos (by omega)] <;> rfl | rw [if_neg (by omega)] <;> rfl), rfl⟩)
    · refine g_iload_n d11_fewerOrLower_18 rfl ?_
      refine g_iload_n d11_fewerOrLower_19 rfl ?_
      refine g_ic_ge ((a : Nat) : Int) ((b : Nat) : Int) 27 (nI_ti (by omega)) (nI_ti (by omega)) d11_fewerOrLower_20 rfl (fun c20 => ?_) (fun c20 => ?_)
      · refine g_iconstv (nI 0) d11_fewerOrLower_27 rfl ?_
        exact g_zret rfl (by decide) d11_fewerOrLower_28 (⟨congrArg (fun z => some (Value.int z)) (by first | rw [if_pos (by omega)] <;> rfl | rw [if_neg (by omega)] <;> rfl), rfl⟩)
      · refine g_iconstv (nI 1) d11_fewerOrLower_23 rfl ?_
        refine g_goto 28 d11_fewerOrLower_24 rfl ?_
        exact g_zret rfl (by decide) d11_fewerOrLower_28 (⟨congrArg (fun z => some (Value.int z)) (by first | rw [if_pos (by omega)] <;> rfl | rw [if_neg (by omega)] <;> rfl), rfl⟩)
set_option maxHeartbeats 800000 in
theorem r11_ckL {l : Launch} {K : cK} {d : Nat} {h : cH} {Q : Option Value → cH → Prop} (rd mv lim : Nat) (hr : rd < 2147483648) (hv : mv < 2147483648) (hl : lim < 1000) (hd : 1 ≤ d)
    (kk : GL l K m11_chalkFines d 0 0 74 [(3, .int (nI (ck rd mv lim 12).2))] [] h Q) :
    ∀ (n s : Nat), s + n = 12 → GL l K m11_chalkFines d 0 0 8 [(0, .int (nI (rd))), (1, .int (nI (mv))), (2, .int (nI (lim))), (3, .int (nI ((ck rd mv lim (s)).2))), (4, .int (mkI (ck rd mv lim (s)).1)), (5, .int (nI (s)))] [] h Q := by
  intro n
  induction n with
  | zero =>
    intro s hin
    obtain rfl : 12 = s := by omega
    refine g_iload d11_chalkFines_8 rfl ?_
    refine g_bipushv (nI 12) d11_chalkFines_10 rfl ?_
    refine g_ic_ge ((12 : Nat) : Int) (12) 74 (nI_ti (by omega)) (by decide) d11_chalkFines_12 rfl (fun _ => ?_) (fun c12 => absurd c12 (by decide))
    refine g_lo [(3, .int (nI ((ck rd mv lim 12).2)))] ⟨rfl, trivial⟩ ?_
    exact kk
  | succ n ih =>
    intro s hin
    obtain ⟨hb1, hb2⟩ := ck_le rd mv lim s
    rcases (by omega : (bt mv s = 1 ∧ ¬ bt rd s = 1) ∨ (bt mv s = 1 ∧ bt rd s = 1) ∨ (¬ bt mv s = 1 ∧ ¬ bt rd s = 1) ∨ (¬ bt mv s = 1 ∧ bt rd s = 1 ∧ (ck rd mv lim s).1 = 0) ∨ (¬ bt mv s = 1 ∧ bt rd s = 1 ∧ ¬ (ck rd mv lim s).1 = 0 ∧ lim ≤ s + 1 - (ck rd mv lim s).1) ∨ (¬ bt mv s = 1 ∧ bt rd s = 1 ∧ ¬ (ck rd mv lim s).1 = 0 ∧ ¬ lim ≤ s + 1 - (ck rd mv lim s).1)) with ⟨hmv, hrd⟩ | ⟨hmv, hrd⟩ | ⟨hmv, hrd⟩ | ⟨hmv, hrd, hm0⟩ | ⟨hmv, hrd, hm0, hold⟩ | ⟨hmv, hrd, hm0, hold⟩
    · have hck : ck rd mv lim (s + 1) = (0, (ck rd mv lim s).2) := by show cst rd mv lim s _ = _; unfold cst; simp only [if_pos hmv, if_neg hrd]
      refine g_iload d11_chalkFines_8 rfl ?_
      refine g_bipushv (nI 12) d11_chalkFines_10 rfl ?_
      refine g_ic_ge ((s : Nat) : Int) (12) 74 (nI_ti (by omega)) (by decide) d11_chalkFines_12 rfl (fun c12 => absurd c12 (by omega)) (fun _ => ?_)
      refine g_iload_n d11_chalkFines_15 rfl ?_
      refine g_iload d11_chalkFines_16 rfl ?_
      refine g_ES2 sm11_hasBit ml11_358 (r11_hasBit (mv) (s) (by omega) (by omega) (Nat.le_refl 0)) (by omega) (Nat.le_of_ble_eq_true rfl) d11_chalkFines_18 ?_
      refine g_bz 27 d11_chalkFines_21 rfl (fun c21 => absurd c21 (by omega)) (fun _ => ?_)
      refine g_iconstv ((-1 : Int32)) d11_chalkFines_24 rfl ?_
      refine g_istore d11_chalkFines_25 (by decide) ?_
      refine g_iload_n d11_chalkFines_27 rfl ?_
      refine g_iload d11_chalkFines_28 rfl ?_
      refine g_ES2 sm11_hasBit ml11_358 (r11_hasBit (rd) (s) (by omega) (by omega) (Nat.le_refl 0)) (by omega) (Nat.le_of_ble_eq_true rfl) d11_chalkFines_30 ?_
      refine g_bnz 39 d11_chalkFines_33 rfl (fun c33 => absurd c33 (by omega)) (fun _ => ?_)
      refine g_goto 68 d11_chalkFines_36 rfl ?_
      refine g_iincN d11_chalkFines_68 rfl (by decide) ?_
      refine g_goto 8 d11_chalkFines_71 rfl ?_
      refine g_lo [(0, .int (nI (rd))), (1, .int (nI (mv))), (2, .int (nI (lim))), (3, .int (nI ((ck rd mv lim (s + 1)).2))), (4, .int (mkI (ck rd mv lim (s + 1)).1)), (5, .int (nI (s + 1)))] ⟨rfl, rfl, rfl, by rw [hck]; rfl, by rw [hck]; first | rfl | (show some (Value.int (nI s)) = some (Value.int (mkI (s + 1))); rw [mkI_s]), rfl, trivial⟩ ?_
      exact ih (s + 1) (by omega)
    · have hck : ck rd mv lim (s + 1) = (s + 1, (ck rd mv lim s).2) := by show cst rd mv lim s _ = _; unfold cst; simp only [if_pos hmv, if_pos hrd, if_true]
      refine g_iload d11_chalkFines_8 rfl ?_
      refine g_bipushv (nI 12) d11_chalkFines_10 rfl ?_
      refine g_ic_ge ((s : Nat) : Int) (12) 74 (nI_ti (by omega)) (by decide) d11_chalkFines_12 rfl (fun c12 => absurd c12 (by omega)) (fun _ => ?_)
      refine g_iload_n d11_chalkFines_15 rfl ?_
      refine g_iload d11_chalkFines_16 rfl ?_
      refine g_ES2 sm11_hasBit ml11_358 (r11_hasBit (mv) (s) (by omega) (by omega) (Nat.le_refl 0)) (by omega) (Nat.le_of_ble_eq_true rfl) d11_chalkFines_18 ?_
      refine g_bz 27 d11_chalkFines_21 rfl (fun c21 => absurd c21 (by omega)) (fun _ => ?_)
      refine g_iconstv ((-1 : Int32)) d11_chalkFines_24 rfl ?_
      refine g_istore d11_chalkFines_25 (by decide) ?_
      refine g_iload_n d11_chalkFines_27 rfl ?_
      refine g_iload d11_chalkFines_28 rfl ?_
      refine g_ES2 sm11_hasBit ml11_358 (r11_hasBit (rd) (s) (by omega) (by omega) (Nat.le_refl 0)) (by omega) (Nat.le_of_ble_eq_true rfl) d11_chalkFines_30 ?_
      refine g_bnz 39 d11_chalkFines_33 rfl (fun _ => ?_) (fun c33 => absurd c33 (by omega))
      refine g_iload d11_chalkFines_39 rfl ?_
      refine g_iconstv ((-1 : Int32)) d11_chalkFines_41 rfl ?_
      refine g_ic_ne (-1) (-1) 52 (by decide) (by decide) d11_chalkFines_42 rfl (fun c42 => absurd c42 (by omega)) (fun _ => ?_)
      refine g_iload d11_chalkFines_45 rfl ?_
      refine g_istore d11_chalkFines_47 (by decide) ?_
      refine g_goto 68 d11_chalkFines_49 rfl ?_
      refine g_iincN d11_chalkFines_68 rfl (by decide) ?_
      refine g_goto 8 d11_chalkFines_71 rfl ?_
      refine g_lo [(0, .int (nI (rd))), (1, .int (nI (mv))), (2, .int (nI (lim))), (3, .int (nI ((ck rd mv lim (s + 1)).2))), (4, .int (mkI (ck rd mv lim (s + 1)).1)), (5, .int (nI (s + 1)))] ⟨rfl, rfl, rfl, by rw [hck]; rfl, by rw [hck]; first | rfl | (show some (Value.int (nI s)) = some (Value.int (mkI (s + 1))); rw [mkI_s]), rfl, trivial⟩ ?_
      exact ih (s + 1) (by omega)
    · have hck : ck rd mv lim (s + 1) = ((ck rd mv lim s).1, (ck rd mv lim s).2) := by show cst rd mv lim s _ = _; unfold cst; simp only [if_neg hmv, if_neg hrd]
      refine g_iload d11_chalkFines_8 rfl ?_
      refine g_bipushv (nI 12) d11_chalkFines_10 rfl ?_
      refine g_ic_ge ((s : Nat) : Int) (12) 74 (nI_ti (by omega)) (by decide) d11_chalkFines_12 rfl (fun c12 => absurd c12 (by omega)) (fun _ => ?_)
      refine g_iload_n d11_chalkFines_15 rfl ?_
      refine g_iload d11_chalkFines_16 rfl ?_
      refine g_ES2 sm11_hasBit ml11_358 (r11_hasBit (mv) (s) (by omega) (by omega) (Nat.le_refl 0)) (by omega) (Nat.le_of_ble_eq_true rfl) d11_chalkFines_18 ?_
      refine g_bz 27 d11_chalkFines_21 rfl (fun _ => ?_) (fun c21 => absurd c21 (by omega))
      refine g_iload_n d11_chalkFines_27 rfl ?_
      refine g_iload d11_chalkFines_28 rfl ?_
      refine g_ES2 sm11_hasBit ml11_358 (r11_hasBit (rd) (s) (by omega) (by omega) (Nat.le_refl 0)) (by omega) (Nat.le_of_ble_eq_true rfl) d11_chalkFines_30 ?_
      refine g_bnz 39 d11_chalkFines_33 rfl (fun c33 => absurd c33 (by omega)) (fun _ => ?_)
      refine g_goto 68 d11_chalkFines_36 rfl ?_
      refine g_iincN d11_chalkFines_68 rfl (by decide) ?_
      refine g_goto 8 d11_chalkFines_71 rfl ?_
      refine g_lo [(0, .int (nI (rd))), (1, .int (nI (mv))), (2, .int (nI (lim))), (3, .int (nI ((ck rd mv lim (s + 1)).2))), (4, .int (mkI (ck rd mv lim (s + 1)).1)), (5, .int (nI (s + 1)))] ⟨rfl, rfl, rfl, by rw [hck]; rfl, by rw [hck]; first | rfl | (show some (Value.int (nI s)) = some (Value.int (mkI (s + 1))); rw [mkI_s]), rfl, trivial⟩ ?_
      exact ih (s + 1) (by omega)
    · have hck : ck rd mv lim (s + 1) = (s + 1, (ck rd mv lim s).2) := by show cst rd mv lim s _ = _; unfold cst; simp only [if_neg hmv, if_pos hrd, if_pos hm0]
      refine g_iload d11_chalkFines_8 rfl ?_
      refine g_bipushv (nI 12) d11_chalkFines_10 rfl ?_
      refine g_ic_ge ((s : Nat) : Int) (12) 74 (nI_ti (by omega)) (by decide) d11_chalkFines_12 rfl (fun c12 => absurd c12 (by omega)) (fun _ => ?_)
      refine g_iload_n d11_chalkFines_15 rfl ?_
      refine g_iload d11_chalkFines_16 rfl ?_
      refine g_ES2 sm11_hasBit ml11_358 (r11_hasBit (mv) (s) (by omega) (by omega) (Nat.le_refl 0)) (by omega) (Nat.le_of_ble_eq_true rfl) d11_chalkFines_18 ?_
      refine g_bz 27 d11_chalkFines_21 rfl (fun _ => ?_) (fun c21 => absurd c21 (by omega))
      refine g_iload_n d11_chalkFines_27 rfl ?_
      refine g_iload d11_chalkFines_28 rfl ?_
      refine g_ES2 sm11_hasBit ml11_358 (r11_hasBit (rd) (s) (by omega) (by omega) (Nat.le_refl 0)) (by omega) (Nat.le_of_ble_eq_true rfl) d11_chalkFines_30 ?_
      refine g_bnz 39 d11_chalkFines_33 rfl (fun _ => ?_) (fun c33 => absurd c33 (by omega))
      refine g_iload d11_chalkFines_39 rfl ?_
      refine g_iconstv ((-1 : Int32)) d11_chalkFines_41 rfl ?_
      refine g_ic_ne ((((ck rd mv lim s).1 : Nat) : Int) - 1) (-1) 52 (mkI_ti (by omega)) (by decide) d11_chalkFines_42 rfl (fun c42 => absurd c42 (by omega)) (fun _ => ?_)
      refine g_iload d11_chalkFines_45 rfl ?_
      refine g_istore d11_chalkFines_47 (by decide) ?_
      refine g_goto 68 d11_chalkFines_49 rfl ?_
      refine g_iincN d11_chalkFines_68 rfl (by decide) ?_
      refine g_goto 8 d11_chalkFines_71 rfl ?_
      refine g_lo [(0, .int (nI (rd))), (1, .int (nI (mv))), (2, .int (nI (lim))), (3, .int (nI ((ck rd mv lim (s + 1)).2))), (4, .int (mkI (ck rd mv lim (s + 1)).1)), (5, .int (nI (s + 1)))] ⟨rfl, rfl, rfl, by rw [hck]; rfl, by rw [hck]; first | rfl | (show some (Value.int (nI s)) = some (Value.int (mkI (s + 1))); rw [mkI_s]), rfl, trivial⟩ ?_
      exact ih (s + 1) (by omega)
    · have hck : ck rd mv lim (s + 1) = (s + 1, (ck rd mv lim s).2 + 1) := by show cst rd mv lim s _ = _; unfold cst; simp only [if_neg hmv, if_pos hrd, if_neg hm0, if_pos hold]
      refine g_iload d11_chalkFines_8 rfl ?_
      refine g_bipushv (nI 12) d11_chalkFines_10 rfl ?_
      refine g_ic_ge ((s : Nat) : Int) (12) 74 (nI_ti (by omega)) (by decide) d11_chalkFines_12 rfl (fun c12 => absurd c12 (by omega)) (fun _ => ?_)
      refine g_iload_n d11_chalkFines_15 rfl ?_
      refine g_iload d11_chalkFines_16 rfl ?_
      refine g_ES2 sm11_hasBit ml11_358 (r11_hasBit (mv) (s) (by omega) (by omega) (Nat.le_refl 0)) (by omega) (Nat.le_of_ble_eq_true rfl) d11_chalkFines_18 ?_
      refine g_bz 27 d11_chalkFines_21 rfl (fun _ => ?_) (fun c21 => absurd c21 (by omega))
      refine g_iload_n d11_chalkFines_27 rfl ?_
      refine g_iload d11_chalkFines_28 rfl ?_
      refine g_ES2 sm11_hasBit ml11_358 (r11_hasBit (rd) (s) (by omega) (by omega) (Nat.le_refl 0)) (by omega) (Nat.le_of_ble_eq_true rfl) d11_chalkFines_30 ?_
      refine g_bnz 39 d11_chalkFines_33 rfl (fun _ => ?_) (fun c33 => absurd c33 (by omega))
      refine g_iload d11_chalkFines_39 rfl ?_
      refine g_iconstv ((-1 : Int32)) d11_chalkFines_41 rfl ?_
      refine g_ic_ne ((((ck rd mv lim s).1 : Nat) : Int) - 1) (-1) 52 (mkI_ti (by omega)) (by decide) d11_chalkFines_42 rfl (fun _ => ?_) (fun c42 => absurd c42 (by omega))
      refine g_iload d11_chalkFines_52 rfl ?_
      refine g_iload d11_chalkFines_54 rfl ?_
      refine g_topI (nI ((ck rd mv lim s).1 - 1)) (mkI_p (by omega)) ?_
      refine g_isubN (by omega) d11_chalkFines_56 ?_
      refine g_iload_n d11_chalkFines_57 rfl ?_
      refine g_ic_lt (((s - ((ck rd mv lim s).1 - 1)) : Nat) : Int) ((lim : Nat) : Int) 68 (nI_ti (by omega)) (nI_ti (by omega)) d11_chalkFines_58 rfl (fun c58 => absurd c58 (by omega)) (fun _ => ?_)
      refine g_iincN d11_chalkFines_61 rfl (by decide) ?_
      refine g_iload d11_chalkFines_64 rfl ?_
      refine g_istore d11_chalkFines_66 (by decide) ?_
      refine g_iincN d11_chalkFines_68 rfl (by decide) ?_
      refine g_goto 8 d11_chalkFines_71 rfl ?_
      refine g_lo [(0, .int (nI (rd))), (1, .int (nI (mv))), (2, .int (nI (lim))), (3, .int (nI ((ck rd mv lim (s + 1)).2))), (4, .int (mkI (ck rd mv lim (s + 1)).1)), (5, .int (nI (s + 1)))] ⟨rfl, rfl, rfl, by rw [hck]; rfl, by rw [hck]; first | rfl | (show some (Value.int (nI s)) = some (Value.int (mkI (s + 1))); rw [mkI_s]), rfl, trivial⟩ ?_
      exact ih (s + 1) (by omega)
    · have hck : ck rd mv lim (s + 1) = ((ck rd mv lim s).1, (ck rd mv lim s).2) := by show cst rd mv lim s _ = _; unfold cst; simp only [if_neg hmv, if_pos hrd, if_neg hm0, if_neg hold]
      refine g_iload d11_chalkFines_8 rfl ?_
      refine g_bipushv (nI 12) d11_chalkFines_10 rfl ?_
      refine g_ic_ge ((s : Nat) : Int) (12) 74 (nI_ti (by omega)) (by decide) d11_chalkFines_12 rfl (fun c12 => absurd c12 (by omega)) (fun _ => ?_)
      refine g_iload_n d11_chalkFines_15 rfl ?_
      refine g_iload d11_chalkFines_16 rfl ?_
      refine g_ES2 sm11_hasBit ml11_358 (r11_hasBit (mv) (s) (by omega) (by omega) (Nat.le_refl 0)) (by omega) (Nat.le_of_ble_eq_true rfl) d11_chalkFines_18 ?_
      refine g_bz 27 d11_chalkFines_21 rfl (fun _ => ?_) (fun c21 => absurd c21 (by omega))
      refine g_iload_n d11_chalkFines_27 rfl ?_
      refine g_iload d11_chalkFines_28 rfl ?_
      refine g_ES2 sm11_hasBit ml11_358 (r11_hasBit (rd) (s) (by omega) (by omega) (Nat.le_refl 0)) (by omega) (Nat.le_of_ble_eq_true rfl) d11_chalkFines_30 ?_
      refine g_bnz 39 d11_chalkFines_33 rfl (fun _ => ?_) (fun c33 => absurd c33 (by omega))
      refine g_iload d11_chalkFines_39 rfl ?_
      refine g_iconstv ((-1 : Int32)) d11_chalkFines_41 rfl ?_
      refine g_ic_ne ((((ck rd mv lim s).1 : Nat) : Int) - 1) (-1) 52 (mkI_ti (by omega)) (by decide) d11_chalkFines_42 rfl (fun _ => ?_) (fun c42 => absurd c42 (by omega))
      refine g_iload d11_chalkFines_52 rfl ?_
      refine g_iload d11_chalkFines_54 rfl ?_
      refine g_topI (nI ((ck rd mv lim s).1 - 1)) (mkI_p (by omega)) ?_
      refine g_isubN (by omega) d11_chalkFines_56 ?_
      refine g_iload_n d11_chalkFines_57 rfl ?_
      refine g_ic_lt (((s - ((ck rd mv lim s).1 - 1)) : Nat) : Int) ((lim : Nat) : Int) 68 (nI_ti (by omega)) (nI_ti (by omega)) d11_chalkFines_58 rfl (fun _ => ?_) (fun c58 => absurd c58 (by omega))
      refine g_iincN d11_chalkFines_68 rfl (by decide) ?_
      refine g_goto 8 d11_chalkFines_71 rfl ?_
      refine g_lo [(0, .int (nI (rd))), (1, .int (nI (mv))), (2, .int (nI (lim))), (3, .int (nI ((ck rd mv lim (s + 1)).2))), (4, .int (mkI (ck rd mv lim (s + 1)).1)), (5, .int (nI (s + 1)))] ⟨rfl, rfl, rfl, by rw [hck]; rfl, by rw [hck]; first | rfl | (show some (Value.int (nI s)) = some (Value.int (mkI (s + 1))); rw [mkI_s]), rfl, trivial⟩ ?_
      exact ih (s + 1) (by omega)
set_option maxHeartbeats 200000 in
theorem r11_chalkFines {l : Launch} {K : cK} {d : Nat} {h : cH} (rd mv lim : Nat) (hr : rd < 2147483648) (hv : mv < 2147483648) (hl : lim < 1000) (hd : 1 ≤ d) : CE l K m11_chalkFines d [.int (nI rd), .int (nI mv), .int (nI lim)] h (.int (nI (ck rd mv lim 12).2)) h := by
  refine CC.of ok11_chalkFines (Nat.le_of_ble_eq_true rfl) ?_
  refine g_iconstv (nI 0) d11_chalkFines_0 rfl ?_
  refine g_istore_n d11_chalkFines_1 (by decide) ?_
  refine g_iconstv ((-1 : Int32)) d11_chalkFines_2 rfl ?_
  refine g_istore d11_chalkFines_3 (by decide) ?_
  refine g_iconstv (nI 0) d11_chalkFines_5 rfl ?_
  refine g_istore d11_chalkFines_6 (by decide) ?_
  refine g_lo [(0, .int (nI (rd))), (1, .int (nI (mv))), (2, .int (nI (lim))), (3, .int (nI ((ck rd mv lim (0)).2))), (4, .int (mkI (ck rd mv lim (0)).1)), (5, .int (nI (0)))] ⟨rfl, rfl, rfl, rfl, rfl, rfl, trivial⟩ ?_
  refine r11_ckL rd mv lim hr hv hl hd ?_ 12 0 (by omega)
  refine g_iload_n d11_chalkFines_74 rfl ?_
  exact g_iret rfl d11_chalkFines_75 (⟨rfl, rfl⟩)
def bI : Option Nat → Int32
  | none => -1
  | some b => nI b
set_option maxHeartbeats 1000000 in
theorem r11_mvL {l : Launch} {K : cK} {d : Nat} {h : cH} (rd lim mark ar : Nat) (A : Nat → Int32) (f : Nat → Nat) (hr : rd < 4096) (hl : lim ≤ 12) (hmk : mark < 12) (hA : aI h ar 0 = some (12, A)) (hf : ∀ r, mark < r → r < 12 → bt rd r = 1 → A r = nI (f r) ∧ f r < 4096) (hd : 2 ≤ d) :
    ∀ (k nx ah : Nat) (b : Option Nat), nx + k = 12 → mark ≤ ah → ah < nx → (∀ x, b = some x → x < 4096) → GL l K m11_movesBehind d 0 0 11 [(0, .int (nI rd)), (1, .int (nI lim)), (2, .int (nI mark)), (3, .ref ar), (4, .int (bI b)), (5, .int (nI ah)), (6, .int (nI nx))] [] h (fun r h1 => r = some (.int (nI (mvB rd lim f mark k nx ah b))) ∧ h1 = h) := by
  intro k
  induction k with
  | zero =>
    intro nx ah b hk h1 h2 hb
    obtain rfl : nx = 12 := by omega
    refine g_iload d11_movesBehind_11 rfl ?_
    refine g_bipushv (nI 12) d11_movesBehind_13 rfl ?_
    refine g_ic_ge (12) (12) 84 (by decide) (by decide) d11_movesBehind_15 rfl (fun _ => ?_) (fun c15 => absurd c15 (by decide))
    refine g_iconstv (nI 0) d11_movesBehind_84 rfl ?_
    exact g_iret rfl d11_movesBehind_85 (⟨rfl, rfl⟩)
  | succ k ih =>
    intro nx ah b hk h1 h2 hb
    by_cases hrd : bt rd nx = 1
    · obtain ⟨f1, f2⟩ := hf nx (by omega) (by omega) hrd
      have hc : (f nx ||| 2 ^ (ah + 1)) < 4096 := or_lt f2 (by omega)
      have hp : ∀ x, b = some x → pkB (f nx ||| 2 ^ (ah + 1)) b < 4096 := fun x hx => by
        rcases pkB_or (f nx ||| 2 ^ (ah + 1)) b with e | e
        · rw [e]; exact hc
        · exact hb _ e
      by_cases hlm : lim ≤ nx - mark
      · cases b with
        | none =>
          have e0 : pkB (f nx ||| 2 ^ (ah + 1)) none = (f nx ||| 2 ^ (ah + 1)) := rfl
          refine g_iload d11_movesBehind_11 rfl ?_
          refine g_bipushv (nI 12) d11_movesBehind_13 rfl ?_
          refine g_ic_ge ((nx : Nat) : Int) (12) 84 (nI_ti (by omega)) (by decide) d11_movesBehind_15 rfl (fun c15 => absurd c15 (by omega)) (fun _ => ?_)
          refine g_iload_n d11_movesBehind_18 rfl ?_
          refine g_iload d11_movesBehind_19 rfl ?_
          refine g_ES2 sm11_hasBit ml11_358 (r11_hasBit (rd) (nx) (by omega) (by omega) (Nat.le_refl 0)) (by omega) (Nat.le_of_ble_eq_true rfl) d11_movesBehind_21 ?_
          refine g_bnz 30 d11_movesBehind_24 rfl (fun _ => ?_) (fun c24 => absurd c24 (by omega))
          refine g_aload_n d11_movesBehind_30 rfl ?_
          refine g_iload d11_movesBehind_31 rfl ?_
          refine g_ialdN (nx) d11_movesBehind_33 hA (rfl) (by omega) (by decide) ?_
          refine g_topI (nI ((f nx))) (f1) ?_
          refine g_iconstv (nI 1) d11_movesBehind_34 rfl ?_
          refine g_iload d11_movesBehind_35 rfl ?_
          refine g_iconstv (nI 1) d11_movesBehind_37 rfl ?_
          refine g_iaddN d11_movesBehind_38 ?_
          refine g_ishl d11_movesBehind_39 ?_
          refine g_topI (nI (2 ^ (ah + 1))) (shl_k (by omega)) ?_
          refine g_ior d11_movesBehind_40 ?_
          refine g_topI (nI (f nx ||| 2 ^ (ah + 1))) (or_k) ?_
          refine g_istore d11_movesBehind_41 (by decide) ?_
          refine g_iload d11_movesBehind_43 rfl ?_
          refine g_iconstv ((-1 : Int32)) d11_movesBehind_45 rfl ?_
          refine g_ic_eq (-1) (-1) 59 (by decide) (by decide) d11_movesBehind_46 rfl (fun _ => ?_) (fun c46 => absurd c46 (by decide))
          refine g_iload d11_movesBehind_59 rfl ?_
          refine g_istore d11_movesBehind_61 (by decide) ?_
          refine g_iload d11_movesBehind_63 rfl ?_
          refine g_iload_n d11_movesBehind_65 rfl ?_
          refine g_isubN (by omega) d11_movesBehind_66 ?_
          refine g_iload_n d11_movesBehind_67 rfl ?_
          refine g_ic_lt (((nx - mark) : Nat) : Int) ((lim : Nat) : Int) 74 (nI_ti (by omega)) (nI_ti (by omega)) d11_movesBehind_68 rfl (fun c68 => absurd c68 (by omega)) (fun _ => ?_)
          refine g_iload d11_movesBehind_71 rfl ?_
          exact g_iret rfl d11_movesBehind_73 (⟨congrArg (fun z => some (Value.int z)) (by show nI (f nx ||| 2 ^ (ah + 1)) = nI (if bt rd nx = 1 then _ else _); rw [if_pos hrd, if_pos hlm, e0]), rfl⟩)
        | some x =>
          have hx := hb x rfl
          by_cases hk2 : keyC (f nx ||| 2 ^ (ah + 1)) < keyC x
          · skip
            have e0 : pkB (f nx ||| 2 ^ (ah + 1)) (some x) = (f nx ||| 2 ^ (ah + 1)) := if_pos hk2
            refine g_iload d11_movesBehind_11 rfl ?_
            refine g_bipushv (nI 12) d11_movesBehind_13 rfl ?_
            refine g_ic_ge ((nx : Nat) : Int) (12) 84 (nI_ti (by omega)) (by decide) d11_movesBehind_15 rfl (fun c15 => absurd c15 (by omega)) (fun _ => ?_)
            refine g_iload_n d11_movesBehind_18 rfl ?_
            refine g_iload d11_movesBehind_19 rfl ?_
            refine g_ES2 sm11_hasBit ml11_358 (r11_hasBit (rd) (nx) (by omega) (by omega) (Nat.le_refl 0)) (by omega) (Nat.le_of_ble_eq_true rfl) d11_movesBehind_21 ?_
            refine g_bnz 30 d11_movesBehind_24 rfl (fun _ => ?_) (fun c24 => absurd c24 (by omega))
            refine g_aload_n d11_movesBehind_30 rfl ?_
            refine g_iload d11_movesBehind_31 rfl ?_
            refine g_ialdN (nx) d11_movesBehind_33 hA (rfl) (by omega) (by decide) ?_
            refine g_topI (nI ((f nx))) (f1) ?_
            refine g_iconstv (nI 1) d11_movesBehind_34 rfl ?_
            refine g_iload d11_movesBehind_35 rfl ?_
            refine g_iconstv (nI 1) d11_movesBehind_37 rfl ?_
            refine g_iaddN d11_movesBehind_38 ?_
            refine g_ishl d11_movesBehind_39 ?_
            refine g_topI (nI (2 ^ (ah + 1))) (shl_k (by omega)) ?_
            refine g_ior d11_movesBehind_40 ?_
            refine g_topI (nI (f nx ||| 2 ^ (ah + 1))) (or_k) ?_
            refine g_istore d11_movesBehind_41 (by decide) ?_
            refine g_iload d11_movesBehind_43 rfl ?_
            refine g_iconstv ((-1 : Int32)) d11_movesBehind_45 rfl ?_
            refine g_ic_eq ((x : Nat) : Int) (-1) 59 (nI_ti (by omega)) (by decide) d11_movesBehind_46 rfl (fun c46 => absurd c46 (by omega)) (fun _ => ?_)
            refine g_iload d11_movesBehind_49 rfl ?_
            refine g_iload d11_movesBehind_51 rfl ?_
            refine g_ES2 sm11_fewerOrLower ml11_366 (r11_fewer ((f nx ||| 2 ^ (ah + 1))) (x) (by omega) (by omega) (Nat.le_refl 1)) (by omega) (Nat.le_of_ble_eq_true rfl) d11_movesBehind_53 ?_
            refine g_bz 63 d11_movesBehind_56 rfl (fun c56 => absurd c56 (by omega)) (fun _ => ?_)
            refine g_iload d11_movesBehind_59 rfl ?_
            refine g_istore d11_movesBehind_61 (by decide) ?_
            refine g_iload d11_movesBehind_63 rfl ?_
            refine g_iload_n d11_movesBehind_65 rfl ?_
            refine g_isubN (by omega) d11_movesBehind_66 ?_
            refine g_iload_n d11_movesBehind_67 rfl ?_
            refine g_ic_lt (((nx - mark) : Nat) : Int) ((lim : Nat) : Int) 74 (nI_ti (by omega)) (nI_ti (by omega)) d11_movesBehind_68 rfl (fun c68 => absurd c68 (by omega)) (fun _ => ?_)
            refine g_iload d11_movesBehind_71 rfl ?_
            exact g_iret rfl d11_movesBehind_73 (⟨congrArg (fun z => some (Value.int z)) (by show nI (f nx ||| 2 ^ (ah + 1)) = nI (if bt rd nx = 1 then _ else _); rw [if_pos hrd, if_pos hlm, e0]), rfl⟩)
          · skip
            have e0 : pkB (f nx ||| 2 ^ (ah + 1)) (some x) = x := if_neg hk2
            refine g_iload d11_movesBehind_11 rfl ?_
            refine g_bipushv (nI 12) d11_movesBehind_13 rfl ?_
            refine g_ic_ge ((nx : Nat) : Int) (12) 84 (nI_ti (by omega)) (by decide) d11_movesBehind_15 rfl (fun c15 => absurd c15 (by omega)) (fun _ => ?_)
            refine g_iload_n d11_movesBehind_18 rfl ?_
            refine g_iload d11_movesBehind_19 rfl ?_
            refine g_ES2 sm11_hasBit ml11_358 (r11_hasBit (rd) (nx) (by omega) (by omega) (Nat.le_refl 0)) (by omega) (Nat.le_of_ble_eq_true rfl) d11_movesBehind_21 ?_
            refine g_bnz 30 d11_movesBehind_24 rfl (fun _ => ?_) (fun c24 => absurd c24 (by omega))
            refine g_aload_n d11_movesBehind_30 rfl ?_
            refine g_iload d11_movesBehind_31 rfl ?_
            refine g_ialdN (nx) d11_movesBehind_33 hA (rfl) (by omega) (by decide) ?_
            refine g_topI (nI ((f nx))) (f1) ?_
            refine g_iconstv (nI 1) d11_movesBehind_34 rfl ?_
            refine g_iload d11_movesBehind_35 rfl ?_
            refine g_iconstv (nI 1) d11_movesBehind_37 rfl ?_
            refine g_iaddN d11_movesBehind_38 ?_
            refine g_ishl d11_movesBehind_39 ?_
            refine g_topI (nI (2 ^ (ah + 1))) (shl_k (by omega)) ?_
            refine g_ior d11_movesBehind_40 ?_
            refine g_topI (nI (f nx ||| 2 ^ (ah + 1))) (or_k) ?_
            refine g_istore d11_movesBehind_41 (by decide) ?_
            refine g_iload d11_movesBehind_43 rfl ?_
            refine g_iconstv ((-1 : Int32)) d11_movesBehind_45 rfl ?_
            refine g_ic_eq ((x : Nat) : Int) (-1) 59 (nI_ti (by omega)) (by decide) d11_movesBehind_46 rfl (fun c46 => absurd c46 (by omega)) (fun _ => ?_)
            refine g_iload d11_movesBehind_49 rfl ?_
            refine g_iload d11_movesBehind_51 rfl ?_
            refine g_ES2 sm11_fewerOrLower ml11_366 (r11_fewer ((f nx ||| 2 ^ (ah + 1))) (x) (by omega) (by omega) (Nat.le_refl 1)) (by omega) (Nat.le_of_ble_eq_true rfl) d11_movesBehind_53 ?_
            refine g_bz 63 d11_movesBehind_56 rfl (fun _ => ?_) (fun c56 => absurd c56 (by omega))
            refine g_iload d11_movesBehind_63 rfl ?_
            refine g_iload_n d11_movesBehind_65 rfl ?_
            refine g_isubN (by omega) d11_movesBehind_66 ?_
            refine g_iload_n d11_movesBehind_67 rfl ?_
            refine g_ic_lt (((nx - mark) : Nat) : Int) ((lim : Nat) : Int) 74 (nI_ti (by omega)) (nI_ti (by omega)) d11_movesBehind_68 rfl (fun c68 => absurd c68 (by omega)) (fun _ => ?_)
            refine g_iload d11_movesBehind_71 rfl ?_
            exact g_iret rfl d11_movesBehind_73 (⟨congrArg (fun z => some (Value.int z)) (by show nI x = nI (if bt rd nx = 1 then _ else _); rw [if_pos hrd, if_pos hlm, e0]), rfl⟩)
      · cases b with
        | none =>
          have e0 : pkB (f nx ||| 2 ^ (ah + 1)) none = (f nx ||| 2 ^ (ah + 1)) := rfl
          refine g_iload d11_movesBehind_11 rfl ?_
          refine g_bipushv (nI 12) d11_movesBehind_13 rfl ?_
          refine g_ic_ge ((nx : Nat) : Int) (12) 84 (nI_ti (by omega)) (by decide) d11_movesBehind_15 rfl (fun c15 => absurd c15 (by omega)) (fun _ => ?_)
          refine g_iload_n d11_movesBehind_18 rfl ?_
          refine g_iload d11_movesBehind_19 rfl ?_
          refine g_ES2 sm11_hasBit ml11_358 (r11_hasBit (rd) (nx) (by omega) (by omega) (Nat.le_refl 0)) (by omega) (Nat.le_of_ble_eq_true rfl) d11_movesBehind_21 ?_
          refine g_bnz 30 d11_movesBehind_24 rfl (fun _ => ?_) (fun c24 => absurd c24 (by omega))
          refine g_aload_n d11_movesBehind_30 rfl ?_
          refine g_iload d11_movesBehind_31 rfl ?_
          refine g_ialdN (nx) d11_movesBehind_33 hA (rfl) (by omega) (by decide) ?_
          refine g_topI (nI ((f nx))) (f1) ?_
          refine g_iconstv (nI 1) d11_movesBehind_34 rfl ?_
          refine g_iload d11_movesBehind_35 rfl ?_
          refine g_iconstv (nI 1) d11_movesBehind_37 rfl ?_
          refine g_iaddN d11_movesBehind_38 ?_
          refine g_ishl d11_movesBehind_39 ?_
          refine g_topI (nI (2 ^ (ah + 1))) (shl_k (by omega)) ?_
          refine g_ior d11_movesBehind_40 ?_
          refine g_topI (nI (f nx ||| 2 ^ (ah + 1))) (or_k) ?_
          refine g_istore d11_movesBehind_41 (by decide) ?_
          refine g_iload d11_movesBehind_43 rfl ?_
          refine g_iconstv ((-1 : Int32)) d11_movesBehind_45 rfl ?_
          refine g_ic_eq (-1) (-1) 59 (by decide) (by decide) d11_movesBehind_46 rfl (fun _ => ?_) (fun c46 => absurd c46 (by decide))
          refine g_iload d11_movesBehind_59 rfl ?_
          refine g_istore d11_movesBehind_61 (by decide) ?_
          refine g_iload d11_movesBehind_63 rfl ?_
          refine g_iload_n d11_movesBehind_65 rfl ?_
          refine g_isubN (by omega) d11_movesBehind_66 ?_
          refine g_iload_n d11_movesBehind_67 rfl ?_
          refine g_ic_lt (((nx - mark) : Nat) : Int) ((lim : Nat) : Int) 74 (nI_ti (by omega)) (nI_ti (by omega)) d11_movesBehind_68 rfl (fun _ => ?_) (fun c68 => absurd c68 (by omega))
          refine g_iload d11_movesBehind_74 rfl ?_
          refine g_istore d11_movesBehind_76 (by decide) ?_
          refine g_iincN d11_movesBehind_78 rfl (by decide) ?_
          refine g_goto 11 d11_movesBehind_81 rfl ?_
          refine g_lo [(0, .int (nI rd)), (1, .int (nI lim)), (2, .int (nI mark)), (3, .ref ar), (4, .int (bI (some (f nx ||| 2 ^ (ah + 1))))), (5, .int (nI nx)), (6, .int (nI (nx + 1)))] ⟨rfl, rfl, rfl, rfl, rfl, rfl, rfl, trivial⟩ ?_
          have h9 := ih (nx + 1) nx (some (f nx ||| 2 ^ (ah + 1))) (by omega) (by omega) (by omega) (fun y hy => by cases hy; omega)
          rw [show mvB rd lim f mark (k + 1) nx ah none = mvB rd lim f mark k (nx + 1) nx (some (f nx ||| 2 ^ (ah + 1))) by show (if bt rd nx = 1 then _ else _) = _; rw [if_pos hrd, if_neg hlm, e0]]
          exact h9
        | some x =>
          have hx := hb x rfl
          by_cases hk2 : keyC (f nx ||| 2 ^ (ah + 1)) < keyC x
          · skip
            have e0 : pkB (f nx ||| 2 ^ (ah + 1)) (some x) = (f nx ||| 2 ^ (ah + 1)) := if_pos hk2
            refine g_iload d11_movesBehind_11 rfl ?_
            refine g_bipushv (nI 12) d11_movesBehind_13 rfl ?_
            refine g_ic_ge ((nx : Nat) : Int) (12) 84 (nI_ti (by omega)) (by decide) d11_movesBehind_15 rfl (fun c15 => absurd c15 (by omega)) (fun _ => ?_)
            refine g_iload_n d11_movesBehind_18 rfl ?_
            refine g_iload d11_movesBehind_19 rfl ?_
            refine g_ES2 sm11_hasBit ml11_358 (r11_hasBit (rd) (nx) (by omega) (by omega) (Nat.le_refl 0)) (by omega) (Nat.le_of_ble_eq_true rfl) d11_movesBehind_21 ?_
            refine g_bnz 30 d11_movesBehind_24 rfl (fun _ => ?_) (fun c24 => absurd c24 (by omega))
            refine g_aload_n d11_movesBehind_30 rfl ?_
            refine g_iload d11_movesBehind_31 rfl ?_
            refine g_ialdN (nx) d11_movesBehind_33 hA (rfl) (by omega) (by decide) ?_
            refine g_topI (nI ((f nx))) (f1) ?_
            refine g_iconstv (nI 1) d11_movesBehind_34 rfl ?_
            refine g_iload d11_movesBehind_35 rfl ?_
            refine g_iconstv (nI 1) d11_movesBehind_37 rfl ?_
            refine g_iaddN d11_movesBehind_38 ?_
            refine g_ishl d11_movesBehind_39 ?_
            refine g_topI (nI (2 ^ (ah + 1))) (shl_k (by omega)) ?_
            refine g_ior d11_movesBehind_40 ?_
            refine g_topI (nI (f nx ||| 2 ^ (ah + 1))) (or_k) ?_
            refine g_istore d11_movesBehind_41 (by decide) ?_
            refine g_iload d11_movesBehind_43 rfl ?_
            refine g_iconstv ((-1 : Int32)) d11_movesBehind_45 rfl ?_
            refine g_ic_eq ((x : Nat) : Int) (-1) 59 (nI_ti (by omega)) (by decide) d11_movesBehind_46 rfl (fun c46 => absurd c46 (by omega)) (fun _ => ?_)
            refine g_iload d11_movesBehind_49 rfl ?_
            refine g_iload d11_movesBehind_51 rfl ?_
            refine g_ES2 sm11_fewerOrLower ml11_366 (r11_fewer ((f nx ||| 2 ^ (ah + 1))) (x) (by omega) (by omega) (Nat.le_refl 1)) (by omega) (Nat.le_of_ble_eq_true rfl) d11_movesBehind_53 ?_
            refine g_bz 63 d11_movesBehind_56 rfl (fun c56 => absurd c56 (by omega)) (fun _ => ?_)
            refine g_iload d11_movesBehind_59 rfl ?_
            refine g_istore d11_movesBehind_61 (by decide) ?_
            refine g_iload d11_movesBehind_63 rfl ?_
            refine g_iload_n d11_movesBehind_65 rfl ?_
            refine g_isubN (by omega) d11_movesBehind_66 ?_
            refine g_iload_n d11_movesBehind_67 rfl ?_
            refine g_ic_lt (((nx - mark) : Nat) : Int) ((lim : Nat) : Int) 74 (nI_ti (by omega)) (nI_ti (by omega)) d11_movesBehind_68 rfl (fun _ => ?_) (fun c68 => absurd c68 (by omega))
            refine g_iload d11_movesBehind_74 rfl ?_
            refine g_istore d11_movesBehind_76 (by decide) ?_
            refine g_iincN d11_movesBehind_78 rfl (by decide) ?_
            refine g_goto 11 d11_movesBehind_81 rfl ?_
            refine g_lo [(0, .int (nI rd)), (1, .int (nI lim)), (2, .int (nI mark)), (3, .ref ar), (4, .int (bI (some (f nx ||| 2 ^ (ah + 1))))), (5, .int (nI nx)), (6, .int (nI (nx + 1)))] ⟨rfl, rfl, rfl, rfl, rfl, rfl, rfl, trivial⟩ ?_
            have h9 := ih (nx + 1) nx (some (f nx ||| 2 ^ (ah + 1))) (by omega) (by omega) (by omega) (fun y hy => by cases hy; omega)
            rw [show mvB rd lim f mark (k + 1) nx ah (some x) = mvB rd lim f mark k (nx + 1) nx (some (f nx ||| 2 ^ (ah + 1))) by show (if bt rd nx = 1 then _ else _) = _; rw [if_pos hrd, if_neg hlm, e0]]
            exact h9
          · skip
            have e0 : pkB (f nx ||| 2 ^ (ah + 1)) (some x) = x := if_neg hk2
            refine g_iload d11_movesBehind_11 rfl ?_
            refine g_bipushv (nI 12) d11_movesBehind_13 rfl ?_
            refine g_ic_ge ((nx : Nat) : Int) (12) 84 (nI_ti (by omega)) (by decide) d11_movesBehind_15 rfl (fun c15 => absurd c15 (by omega)) (fun _ => ?_)
            refine g_iload_n d11_movesBehind_18 rfl ?_
            refine g_iload d11_movesBehind_19 rfl ?_
            refine g_ES2 sm11_hasBit ml11_358 (r11_hasBit (rd) (nx) (by omega) (by omega) (Nat.le_refl 0)) (by omega) (Nat.le_of_ble_eq_true rfl) d11_movesBehind_21 ?_
            refine g_bnz 30 d11_movesBehind_24 rfl (fun _ => ?_) (fun c24 => absurd c24 (by omega))
            refine g_aload_n d11_movesBehind_30 rfl ?_
            refine g_iload d11_movesBehind_31 rfl ?_
            refine g_ialdN (nx) d11_movesBehind_33 hA (rfl) (by omega) (by decide) ?_
            refine g_topI (nI ((f nx))) (f1) ?_
            refine g_iconstv (nI 1) d11_movesBehind_34 rfl ?_
            refine g_iload d11_movesBehind_35 rfl ?_
            refine g_iconstv (nI 1) d11_movesBehind_37 rfl ?_
            refine g_iaddN d11_movesBehind_38 ?_
            refine g_ishl d11_movesBehind_39 ?_
            refine g_topI (nI (2 ^ (ah + 1))) (shl_k (by omega)) ?_
            refine g_ior d11_movesBehind_40 ?_
            refine g_topI (nI (f nx ||| 2 ^ (ah + 1))) (or_k) ?_
            refine g_istore d11_movesBehind_41 (by decide) ?_
            refine g_iload d11_movesBehind_43 rfl ?_
            refine g_iconstv ((-1 : Int32)) d11_movesBehind_45 rfl ?_
            refine g_ic_eq ((x : Nat) : Int) (-1) 59 (nI_ti (by omega)) (by decide) d11_movesBehind_46 rfl (fun c46 => absurd c46 (by omega)) (fun _ => ?_)
            refine g_iload d11_movesBehind_49 rfl ?_
            refine g_iload d11_movesBehind_51 rfl ?_
            refine g_ES2 sm11_fewerOrLower ml11_366 (r11_fewer ((f nx ||| 2 ^ (ah + 1))) (x) (by omega) (by omega) (Nat.le_refl 1)) (by omega) (Nat.le_of_ble_eq_true rfl) d11_movesBehind_53 ?_
            refine g_bz 63 d11_movesBehind_56 rfl (fun _ => ?_) (fun c56 => absurd c56 (by omega))
            refine g_iload d11_movesBehind_63 rfl ?_
            refine g_iload_n d11_movesBehind_65 rfl ?_
            refine g_isubN (by omega) d11_movesBehind_66 ?_
            refine g_iload_n d11_movesBehind_67 rfl ?_
            refine g_ic_lt (((nx - mark) : Nat) : Int) ((lim : Nat) : Int) 74 (nI_ti (by omega)) (nI_ti (by omega)) d11_movesBehind_68 rfl (fun _ => ?_) (fun c68 => absurd c68 (by omega))
            refine g_iload d11_movesBehind_74 rfl ?_
            refine g_istore d11_movesBehind_76 (by decide) ?_
            refine g_iincN d11_movesBehind_78 rfl (by decide) ?_
            refine g_goto 11 d11_movesBehind_81 rfl ?_
            refine g_lo [(0, .int (nI rd)), (1, .int (nI lim)), (2, .int (nI mark)), (3, .ref ar), (4, .int (bI (some x))), (5, .int (nI nx)), (6, .int (nI (nx + 1)))] ⟨rfl, rfl, rfl, rfl, rfl, rfl, rfl, trivial⟩ ?_
            have h9 := ih (nx + 1) nx (some x) (by omega) (by omega) (by omega) (fun y hy => by cases hy; omega)
            rw [show mvB rd lim f mark (k + 1) nx ah (some x) = mvB rd lim f mark k (nx + 1) nx (some x) by show (if bt rd nx = 1 then _ else _) = _; rw [if_pos hrd, if_neg hlm, e0]]
            exact h9
    · skip
      refine g_iload d11_movesBehind_11 rfl ?_
      refine g_bipushv (nI 12) d11_movesBehind_13 rfl ?_
      refine g_ic_ge ((nx : Nat) : Int) (12) 84 (nI_ti (by omega)) (by decide) d11_movesBehind_15 rfl (fun c15 => absurd c15 (by omega)) (fun _ => ?_)
      refine g_iload_n d11_movesBehind_18 rfl ?_
      refine g_iload d11_movesBehind_19 rfl ?_
      refine g_ES2 sm11_hasBit ml11_358 (r11_hasBit (rd) (nx) (by omega) (by omega) (Nat.le_refl 0)) (by omega) (Nat.le_of_ble_eq_true rfl) d11_movesBehind_21 ?_
      refine g_bnz 30 d11_movesBehind_24 rfl (fun c24 => absurd c24 (by omega)) (fun _ => ?_)
      refine g_goto 78 d11_movesBehind_27 rfl ?_
      refine g_iincN d11_movesBehind_78 rfl (by decide) ?_
      refine g_goto 11 d11_movesBehind_81 rfl ?_
      refine g_lo [(0, .int (nI rd)), (1, .int (nI lim)), (2, .int (nI mark)), (3, .ref ar), (4, .int (bI b)), (5, .int (nI ah)), (6, .int (nI (nx + 1)))] ⟨rfl, rfl, rfl, rfl, rfl, rfl, rfl, trivial⟩ ?_
      rw [show mvB rd lim f mark (k + 1) nx ah b = mvB rd lim f mark k (nx + 1) ah b from if_neg hrd]
      exact ih (nx + 1) ah b (by omega) h1 (by omega) hb
set_option maxHeartbeats 200000 in
theorem r11_movesBehind {l : Launch} {K : cK} {d : Nat} {h : cH} (rd lim mark ar : Nat) (A : Nat → Int32) (f : Nat → Nat) (hr : rd < 4096) (hl : lim ≤ 12) (hmk : mark < 12) (hA : aI h ar 0 = some (12, A)) (hf : ∀ r, mark < r → r < 12 → bt rd r = 1 → A r = nI (f r) ∧ f r < 4096) (hd : 2 ≤ d) : CE l K m11_movesBehind d [.int (nI rd), .int (nI lim), .int (nI mark), .ref ar] h (.int (nI (mvB rd lim f mark (11 - mark) (mark + 1) mark none))) h := by
  refine CC.of ok11_movesBehind (Nat.le_of_ble_eq_true rfl) ?_
  refine g_iconstv ((-1 : Int32)) d11_movesBehind_0 rfl ?_
  refine g_istore d11_movesBehind_1 (by decide) ?_
  refine g_iload_n d11_movesBehind_3 rfl ?_
  refine g_istore d11_movesBehind_4 (by decide) ?_
  refine g_iload_n d11_movesBehind_6 rfl ?_
  refine g_iconstv (nI 1) d11_movesBehind_7 rfl ?_
  refine g_iaddN d11_movesBehind_8 ?_
  refine g_istore d11_movesBehind_9 (by decide) ?_
  refine g_lo [(0, .int (nI rd)), (1, .int (nI lim)), (2, .int (nI mark)), (3, .ref ar), (4, .int (bI none)), (5, .int (nI mark)), (6, .int (nI (mark + 1)))] ⟨rfl, rfl, rfl, rfl, rfl, rfl, rfl, trivial⟩ ?_
  exact r11_mvL rd lim mark ar A f hr hl hmk hA hf hd (11 - mark) (mark + 1) mark none (by omega) (Nat.le_refl _) (by omega) (fun x hx => by cases hx)
