abbrev wI : Type := Nat → Nat → Int32
abbrev wL : Type := Nat → Nat → Int64
abbrev wR : Type := Nat → Nat → Option Nat
def uI (I : wI) (k j : Nat) (x : Int32) : wI := fun a => if a = k then upd (I k) j x else I a
def uL (L : wL) (k j : Nat) (x : Int64) : wL := fun a => if a = k then vp_updL (L k) j x else L a
def uR (R : wR) (k j : Nat) (x : Option Nat) : wR := fun a => if a = k then va_up (R k) j x else R a
/-- the world: cell k's place j holds I k j, L k j or R k j -/
def hp (I : wI) (L : wL) (R : wR) (dy : cH) : cH :=
  .inr (11, [.ref 1, .ref 10, .ref 11, .ref 12, .ref 14, .ref 21, .ref 28, .ref 29, .ref 39, .ref 44, .ref 51, .ref 53, .ref 54, .ref 55, .int (I 0 14), .int (I 0 15), .int (I 0 16)]) ::
  .inr (6, [.int (I 1 0), .ref 2, .ref 3, .int (I 1 3), .ref 4, .int (I 1 5), .int (I 1 6), .ref 5, .int (I 1 8), .ref 6, .ref 7, .int (I 1 11), .ref 8, .ref 9]) ::
  .inl (0, 24, .inl (I 2)) ::
  .inl (0, 8, .inl (I 3)) ::
  .inl (3, 6, .inr (.inr (.inr (.inr (R 4))))) ::
  .inl (3, 6, .inr (.inr (.inr (.inr (R 5))))) ::
  .inl (0, 6, .inl (I 6)) ::
  .inl (0, 6, .inl (I 7)) ::
  .inl (0, 12, .inl (I 8)) ::
  .inl (0, 12, .inl (I 9)) ::
  .inl (4, 2, .inr (.inr (.inr (.inr (R 10))))) ::
  .inl (2, 2, .inl (I 11)) ::
  .inr (8, [.ref 13, .int (I 12 1), .int (I 12 2), .int (I 12 3), .int (I 12 4), .int (I 12 5)]) ::
  .inl (0, 400, .inl (I 13)) ::
  .inr (4, [.ref 12, .int (I 14 1), .int (I 14 2), .int (I 14 3), .int (I 14 4), .int (I 14 5), .ref 15, .ref 16, .ref 17, .ref 18, .int (I 14 10), .ref 19, .ref 20]) ::
  .inl (0, 12, .inl (I 15)) ::
  .inl (0, 12, .inl (I 16)) ::
  .inl (0, 12, .inl (I 17)) ::
  .inl (0, 12, .inl (I 18)) ::
  .inl (0, 400, .inl (I 19)) ::
  .inl (0, 400, .inl (I 20)) ::
  .inr (10, [.ref 22, rfv (R 21 1), .ref 25, .ref 26, .ref 27]) ::
  .inr (5, [.ref 23, .ref 24, .int (I 22 2), .int (I 22 3), .long (L 22 4)]) ::
  .inl (0, 7, .inl (I 23)) ::
  .inl (1, 64, .inr (.inl (L 24))) ::
  .inl (0, 12, .inl (I 25)) ::
  .inl (0, 156, .inl (I 26)) ::
  .inl (1, 169, .inr (.inl (L 27))) ::
  .inr (7, [.int (I 28 0), .int (I 28 1), .int (I 28 2), .int (I 28 3), .int (I 28 4), .int (I 28 5), .int (I 28 6), .int (I 28 7)]) ::
  .inr (0, [.ref 21, .ref 28, .ref 30, .ref 33, .ref 34, .ref 35, .ref 36, .ref 37, .ref 38]) ::
  .inr (5, [.ref 31, .ref 32, .int (I 30 2), .int (I 30 3), .long (L 30 4)]) ::
  .inl (0, 7, .inl (I 31)) ::
  .inl (1, 64, .inr (.inl (L 32))) ::
  .inl (1, 13, .inr (.inl (L 33))) ::
  .inl (1, 13, .inr (.inl (L 34))) ::
  .inl (1, 169, .inr (.inl (L 35))) ::
  .inl (0, 156, .inl (I 36)) ::
  .inl (1, 169, .inr (.inl (L 37))) ::
  .inl (1, 169, .inr (.inl (L 38))) ::
  .inr (3, [.ref 21, .ref 28, .ref 40, .ref 41, .ref 42, .ref 43, .int (I 39 6), .int (I 39 7)]) ::
  .inl (0, 13, .inl (I 40)) ::
  .inl (0, 13, .inl (I 41)) ::
  .inl (1, 169, .inr (.inl (L 42))) ::
  .inl (1, 169, .inr (.inl (L 43))) ::
  .inr (1, [.ref 21, .ref 29, .ref 28, .int (I 44 3), .int (I 44 4), .ref 45, .ref 46, .ref 47, .ref 48, .ref 49, .ref 50]) ::
  .inl (0, 12, .inl (I 45)) ::
  .inl (0, 6, .inl (I 46)) ::
  .inl (0, 6, .inl (I 47)) ::
  .inl (0, 6, .inl (I 48)) ::
  .inl (0, 6, .inl (I 49)) ::
  .inl (0, 6, .inl (I 50)) ::
  .inr (2, [.long (L 51 0), .long (L 51 1), .ref 52]) ::
  .inl (2, 6, .inl (I 52)) ::
  .inl (1, 100, .inr (.inl (L 53))) ::
  .inl (1, 3, .inr (.inl (L 54))) ::
  .inl (0, 5, .inl (I 55)) ::
  .inr (6, [.int (I 56 0), .ref 57, .ref 58, .int (I 56 3), .ref 59, .int (I 56 5), .int (I 56 6), .ref 60, .int (I 56 8), .ref 61, .ref 62, .int (I 56 11), .ref 63, .ref 64]) ::
  .inl (0, 24, .inl (I 57)) ::
  .inl (0, 8, .inl (I 58)) ::
  .inl (3, 6, .inr (.inr (.inr (.inr (R 59))))) ::
  .inl (3, 6, .inr (.inr (.inr (.inr (R 60))))) ::
  .inl (0, 6, .inl (I 61)) ::
  .inl (0, 6, .inl (I 62)) ::
  .inl (0, 12, .inl (I 63)) ::
  .inl (0, 12, .inl (I 64)) ::
  .inr (6, [.int (I 65 0), .ref 66, .ref 67, .int (I 65 3), .ref 68, .int (I 65 5), .int (I 65 6), .ref 69, .int (I 65 8), .ref 70, .ref 71, .int (I 65 11), .ref 72, .ref 73]) ::
  .inl (0, 24, .inl (I 66)) ::
  .inl (0, 8, .inl (I 67)) ::
  .inl (3, 6, .inr (.inr (.inr (.inr (R 68))))) ::
  .inl (3, 6, .inr (.inr (.inr (.inr (R 69))))) ::
  .inl (0, 6, .inl (I 70)) ::
  .inl (0, 6, .inl (I 71)) ::
  .inl (0, 12, .inl (I 72)) ::
  .inl (0, 12, .inl (I 73)) ::
  .inr (12, [.int (I 74 0), .int (I 74 1), .ref 75, .ref 76, .ref 77, .ref 78, .int (I 74 6), .ref 79, .int (I 74 8), .int (I 74 9), .int (I 74 10), .int (I 74 11), .long (L 74 12), .int (I 74 13), .int (I 74 14), .int (I 74 15), .int (I 74 16), .ref 80, .int (I 74 18), .ref 81, .ref 82, .int (I 74 21), .ref 83, .ref 84, .int (I 74 24), .int (I 74 25), .ref 85, .ref 86, .int (I 74 28), .ref 87, .ref 88, .ref 89, .int (I 74 32), .long (L 74 33), .long (L 74 34), .int (I 74 35), .int (I 74 36), .ref 90, .ref 91, .ref 92, .ref 93, .ref 94, .long (L 74 42), .int (I 74 43), .int (I 74 44), .ref 95, .ref 96, .ref 97, .ref 98, .ref 99, .ref 100, .long (L 74 51), .long (L 74 52), .long (L 74 53), .ref 101, .ref 102, .ref 103, .int (I 74 57), .int (I 74 58), .ref 104]) ::
  .inl (0, 7, .inl (I 75)) ::
  .inl (0, 10880, .inl (I 76)) ::
  .inl (0, 21760, .inl (I 77)) ::
  .inl (2, 2, .inl (I 78)) ::
  .inl (0, 400, .inl (I 79)) ::
  .inl (0, 96, .inl (I 80)) ::
  .inl (0, 400, .inl (I 81)) ::
  .inl (0, 400, .inl (I 82)) ::
  .inl (0, 400, .inl (I 83)) ::
  .inl (0, 400, .inl (I 84)) ::
  .inl (1, 7, .inr (.inl (L 85))) ::
  .inl (1, 7, .inr (.inl (L 86))) ::
  .inl (1, 13, .inr (.inl (L 87))) ::
  .inl (1, 13, .inr (.inl (L 88))) ::
  .inl (1, 400, .inr (.inl (L 89))) ::
  .inl (0, 156, .inl (I 90)) ::
  .inl (1, 169, .inr (.inl (L 91))) ::
  .inl (0, 156, .inl (I 92)) ::
  .inl (2, 156, .inl (I 93)) ::
  .inl (1, 12, .inr (.inl (L 94))) ::
  .inl (1, 169, .inr (.inl (L 95))) ::
  .inl (0, 169, .inl (I 96)) ::
  .inl (1, 2197, .inr (.inl (L 97))) ::
  .inl (0, 2197, .inl (I 98)) ::
  .inl (1, 169, .inr (.inl (L 99))) ::
  .inl (1, 169, .inr (.inl (L 100))) ::
  .inl (0, 18, .inl (I 101)) ::
  .inl (0, 12, .inl (I 102)) ::
  .inl (0, 6, .inl (I 103)) ::
  .inl (0, 6, .inl (I 104)) ::
  dy
theorem uI_s {I : wI} {k j : Nat} {x : Int32} : uI I k j x k = upd (I k) j x := by simp [uI]
theorem uI_n {I : wI} {k j a : Nat} {x : Int32} (h : a ≠ k) : uI I k j x a = I a := by simp [uI, h]
theorem uI_ss {I : wI} {k j : Nat} {x : Int32} : uI I k j x k j = x := by simp [uI, upd]
theorem uI_sn {I : wI} {k j b : Nat} {x : Int32} (h : b ≠ j) : uI I k j x k b = I k b := by simp [uI, upd, h]
theorem uI_at {I : wI} {k j a b : Nat} {x : Int32} : uI I k j x a b = if a = k ∧ b = j then x else I a b := by
  by_cases h : a = k
  · subst h; simp [uI, upd]
  · simp [uI, h]
theorem uL_s {L : wL} {k j : Nat} {x : Int64} : uL L k j x k = vp_updL (L k) j x := by simp [uL]
theorem uL_n {L : wL} {k j a : Nat} {x : Int64} (h : a ≠ k) : uL L k j x a = L a := by simp [uL, h]
theorem uL_at {L : wL} {k j a b : Nat} {x : Int64} : uL L k j x a b = if a = k ∧ b = j then x else L a b := by
  by_cases h : a = k
  · subst h; simp [uL, vp_updL]
  · simp [uL, h]
theorem uR_n {R : wR} {k j a : Nat} {x : Option Nat} (h : a ≠ k) : uR R k j x a = R a := by simp [uR, h]
theorem uR_at {R : wR} {k j a b : Nat} {x : Option Nat} : uR R k j x a b = if a = k ∧ b = j then x else R a b := by
  by_cases h : a = k
  · subst h; simp [uR, va_up]
  · simp [uR, h]
section HP
variable {I : wI} {L : wL} {R : wR} {dy : cH}
theorem f_0_0 : fld (hp I L R dy) 0 11 0 = some (.ref 1) := rfl
theorem sx_0_0 : True := trivial
theorem f_0_1 : fld (hp I L R dy) 0 11 1 = some (.ref 10) := rfl
theorem sx_0_1 : True := trivial
theorem f_0_2 : fld (hp I L R dy) 0 11 2 = some (.ref 11) := rfl
theorem sx_0_2 : True := trivial
theorem f_0_3 : fld (hp I L R dy) 0 11 3 = some (.ref 12) := rfl
theorem sx_0_3 : True := trivial
theorem f_0_4 : fld (hp I L R dy) 0 11 4 = some (.ref 14) := rfl
theorem sx_0_4 : True := trivial
theorem f_0_5 : fld (hp I L R dy) 0 11 5 = some (.ref 21) := rfl
theorem sx_0_5 : True := trivial
theorem f_0_6 : fld (hp I L R dy) 0 11 6 = some (.ref 28) := rfl
theorem sx_0_6 : True := trivial
theorem f_0_7 : fld (hp I L R dy) 0 11 7 = some (.ref 29) := rfl
theorem sx_0_7 : True := trivial
theorem f_0_8 : fld (hp I L R dy) 0 11 8 = some (.ref 39) := rfl
theorem sx_0_8 : True := trivial
theorem f_0_9 : fld (hp I L R dy) 0 11 9 = some (.ref 44) := rfl
theorem sx_0_9 : True := trivial
theorem f_0_10 : fld (hp I L R dy) 0 11 10 = some (.ref 51) := rfl
theorem sx_0_10 : True := trivial
theorem f_0_11 : fld (hp I L R dy) 0 11 11 = some (.ref 53) := rfl
theorem sx_0_11 : True := trivial
theorem f_0_12 : fld (hp I L R dy) 0 11 12 = some (.ref 54) := rfl
theorem sx_0_12 : True := trivial
theorem f_0_13 : fld (hp I L R dy) 0 11 13 = some (.ref 55) := rfl
theorem sx_0_13 : True := trivial
theorem f_0_14 : fld (hp I L R dy) 0 11 14 = some (.int (I 0 14)) := rfl
theorem s_0_14 {x : Int32} : sfl (hp I L R dy) 0 14 (.int x) = hp (uI I 0 14 x) L R dy := rfl
theorem f_0_15 : fld (hp I L R dy) 0 11 15 = some (.int (I 0 15)) := rfl
theorem s_0_15 {x : Int32} : sfl (hp I L R dy) 0 15 (.int x) = hp (uI I 0 15 x) L R dy := rfl
theorem f_0_16 : fld (hp I L R dy) 0 11 16 = some (.int (I 0 16)) := rfl
theorem s_0_16 {x : Int32} : sfl (hp I L R dy) 0 16 (.int x) = hp (uI I 0 16 x) L R dy := rfl
theorem c_0 : ((hp I L R dy)[0]?).map (fun e => match e with | .inr o => (classes[o.1]?).map (fun r => r.1) | _ => none) = some (some "CoinsWarden") := rfl
theorem f_1_0 : fld (hp I L R dy) 1 6 0 = some (.int (I 1 0)) := rfl
theorem s_1_0 {x : Int32} : sfl (hp I L R dy) 1 0 (.int x) = hp (uI I 1 0 x) L R dy := rfl
theorem f_1_1 : fld (hp I L R dy) 1 6 1 = some (.ref 2) := rfl
theorem sx_1_1 : True := trivial
theorem f_1_2 : fld (hp I L R dy) 1 6 2 = some (.ref 3) := rfl
theorem sx_1_2 : True := trivial
theorem f_1_3 : fld (hp I L R dy) 1 6 3 = some (.int (I 1 3)) := rfl
theorem s_1_3 {x : Int32} : sfl (hp I L R dy) 1 3 (.int x) = hp (uI I 1 3 x) L R dy := rfl
theorem f_1_4 : fld (hp I L R dy) 1 6 4 = some (.ref 4) := rfl
theorem sx_1_4 : True := trivial
theorem f_1_5 : fld (hp I L R dy) 1 6 5 = some (.int (I 1 5)) := rfl
theorem s_1_5 {x : Int32} : sfl (hp I L R dy) 1 5 (.int x) = hp (uI I 1 5 x) L R dy := rfl
theorem f_1_6 : fld (hp I L R dy) 1 6 6 = some (.int (I 1 6)) := rfl
theorem s_1_6 {x : Int32} : sfl (hp I L R dy) 1 6 (.int x) = hp (uI I 1 6 x) L R dy := rfl
theorem f_1_7 : fld (hp I L R dy) 1 6 7 = some (.ref 5) := rfl
theorem sx_1_7 : True := trivial
theorem f_1_8 : fld (hp I L R dy) 1 6 8 = some (.int (I 1 8)) := rfl
theorem s_1_8 {x : Int32} : sfl (hp I L R dy) 1 8 (.int x) = hp (uI I 1 8 x) L R dy := rfl
theorem f_1_9 : fld (hp I L R dy) 1 6 9 = some (.ref 6) := rfl
theorem sx_1_9 : True := trivial
theorem f_1_10 : fld (hp I L R dy) 1 6 10 = some (.ref 7) := rfl
theorem sx_1_10 : True := trivial
theorem f_1_11 : fld (hp I L R dy) 1 6 11 = some (.int (I 1 11)) := rfl
theorem s_1_11 {x : Int32} : sfl (hp I L R dy) 1 11 (.int x) = hp (uI I 1 11 x) L R dy := rfl
theorem f_1_12 : fld (hp I L R dy) 1 6 12 = some (.ref 8) := rfl
theorem sx_1_12 : True := trivial
theorem f_1_13 : fld (hp I L R dy) 1 6 13 = some (.ref 9) := rfl
theorem sx_1_13 : True := trivial
theorem c_1 : ((hp I L R dy)[1]?).map (fun e => match e with | .inr o => (classes[o.1]?).map (fun r => r.1) | _ => none) = some (some "CoinsWarden$State") := rfl
theorem a_2 : aI (hp I L R dy) 2 0 = some (24, I 2) := rfl
theorem t_2 {i : Nat} {x : Int32} : (hp I L R dy).set 2 (.inl (0, 24, .inl (upd (I 2) i x))) = hp (uI I 2 i x) L R dy := rfl
theorem a_3 : aI (hp I L R dy) 3 0 = some (8, I 3) := rfl
theorem t_3 {i : Nat} {x : Int32} : (hp I L R dy).set 3 (.inl (0, 8, .inl (upd (I 3) i x))) = hp (uI I 3 i x) L R dy := rfl
theorem a_4 : aR (hp I L R dy) 4 3 = some (6, R 4) := rfl
theorem t_4 {i : Nat} {x : Option Nat} : (hp I L R dy).set 4 (.inl (3, 6, .inr (.inr (.inr (.inr (va_up (R 4) i x)))))) = hp I L (uR R 4 i x) dy := rfl
theorem a_5 : aR (hp I L R dy) 5 3 = some (6, R 5) := rfl
theorem t_5 {i : Nat} {x : Option Nat} : (hp I L R dy).set 5 (.inl (3, 6, .inr (.inr (.inr (.inr (va_up (R 5) i x)))))) = hp I L (uR R 5 i x) dy := rfl
theorem a_6 : aI (hp I L R dy) 6 0 = some (6, I 6) := rfl
theorem t_6 {i : Nat} {x : Int32} : (hp I L R dy).set 6 (.inl (0, 6, .inl (upd (I 6) i x))) = hp (uI I 6 i x) L R dy := rfl
theorem a_7 : aI (hp I L R dy) 7 0 = some (6, I 7) := rfl
theorem t_7 {i : Nat} {x : Int32} : (hp I L R dy).set 7 (.inl (0, 6, .inl (upd (I 7) i x))) = hp (uI I 7 i x) L R dy := rfl
theorem a_8 : aI (hp I L R dy) 8 0 = some (12, I 8) := rfl
theorem t_8 {i : Nat} {x : Int32} : (hp I L R dy).set 8 (.inl (0, 12, .inl (upd (I 8) i x))) = hp (uI I 8 i x) L R dy := rfl
theorem a_9 : aI (hp I L R dy) 9 0 = some (12, I 9) := rfl
theorem t_9 {i : Nat} {x : Int32} : (hp I L R dy).set 9 (.inl (0, 12, .inl (upd (I 9) i x))) = hp (uI I 9 i x) L R dy := rfl
theorem a_10 : aR (hp I L R dy) 10 4 = some (2, R 10) := rfl
theorem t_10 {i : Nat} {x : Option Nat} : (hp I L R dy).set 10 (.inl (4, 2, .inr (.inr (.inr (.inr (va_up (R 10) i x)))))) = hp I L (uR R 10 i x) dy := rfl
theorem a_11 : aI (hp I L R dy) 11 2 = some (2, I 11) := rfl
theorem t_11 {i : Nat} {x : Int32} : (hp I L R dy).set 11 (.inl (2, 2, .inl (upd (I 11) i x))) = hp (uI I 11 i x) L R dy := rfl
theorem f_12_0 : fld (hp I L R dy) 12 8 0 = some (.ref 13) := rfl
theorem sx_12_0 : True := trivial
theorem f_12_1 : fld (hp I L R dy) 12 8 1 = some (.int (I 12 1)) := rfl
theorem s_12_1 {x : Int32} : sfl (hp I L R dy) 12 1 (.int x) = hp (uI I 12 1 x) L R dy := rfl
theorem f_12_2 : fld (hp I L R dy) 12 8 2 = some (.int (I 12 2)) := rfl
theorem s_12_2 {x : Int32} : sfl (hp I L R dy) 12 2 (.int x) = hp (uI I 12 2 x) L R dy := rfl
theorem f_12_3 : fld (hp I L R dy) 12 8 3 = some (.int (I 12 3)) := rfl
theorem s_12_3 {x : Int32} : sfl (hp I L R dy) 12 3 (.int x) = hp (uI I 12 3 x) L R dy := rfl
theorem f_12_4 : fld (hp I L R dy) 12 8 4 = some (.int (I 12 4)) := rfl
theorem s_12_4 {x : Int32} : sfl (hp I L R dy) 12 4 (.int x) = hp (uI I 12 4 x) L R dy := rfl
theorem f_12_5 : fld (hp I L R dy) 12 8 5 = some (.int (I 12 5)) := rfl
theorem s_12_5 {x : Int32} : sfl (hp I L R dy) 12 5 (.int x) = hp (uI I 12 5 x) L R dy := rfl
theorem c_12 : ((hp I L R dy)[12]?).map (fun e => match e with | .inr o => (classes[o.1]?).map (fun r => r.1) | _ => none) = some (some "CoinsWarden$Tape") := rfl
theorem a_13 : aI (hp I L R dy) 13 0 = some (400, I 13) := rfl
theorem t_13 {i : Nat} {x : Int32} : (hp I L R dy).set 13 (.inl (0, 400, .inl (upd (I 13) i x))) = hp (uI I 13 i x) L R dy := rfl
theorem f_14_0 : fld (hp I L R dy) 14 4 0 = some (.ref 12) := rfl
theorem sx_14_0 : True := trivial
theorem f_14_1 : fld (hp I L R dy) 14 4 1 = some (.int (I 14 1)) := rfl
theorem s_14_1 {x : Int32} : sfl (hp I L R dy) 14 1 (.int x) = hp (uI I 14 1 x) L R dy := rfl
theorem f_14_2 : fld (hp I L R dy) 14 4 2 = some (.int (I 14 2)) := rfl
theorem s_14_2 {x : Int32} : sfl (hp I L R dy) 14 2 (.int x) = hp (uI I 14 2 x) L R dy := rfl
theorem f_14_3 : fld (hp I L R dy) 14 4 3 = some (.int (I 14 3)) := rfl
theorem s_14_3 {x : Int32} : sfl (hp I L R dy) 14 3 (.int x) = hp (uI I 14 3 x) L R dy := rfl
theorem f_14_4 : fld (hp I L R dy) 14 4 4 = some (.int (I 14 4)) := rfl
theorem s_14_4 {x : Int32} : sfl (hp I L R dy) 14 4 (.int x) = hp (uI I 14 4 x) L R dy := rfl
theorem f_14_5 : fld (hp I L R dy) 14 4 5 = some (.int (I 14 5)) := rfl
theorem s_14_5 {x : Int32} : sfl (hp I L R dy) 14 5 (.int x) = hp (uI I 14 5 x) L R dy := rfl
theorem f_14_6 : fld (hp I L R dy) 14 4 6 = some (.ref 15) := rfl
theorem sx_14_6 : True := trivial
theorem f_14_7 : fld (hp I L R dy) 14 4 7 = some (.ref 16) := rfl
theorem sx_14_7 : True := trivial
theorem f_14_8 : fld (hp I L R dy) 14 4 8 = some (.ref 17) := rfl
theorem sx_14_8 : True := trivial
theorem f_14_9 : fld (hp I L R dy) 14 4 9 = some (.ref 18) := rfl
theorem sx_14_9 : True := trivial
theorem f_14_10 : fld (hp I L R dy) 14 4 10 = some (.int (I 14 10)) := rfl
theorem s_14_10 {x : Int32} : sfl (hp I L R dy) 14 10 (.int x) = hp (uI I 14 10 x) L R dy := rfl
theorem f_14_11 : fld (hp I L R dy) 14 4 11 = some (.ref 19) := rfl
theorem sx_14_11 : True := trivial
theorem f_14_12 : fld (hp I L R dy) 14 4 12 = some (.ref 20) := rfl
theorem sx_14_12 : True := trivial
theorem c_14 : ((hp I L R dy)[14]?).map (fun e => match e with | .inr o => (classes[o.1]?).map (fun r => r.1) | _ => none) = some (some "CoinsWarden$Reading") := rfl
theorem a_15 : aI (hp I L R dy) 15 0 = some (12, I 15) := rfl
theorem t_15 {i : Nat} {x : Int32} : (hp I L R dy).set 15 (.inl (0, 12, .inl (upd (I 15) i x))) = hp (uI I 15 i x) L R dy := rfl
theorem a_16 : aI (hp I L R dy) 16 0 = some (12, I 16) := rfl
theorem t_16 {i : Nat} {x : Int32} : (hp I L R dy).set 16 (.inl (0, 12, .inl (upd (I 16) i x))) = hp (uI I 16 i x) L R dy := rfl
theorem a_17 : aI (hp I L R dy) 17 0 = some (12, I 17) := rfl
theorem t_17 {i : Nat} {x : Int32} : (hp I L R dy).set 17 (.inl (0, 12, .inl (upd (I 17) i x))) = hp (uI I 17 i x) L R dy := rfl
theorem a_18 : aI (hp I L R dy) 18 0 = some (12, I 18) := rfl
theorem t_18 {i : Nat} {x : Int32} : (hp I L R dy).set 18 (.inl (0, 12, .inl (upd (I 18) i x))) = hp (uI I 18 i x) L R dy := rfl
theorem a_19 : aI (hp I L R dy) 19 0 = some (400, I 19) := rfl
theorem t_19 {i : Nat} {x : Int32} : (hp I L R dy).set 19 (.inl (0, 400, .inl (upd (I 19) i x))) = hp (uI I 19 i x) L R dy := rfl
theorem a_20 : aI (hp I L R dy) 20 0 = some (400, I 20) := rfl
theorem t_20 {i : Nat} {x : Int32} : (hp I L R dy).set 20 (.inl (0, 400, .inl (upd (I 20) i x))) = hp (uI I 20 i x) L R dy := rfl
theorem f_21_0 : fld (hp I L R dy) 21 10 0 = some (.ref 22) := rfl
theorem sx_21_0 : True := trivial
theorem f_21_1 : fld (hp I L R dy) 21 10 1 = some (rfv (R 21 1)) := rfl
theorem s_21_1 {x : Option Nat} : sfl (hp I L R dy) 21 1 (rfv x) = hp I L (uR R 21 1 x) dy := rfl
theorem f_21_2 : fld (hp I L R dy) 21 10 2 = some (.ref 25) := rfl
theorem sx_21_2 : True := trivial
theorem f_21_3 : fld (hp I L R dy) 21 10 3 = some (.ref 26) := rfl
theorem sx_21_3 : True := trivial
theorem f_21_4 : fld (hp I L R dy) 21 10 4 = some (.ref 27) := rfl
theorem sx_21_4 : True := trivial
theorem c_21 : ((hp I L R dy)[21]?).map (fun e => match e with | .inr o => (classes[o.1]?).map (fun r => r.1) | _ => none) = some (some "CoinsWarden$Warden") := rfl
theorem f_22_0 : fld (hp I L R dy) 22 5 0 = some (.ref 23) := rfl
theorem sx_22_0 : True := trivial
theorem f_22_1 : fld (hp I L R dy) 22 5 1 = some (.ref 24) := rfl
theorem sx_22_1 : True := trivial
theorem f_22_2 : fld (hp I L R dy) 22 5 2 = some (.int (I 22 2)) := rfl
theorem s_22_2 {x : Int32} : sfl (hp I L R dy) 22 2 (.int x) = hp (uI I 22 2 x) L R dy := rfl
theorem f_22_3 : fld (hp I L R dy) 22 5 3 = some (.int (I 22 3)) := rfl
theorem s_22_3 {x : Int32} : sfl (hp I L R dy) 22 3 (.int x) = hp (uI I 22 3 x) L R dy := rfl
theorem f_22_4 : fld (hp I L R dy) 22 5 4 = some (.long (L 22 4)) := rfl
theorem s_22_4 {x : Int64} : sfl (hp I L R dy) 22 4 (.long x) = hp I (uL L 22 4 x) R dy := rfl
theorem c_22 : ((hp I L R dy)[22]?).map (fun e => match e with | .inr o => (classes[o.1]?).map (fun r => r.1) | _ => none) = some (some "CoinsWarden$Reckoner") := rfl
theorem a_23 : aI (hp I L R dy) 23 0 = some (7, I 23) := rfl
theorem t_23 {i : Nat} {x : Int32} : (hp I L R dy).set 23 (.inl (0, 7, .inl (upd (I 23) i x))) = hp (uI I 23 i x) L R dy := rfl
theorem a_24 : aL (hp I L R dy) 24 = some (64, L 24) := rfl
theorem t_24 {i : Nat} {x : Int64} : (hp I L R dy).set 24 (.inl (1, 64, .inr (.inl (vp_updL (L 24) i x)))) = hp I (uL L 24 i x) R dy := rfl
theorem a_25 : aI (hp I L R dy) 25 0 = some (12, I 25) := rfl
theorem t_25 {i : Nat} {x : Int32} : (hp I L R dy).set 25 (.inl (0, 12, .inl (upd (I 25) i x))) = hp (uI I 25 i x) L R dy := rfl
theorem a_26 : aI (hp I L R dy) 26 0 = some (156, I 26) := rfl
theorem t_26 {i : Nat} {x : Int32} : (hp I L R dy).set 26 (.inl (0, 156, .inl (upd (I 26) i x))) = hp (uI I 26 i x) L R dy := rfl
theorem a_27 : aL (hp I L R dy) 27 = some (169, L 27) := rfl
theorem t_27 {i : Nat} {x : Int64} : (hp I L R dy).set 27 (.inl (1, 169, .inr (.inl (vp_updL (L 27) i x)))) = hp I (uL L 27 i x) R dy := rfl
theorem f_28_0 : fld (hp I L R dy) 28 7 0 = some (.int (I 28 0)) := rfl
theorem s_28_0 {x : Int32} : sfl (hp I L R dy) 28 0 (.int x) = hp (uI I 28 0 x) L R dy := rfl
theorem f_28_1 : fld (hp I L R dy) 28 7 1 = some (.int (I 28 1)) := rfl
theorem s_28_1 {x : Int32} : sfl (hp I L R dy) 28 1 (.int x) = hp (uI I 28 1 x) L R dy := rfl
theorem f_28_2 : fld (hp I L R dy) 28 7 2 = some (.int (I 28 2)) := rfl
theorem s_28_2 {x : Int32} : sfl (hp I L R dy) 28 2 (.int x) = hp (uI I 28 2 x) L R dy := rfl
theorem f_28_3 : fld (hp I L R dy) 28 7 3 = some (.int (I 28 3)) := rfl
theorem s_28_3 {x : Int32} : sfl (hp I L R dy) 28 3 (.int x) = hp (uI I 28 3 x) L R dy := rfl
theorem f_28_4 : fld (hp I L R dy) 28 7 4 = some (.int (I 28 4)) := rfl
theorem s_28_4 {x : Int32} : sfl (hp I L R dy) 28 4 (.int x) = hp (uI I 28 4 x) L R dy := rfl
theorem f_28_5 : fld (hp I L R dy) 28 7 5 = some (.int (I 28 5)) := rfl
theorem s_28_5 {x : Int32} : sfl (hp I L R dy) 28 5 (.int x) = hp (uI I 28 5 x) L R dy := rfl
theorem f_28_6 : fld (hp I L R dy) 28 7 6 = some (.int (I 28 6)) := rfl
theorem s_28_6 {x : Int32} : sfl (hp I L R dy) 28 6 (.int x) = hp (uI I 28 6 x) L R dy := rfl
theorem f_28_7 : fld (hp I L R dy) 28 7 7 = some (.int (I 28 7)) := rfl
theorem s_28_7 {x : Int32} : sfl (hp I L R dy) 28 7 (.int x) = hp (uI I 28 7 x) L R dy := rfl
theorem c_28 : ((hp I L R dy)[28]?).map (fun e => match e with | .inr o => (classes[o.1]?).map (fun r => r.1) | _ => none) = some (some "CoinsWarden$Stay") := rfl
theorem f_29_0 : fld (hp I L R dy) 29 0 0 = some (.ref 21) := rfl
theorem sx_29_0 : True := trivial
theorem f_29_1 : fld (hp I L R dy) 29 0 1 = some (.ref 28) := rfl
theorem sx_29_1 : True := trivial
theorem f_29_2 : fld (hp I L R dy) 29 0 2 = some (.ref 30) := rfl
theorem sx_29_2 : True := trivial
theorem f_29_3 : fld (hp I L R dy) 29 0 3 = some (.ref 33) := rfl
theorem sx_29_3 : True := trivial
theorem f_29_4 : fld (hp I L R dy) 29 0 4 = some (.ref 34) := rfl
theorem sx_29_4 : True := trivial
theorem f_29_5 : fld (hp I L R dy) 29 0 5 = some (.ref 35) := rfl
theorem sx_29_5 : True := trivial
theorem f_29_6 : fld (hp I L R dy) 29 0 6 = some (.ref 36) := rfl
theorem sx_29_6 : True := trivial
theorem f_29_7 : fld (hp I L R dy) 29 0 7 = some (.ref 37) := rfl
theorem sx_29_7 : True := trivial
theorem f_29_8 : fld (hp I L R dy) 29 0 8 = some (.ref 38) := rfl
theorem sx_29_8 : True := trivial
theorem c_29 : ((hp I L R dy)[29]?).map (fun e => match e with | .inr o => (classes[o.1]?).map (fun r => r.1) | _ => none) = some (some "CoinsWarden$Costs") := rfl
theorem f_30_0 : fld (hp I L R dy) 30 5 0 = some (.ref 31) := rfl
theorem sx_30_0 : True := trivial
theorem f_30_1 : fld (hp I L R dy) 30 5 1 = some (.ref 32) := rfl
theorem sx_30_1 : True := trivial
theorem f_30_2 : fld (hp I L R dy) 30 5 2 = some (.int (I 30 2)) := rfl
theorem s_30_2 {x : Int32} : sfl (hp I L R dy) 30 2 (.int x) = hp (uI I 30 2 x) L R dy := rfl
theorem f_30_3 : fld (hp I L R dy) 30 5 3 = some (.int (I 30 3)) := rfl
theorem s_30_3 {x : Int32} : sfl (hp I L R dy) 30 3 (.int x) = hp (uI I 30 3 x) L R dy := rfl
theorem f_30_4 : fld (hp I L R dy) 30 5 4 = some (.long (L 30 4)) := rfl
theorem s_30_4 {x : Int64} : sfl (hp I L R dy) 30 4 (.long x) = hp I (uL L 30 4 x) R dy := rfl
theorem c_30 : ((hp I L R dy)[30]?).map (fun e => match e with | .inr o => (classes[o.1]?).map (fun r => r.1) | _ => none) = some (some "CoinsWarden$Reckoner") := rfl
theorem a_31 : aI (hp I L R dy) 31 0 = some (7, I 31) := rfl
theorem t_31 {i : Nat} {x : Int32} : (hp I L R dy).set 31 (.inl (0, 7, .inl (upd (I 31) i x))) = hp (uI I 31 i x) L R dy := rfl
theorem a_32 : aL (hp I L R dy) 32 = some (64, L 32) := rfl
theorem t_32 {i : Nat} {x : Int64} : (hp I L R dy).set 32 (.inl (1, 64, .inr (.inl (vp_updL (L 32) i x)))) = hp I (uL L 32 i x) R dy := rfl
theorem a_33 : aL (hp I L R dy) 33 = some (13, L 33) := rfl
theorem t_33 {i : Nat} {x : Int64} : (hp I L R dy).set 33 (.inl (1, 13, .inr (.inl (vp_updL (L 33) i x)))) = hp I (uL L 33 i x) R dy := rfl
theorem a_34 : aL (hp I L R dy) 34 = some (13, L 34) := rfl
theorem t_34 {i : Nat} {x : Int64} : (hp I L R dy).set 34 (.inl (1, 13, .inr (.inl (vp_updL (L 34) i x)))) = hp I (uL L 34 i x) R dy := rfl
theorem a_35 : aL (hp I L R dy) 35 = some (169, L 35) := rfl
theorem t_35 {i : Nat} {x : Int64} : (hp I L R dy).set 35 (.inl (1, 169, .inr (.inl (vp_updL (L 35) i x)))) = hp I (uL L 35 i x) R dy := rfl
theorem a_36 : aI (hp I L R dy) 36 0 = some (156, I 36) := rfl
theorem t_36 {i : Nat} {x : Int32} : (hp I L R dy).set 36 (.inl (0, 156, .inl (upd (I 36) i x))) = hp (uI I 36 i x) L R dy := rfl
theorem a_37 : aL (hp I L R dy) 37 = some (169, L 37) := rfl
theorem t_37 {i : Nat} {x : Int64} : (hp I L R dy).set 37 (.inl (1, 169, .inr (.inl (vp_updL (L 37) i x)))) = hp I (uL L 37 i x) R dy := rfl
theorem a_38 : aL (hp I L R dy) 38 = some (169, L 38) := rfl
theorem t_38 {i : Nat} {x : Int64} : (hp I L R dy).set 38 (.inl (1, 169, .inr (.inl (vp_updL (L 38) i x)))) = hp I (uL L 38 i x) R dy := rfl
theorem f_39_0 : fld (hp I L R dy) 39 3 0 = some (.ref 21) := rfl
theorem sx_39_0 : True := trivial
theorem f_39_1 : fld (hp I L R dy) 39 3 1 = some (.ref 28) := rfl
theorem sx_39_1 : True := trivial
theorem f_39_2 : fld (hp I L R dy) 39 3 2 = some (.ref 40) := rfl
theorem sx_39_2 : True := trivial
theorem f_39_3 : fld (hp I L R dy) 39 3 3 = some (.ref 41) := rfl
theorem sx_39_3 : True := trivial
theorem f_39_4 : fld (hp I L R dy) 39 3 4 = some (.ref 42) := rfl
theorem sx_39_4 : True := trivial
theorem f_39_5 : fld (hp I L R dy) 39 3 5 = some (.ref 43) := rfl
theorem sx_39_5 : True := trivial
theorem f_39_6 : fld (hp I L R dy) 39 3 6 = some (.int (I 39 6)) := rfl
theorem s_39_6 {x : Int32} : sfl (hp I L R dy) 39 6 (.int x) = hp (uI I 39 6 x) L R dy := rfl
theorem f_39_7 : fld (hp I L R dy) 39 3 7 = some (.int (I 39 7)) := rfl
theorem s_39_7 {x : Int32} : sfl (hp I L R dy) 39 7 (.int x) = hp (uI I 39 7 x) L R dy := rfl
theorem c_39 : ((hp I L R dy)[39]?).map (fun e => match e with | .inr o => (classes[o.1]?).map (fun r => r.1) | _ => none) = some (some "CoinsWarden$Plans") := rfl
theorem a_40 : aI (hp I L R dy) 40 0 = some (13, I 40) := rfl
theorem t_40 {i : Nat} {x : Int32} : (hp I L R dy).set 40 (.inl (0, 13, .inl (upd (I 40) i x))) = hp (uI I 40 i x) L R dy := rfl
theorem a_41 : aI (hp I L R dy) 41 0 = some (13, I 41) := rfl
theorem t_41 {i : Nat} {x : Int32} : (hp I L R dy).set 41 (.inl (0, 13, .inl (upd (I 41) i x))) = hp (uI I 41 i x) L R dy := rfl
theorem a_42 : aL (hp I L R dy) 42 = some (169, L 42) := rfl
theorem t_42 {i : Nat} {x : Int64} : (hp I L R dy).set 42 (.inl (1, 169, .inr (.inl (vp_updL (L 42) i x)))) = hp I (uL L 42 i x) R dy := rfl
theorem a_43 : aL (hp I L R dy) 43 = some (169, L 43) := rfl
theorem t_43 {i : Nat} {x : Int64} : (hp I L R dy).set 43 (.inl (1, 169, .inr (.inl (vp_updL (L 43) i x)))) = hp I (uL L 43 i x) R dy := rfl
theorem f_44_0 : fld (hp I L R dy) 44 1 0 = some (.ref 21) := rfl
theorem sx_44_0 : True := trivial
theorem f_44_1 : fld (hp I L R dy) 44 1 1 = some (.ref 29) := rfl
theorem sx_44_1 : True := trivial
theorem f_44_2 : fld (hp I L R dy) 44 1 2 = some (.ref 28) := rfl
theorem sx_44_2 : True := trivial
theorem f_44_3 : fld (hp I L R dy) 44 1 3 = some (.int (I 44 3)) := rfl
theorem s_44_3 {x : Int32} : sfl (hp I L R dy) 44 3 (.int x) = hp (uI I 44 3 x) L R dy := rfl
theorem f_44_4 : fld (hp I L R dy) 44 1 4 = some (.int (I 44 4)) := rfl
theorem s_44_4 {x : Int32} : sfl (hp I L R dy) 44 4 (.int x) = hp (uI I 44 4 x) L R dy := rfl
theorem f_44_5 : fld (hp I L R dy) 44 1 5 = some (.ref 45) := rfl
theorem sx_44_5 : True := trivial
theorem f_44_6 : fld (hp I L R dy) 44 1 6 = some (.ref 46) := rfl
theorem sx_44_6 : True := trivial
theorem f_44_7 : fld (hp I L R dy) 44 1 7 = some (.ref 47) := rfl
theorem sx_44_7 : True := trivial
theorem f_44_8 : fld (hp I L R dy) 44 1 8 = some (.ref 48) := rfl
theorem sx_44_8 : True := trivial
theorem f_44_9 : fld (hp I L R dy) 44 1 9 = some (.ref 49) := rfl
theorem sx_44_9 : True := trivial
theorem f_44_10 : fld (hp I L R dy) 44 1 10 = some (.ref 50) := rfl
theorem sx_44_10 : True := trivial
theorem c_44 : ((hp I L R dy)[44]?).map (fun e => match e with | .inr o => (classes[o.1]?).map (fun r => r.1) | _ => none) = some (some "CoinsWarden$Day") := rfl
theorem a_45 : aI (hp I L R dy) 45 0 = some (12, I 45) := rfl
theorem t_45 {i : Nat} {x : Int32} : (hp I L R dy).set 45 (.inl (0, 12, .inl (upd (I 45) i x))) = hp (uI I 45 i x) L R dy := rfl
theorem a_46 : aI (hp I L R dy) 46 0 = some (6, I 46) := rfl
theorem t_46 {i : Nat} {x : Int32} : (hp I L R dy).set 46 (.inl (0, 6, .inl (upd (I 46) i x))) = hp (uI I 46 i x) L R dy := rfl
theorem a_47 : aI (hp I L R dy) 47 0 = some (6, I 47) := rfl
theorem t_47 {i : Nat} {x : Int32} : (hp I L R dy).set 47 (.inl (0, 6, .inl (upd (I 47) i x))) = hp (uI I 47 i x) L R dy := rfl
theorem a_48 : aI (hp I L R dy) 48 0 = some (6, I 48) := rfl
theorem t_48 {i : Nat} {x : Int32} : (hp I L R dy).set 48 (.inl (0, 6, .inl (upd (I 48) i x))) = hp (uI I 48 i x) L R dy := rfl
theorem a_49 : aI (hp I L R dy) 49 0 = some (6, I 49) := rfl
theorem t_49 {i : Nat} {x : Int32} : (hp I L R dy).set 49 (.inl (0, 6, .inl (upd (I 49) i x))) = hp (uI I 49 i x) L R dy := rfl
theorem a_50 : aI (hp I L R dy) 50 0 = some (6, I 50) := rfl
theorem t_50 {i : Nat} {x : Int32} : (hp I L R dy).set 50 (.inl (0, 6, .inl (upd (I 50) i x))) = hp (uI I 50 i x) L R dy := rfl
theorem f_51_0 : fld (hp I L R dy) 51 2 0 = some (.long (L 51 0)) := rfl
theorem s_51_0 {x : Int64} : sfl (hp I L R dy) 51 0 (.long x) = hp I (uL L 51 0 x) R dy := rfl
theorem f_51_1 : fld (hp I L R dy) 51 2 1 = some (.long (L 51 1)) := rfl
theorem s_51_1 {x : Int64} : sfl (hp I L R dy) 51 1 (.long x) = hp I (uL L 51 1 x) R dy := rfl
theorem f_51_2 : fld (hp I L R dy) 51 2 2 = some (.ref 52) := rfl
theorem sx_51_2 : True := trivial
theorem c_51 : ((hp I L R dy)[51]?).map (fun e => match e with | .inr o => (classes[o.1]?).map (fun r => r.1) | _ => none) = some (some "CoinsWarden$Game") := rfl
theorem a_52 : aI (hp I L R dy) 52 2 = some (6, I 52) := rfl
theorem t_52 {i : Nat} {x : Int32} : (hp I L R dy).set 52 (.inl (2, 6, .inl (upd (I 52) i x))) = hp (uI I 52 i x) L R dy := rfl
theorem a_53 : aL (hp I L R dy) 53 = some (100, L 53) := rfl
theorem t_53 {i : Nat} {x : Int64} : (hp I L R dy).set 53 (.inl (1, 100, .inr (.inl (vp_updL (L 53) i x)))) = hp I (uL L 53 i x) R dy := rfl
theorem a_54 : aL (hp I L R dy) 54 = some (3, L 54) := rfl
theorem t_54 {i : Nat} {x : Int64} : (hp I L R dy).set 54 (.inl (1, 3, .inr (.inl (vp_updL (L 54) i x)))) = hp I (uL L 54 i x) R dy := rfl
theorem a_55 : aI (hp I L R dy) 55 0 = some (5, I 55) := rfl
theorem t_55 {i : Nat} {x : Int32} : (hp I L R dy).set 55 (.inl (0, 5, .inl (upd (I 55) i x))) = hp (uI I 55 i x) L R dy := rfl
theorem f_56_0 : fld (hp I L R dy) 56 6 0 = some (.int (I 56 0)) := rfl
theorem s_56_0 {x : Int32} : sfl (hp I L R dy) 56 0 (.int x) = hp (uI I 56 0 x) L R dy := rfl
theorem f_56_1 : fld (hp I L R dy) 56 6 1 = some (.ref 57) := rfl
theorem sx_56_1 : True := trivial
theorem f_56_2 : fld (hp I L R dy) 56 6 2 = some (.ref 58) := rfl
theorem sx_56_2 : True := trivial
theorem f_56_3 : fld (hp I L R dy) 56 6 3 = some (.int (I 56 3)) := rfl
theorem s_56_3 {x : Int32} : sfl (hp I L R dy) 56 3 (.int x) = hp (uI I 56 3 x) L R dy := rfl
theorem f_56_4 : fld (hp I L R dy) 56 6 4 = some (.ref 59) := rfl
theorem sx_56_4 : True := trivial
theorem f_56_5 : fld (hp I L R dy) 56 6 5 = some (.int (I 56 5)) := rfl
theorem s_56_5 {x : Int32} : sfl (hp I L R dy) 56 5 (.int x) = hp (uI I 56 5 x) L R dy := rfl
theorem f_56_6 : fld (hp I L R dy) 56 6 6 = some (.int (I 56 6)) := rfl
theorem s_56_6 {x : Int32} : sfl (hp I L R dy) 56 6 (.int x) = hp (uI I 56 6 x) L R dy := rfl
theorem f_56_7 : fld (hp I L R dy) 56 6 7 = some (.ref 60) := rfl
theorem sx_56_7 : True := trivial
theorem f_56_8 : fld (hp I L R dy) 56 6 8 = some (.int (I 56 8)) := rfl
theorem s_56_8 {x : Int32} : sfl (hp I L R dy) 56 8 (.int x) = hp (uI I 56 8 x) L R dy := rfl
theorem f_56_9 : fld (hp I L R dy) 56 6 9 = some (.ref 61) := rfl
theorem sx_56_9 : True := trivial
theorem f_56_10 : fld (hp I L R dy) 56 6 10 = some (.ref 62) := rfl
theorem sx_56_10 : True := trivial
theorem f_56_11 : fld (hp I L R dy) 56 6 11 = some (.int (I 56 11)) := rfl
theorem s_56_11 {x : Int32} : sfl (hp I L R dy) 56 11 (.int x) = hp (uI I 56 11 x) L R dy := rfl
theorem f_56_12 : fld (hp I L R dy) 56 6 12 = some (.ref 63) := rfl
theorem sx_56_12 : True := trivial
theorem f_56_13 : fld (hp I L R dy) 56 6 13 = some (.ref 64) := rfl
theorem sx_56_13 : True := trivial
theorem c_56 : ((hp I L R dy)[56]?).map (fun e => match e with | .inr o => (classes[o.1]?).map (fun r => r.1) | _ => none) = some (some "CoinsWarden$State") := rfl
theorem a_57 : aI (hp I L R dy) 57 0 = some (24, I 57) := rfl
theorem t_57 {i : Nat} {x : Int32} : (hp I L R dy).set 57 (.inl (0, 24, .inl (upd (I 57) i x))) = hp (uI I 57 i x) L R dy := rfl
theorem a_58 : aI (hp I L R dy) 58 0 = some (8, I 58) := rfl
theorem t_58 {i : Nat} {x : Int32} : (hp I L R dy).set 58 (.inl (0, 8, .inl (upd (I 58) i x))) = hp (uI I 58 i x) L R dy := rfl
theorem a_59 : aR (hp I L R dy) 59 3 = some (6, R 59) := rfl
theorem t_59 {i : Nat} {x : Option Nat} : (hp I L R dy).set 59 (.inl (3, 6, .inr (.inr (.inr (.inr (va_up (R 59) i x)))))) = hp I L (uR R 59 i x) dy := rfl
theorem a_60 : aR (hp I L R dy) 60 3 = some (6, R 60) := rfl
theorem t_60 {i : Nat} {x : Option Nat} : (hp I L R dy).set 60 (.inl (3, 6, .inr (.inr (.inr (.inr (va_up (R 60) i x)))))) = hp I L (uR R 60 i x) dy := rfl
theorem a_61 : aI (hp I L R dy) 61 0 = some (6, I 61) := rfl
theorem t_61 {i : Nat} {x : Int32} : (hp I L R dy).set 61 (.inl (0, 6, .inl (upd (I 61) i x))) = hp (uI I 61 i x) L R dy := rfl
theorem a_62 : aI (hp I L R dy) 62 0 = some (6, I 62) := rfl
theorem t_62 {i : Nat} {x : Int32} : (hp I L R dy).set 62 (.inl (0, 6, .inl (upd (I 62) i x))) = hp (uI I 62 i x) L R dy := rfl
theorem a_63 : aI (hp I L R dy) 63 0 = some (12, I 63) := rfl
theorem t_63 {i : Nat} {x : Int32} : (hp I L R dy).set 63 (.inl (0, 12, .inl (upd (I 63) i x))) = hp (uI I 63 i x) L R dy := rfl
theorem a_64 : aI (hp I L R dy) 64 0 = some (12, I 64) := rfl
theorem t_64 {i : Nat} {x : Int32} : (hp I L R dy).set 64 (.inl (0, 12, .inl (upd (I 64) i x))) = hp (uI I 64 i x) L R dy := rfl
theorem f_65_0 : fld (hp I L R dy) 65 6 0 = some (.int (I 65 0)) := rfl
theorem s_65_0 {x : Int32} : sfl (hp I L R dy) 65 0 (.int x) = hp (uI I 65 0 x) L R dy := rfl
theorem f_65_1 : fld (hp I L R dy) 65 6 1 = some (.ref 66) := rfl
theorem sx_65_1 : True := trivial
theorem f_65_2 : fld (hp I L R dy) 65 6 2 = some (.ref 67) := rfl
theorem sx_65_2 : True := trivial
theorem f_65_3 : fld (hp I L R dy) 65 6 3 = some (.int (I 65 3)) := rfl
theorem s_65_3 {x : Int32} : sfl (hp I L R dy) 65 3 (.int x) = hp (uI I 65 3 x) L R dy := rfl
theorem f_65_4 : fld (hp I L R dy) 65 6 4 = some (.ref 68) := rfl
theorem sx_65_4 : True := trivial
theorem f_65_5 : fld (hp I L R dy) 65 6 5 = some (.int (I 65 5)) := rfl
theorem s_65_5 {x : Int32} : sfl (hp I L R dy) 65 5 (.int x) = hp (uI I 65 5 x) L R dy := rfl
theorem f_65_6 : fld (hp I L R dy) 65 6 6 = some (.int (I 65 6)) := rfl
theorem s_65_6 {x : Int32} : sfl (hp I L R dy) 65 6 (.int x) = hp (uI I 65 6 x) L R dy := rfl
theorem f_65_7 : fld (hp I L R dy) 65 6 7 = some (.ref 69) := rfl
theorem sx_65_7 : True := trivial
theorem f_65_8 : fld (hp I L R dy) 65 6 8 = some (.int (I 65 8)) := rfl
theorem s_65_8 {x : Int32} : sfl (hp I L R dy) 65 8 (.int x) = hp (uI I 65 8 x) L R dy := rfl
theorem f_65_9 : fld (hp I L R dy) 65 6 9 = some (.ref 70) := rfl
theorem sx_65_9 : True := trivial
theorem f_65_10 : fld (hp I L R dy) 65 6 10 = some (.ref 71) := rfl
theorem sx_65_10 : True := trivial
theorem f_65_11 : fld (hp I L R dy) 65 6 11 = some (.int (I 65 11)) := rfl
theorem s_65_11 {x : Int32} : sfl (hp I L R dy) 65 11 (.int x) = hp (uI I 65 11 x) L R dy := rfl
theorem f_65_12 : fld (hp I L R dy) 65 6 12 = some (.ref 72) := rfl
theorem sx_65_12 : True := trivial
theorem f_65_13 : fld (hp I L R dy) 65 6 13 = some (.ref 73) := rfl
theorem sx_65_13 : True := trivial
theorem c_65 : ((hp I L R dy)[65]?).map (fun e => match e with | .inr o => (classes[o.1]?).map (fun r => r.1) | _ => none) = some (some "CoinsWarden$State") := rfl
theorem a_66 : aI (hp I L R dy) 66 0 = some (24, I 66) := rfl
theorem t_66 {i : Nat} {x : Int32} : (hp I L R dy).set 66 (.inl (0, 24, .inl (upd (I 66) i x))) = hp (uI I 66 i x) L R dy := rfl
theorem a_67 : aI (hp I L R dy) 67 0 = some (8, I 67) := rfl
theorem t_67 {i : Nat} {x : Int32} : (hp I L R dy).set 67 (.inl (0, 8, .inl (upd (I 67) i x))) = hp (uI I 67 i x) L R dy := rfl
theorem a_68 : aR (hp I L R dy) 68 3 = some (6, R 68) := rfl
theorem t_68 {i : Nat} {x : Option Nat} : (hp I L R dy).set 68 (.inl (3, 6, .inr (.inr (.inr (.inr (va_up (R 68) i x)))))) = hp I L (uR R 68 i x) dy := rfl
theorem a_69 : aR (hp I L R dy) 69 3 = some (6, R 69) := rfl
theorem t_69 {i : Nat} {x : Option Nat} : (hp I L R dy).set 69 (.inl (3, 6, .inr (.inr (.inr (.inr (va_up (R 69) i x)))))) = hp I L (uR R 69 i x) dy := rfl
theorem a_70 : aI (hp I L R dy) 70 0 = some (6, I 70) := rfl
theorem t_70 {i : Nat} {x : Int32} : (hp I L R dy).set 70 (.inl (0, 6, .inl (upd (I 70) i x))) = hp (uI I 70 i x) L R dy := rfl
theorem a_71 : aI (hp I L R dy) 71 0 = some (6, I 71) := rfl
theorem t_71 {i : Nat} {x : Int32} : (hp I L R dy).set 71 (.inl (0, 6, .inl (upd (I 71) i x))) = hp (uI I 71 i x) L R dy := rfl
theorem a_72 : aI (hp I L R dy) 72 0 = some (12, I 72) := rfl
theorem t_72 {i : Nat} {x : Int32} : (hp I L R dy).set 72 (.inl (0, 12, .inl (upd (I 72) i x))) = hp (uI I 72 i x) L R dy := rfl
theorem a_73 : aI (hp I L R dy) 73 0 = some (12, I 73) := rfl
theorem t_73 {i : Nat} {x : Int32} : (hp I L R dy).set 73 (.inl (0, 12, .inl (upd (I 73) i x))) = hp (uI I 73 i x) L R dy := rfl
theorem f_74_0 : fld (hp I L R dy) 74 12 0 = some (.int (I 74 0)) := rfl
set_option maxRecDepth 20000 in
theorem s_74_0 {x : Int32} : sfl (hp I L R dy) 74 0 (.int x) = hp (uI I 74 0 x) L R dy := rfl
theorem f_74_1 : fld (hp I L R dy) 74 12 1 = some (.int (I 74 1)) := rfl
set_option maxRecDepth 20000 in
theorem s_74_1 {x : Int32} : sfl (hp I L R dy) 74 1 (.int x) = hp (uI I 74 1 x) L R dy := rfl
theorem f_74_2 : fld (hp I L R dy) 74 12 2 = some (.ref 75) := rfl
set_option maxRecDepth 20000 in
theorem sx_74_2 : True := trivial
theorem f_74_3 : fld (hp I L R dy) 74 12 3 = some (.ref 76) := rfl
set_option maxRecDepth 20000 in
theorem sx_74_3 : True := trivial
theorem f_74_4 : fld (hp I L R dy) 74 12 4 = some (.ref 77) := rfl
set_option maxRecDepth 20000 in
theorem sx_74_4 : True := trivial
theorem f_74_5 : fld (hp I L R dy) 74 12 5 = some (.ref 78) := rfl
set_option maxRecDepth 20000 in
theorem sx_74_5 : True := trivial
theorem f_74_6 : fld (hp I L R dy) 74 12 6 = some (.int (I 74 6)) := rfl
set_option maxRecDepth 20000 in
theorem s_74_6 {x : Int32} : sfl (hp I L R dy) 74 6 (.int x) = hp (uI I 74 6 x) L R dy := rfl
theorem f_74_7 : fld (hp I L R dy) 74 12 7 = some (.ref 79) := rfl
set_option maxRecDepth 20000 in
theorem sx_74_7 : True := trivial
theorem f_74_8 : fld (hp I L R dy) 74 12 8 = some (.int (I 74 8)) := rfl
set_option maxRecDepth 20000 in
theorem s_74_8 {x : Int32} : sfl (hp I L R dy) 74 8 (.int x) = hp (uI I 74 8 x) L R dy := rfl
theorem f_74_9 : fld (hp I L R dy) 74 12 9 = some (.int (I 74 9)) := rfl
set_option maxRecDepth 20000 in
theorem s_74_9 {x : Int32} : sfl (hp I L R dy) 74 9 (.int x) = hp (uI I 74 9 x) L R dy := rfl
theorem f_74_10 : fld (hp I L R dy) 74 12 10 = some (.int (I 74 10)) := rfl
set_option maxRecDepth 20000 in
theorem s_74_10 {x : Int32} : sfl (hp I L R dy) 74 10 (.int x) = hp (uI I 74 10 x) L R dy := rfl
theorem f_74_11 : fld (hp I L R dy) 74 12 11 = some (.int (I 74 11)) := rfl
set_option maxRecDepth 20000 in
theorem s_74_11 {x : Int32} : sfl (hp I L R dy) 74 11 (.int x) = hp (uI I 74 11 x) L R dy := rfl
theorem f_74_12 : fld (hp I L R dy) 74 12 12 = some (.long (L 74 12)) := rfl
set_option maxRecDepth 20000 in
theorem s_74_12 {x : Int64} : sfl (hp I L R dy) 74 12 (.long x) = hp I (uL L 74 12 x) R dy := rfl
theorem f_74_13 : fld (hp I L R dy) 74 12 13 = some (.int (I 74 13)) := rfl
set_option maxRecDepth 20000 in
theorem s_74_13 {x : Int32} : sfl (hp I L R dy) 74 13 (.int x) = hp (uI I 74 13 x) L R dy := rfl
theorem f_74_14 : fld (hp I L R dy) 74 12 14 = some (.int (I 74 14)) := rfl
set_option maxRecDepth 20000 in
theorem s_74_14 {x : Int32} : sfl (hp I L R dy) 74 14 (.int x) = hp (uI I 74 14 x) L R dy := rfl
theorem f_74_15 : fld (hp I L R dy) 74 12 15 = some (.int (I 74 15)) := rfl
set_option maxRecDepth 20000 in
theorem s_74_15 {x : Int32} : sfl (hp I L R dy) 74 15 (.int x) = hp (uI I 74 15 x) L R dy := rfl
theorem f_74_16 : fld (hp I L R dy) 74 12 16 = some (.int (I 74 16)) := rfl
set_option maxRecDepth 20000 in
theorem s_74_16 {x : Int32} : sfl (hp I L R dy) 74 16 (.int x) = hp (uI I 74 16 x) L R dy := rfl
theorem f_74_17 : fld (hp I L R dy) 74 12 17 = some (.ref 80) := rfl
set_option maxRecDepth 20000 in
theorem sx_74_17 : True := trivial
theorem f_74_18 : fld (hp I L R dy) 74 12 18 = some (.int (I 74 18)) := rfl
set_option maxRecDepth 20000 in
theorem s_74_18 {x : Int32} : sfl (hp I L R dy) 74 18 (.int x) = hp (uI I 74 18 x) L R dy := rfl
theorem f_74_19 : fld (hp I L R dy) 74 12 19 = some (.ref 81) := rfl
set_option maxRecDepth 20000 in
theorem sx_74_19 : True := trivial
theorem f_74_20 : fld (hp I L R dy) 74 12 20 = some (.ref 82) := rfl
set_option maxRecDepth 20000 in
theorem sx_74_20 : True := trivial
theorem f_74_21 : fld (hp I L R dy) 74 12 21 = some (.int (I 74 21)) := rfl
set_option maxRecDepth 20000 in
theorem s_74_21 {x : Int32} : sfl (hp I L R dy) 74 21 (.int x) = hp (uI I 74 21 x) L R dy := rfl
theorem f_74_22 : fld (hp I L R dy) 74 12 22 = some (.ref 83) := rfl
set_option maxRecDepth 20000 in
theorem sx_74_22 : True := trivial
theorem f_74_23 : fld (hp I L R dy) 74 12 23 = some (.ref 84) := rfl
set_option maxRecDepth 20000 in
theorem sx_74_23 : True := trivial
theorem f_74_24 : fld (hp I L R dy) 74 12 24 = some (.int (I 74 24)) := rfl
set_option maxRecDepth 20000 in
theorem s_74_24 {x : Int32} : sfl (hp I L R dy) 74 24 (.int x) = hp (uI I 74 24 x) L R dy := rfl
theorem f_74_25 : fld (hp I L R dy) 74 12 25 = some (.int (I 74 25)) := rfl
set_option maxRecDepth 20000 in
theorem s_74_25 {x : Int32} : sfl (hp I L R dy) 74 25 (.int x) = hp (uI I 74 25 x) L R dy := rfl
theorem f_74_26 : fld (hp I L R dy) 74 12 26 = some (.ref 85) := rfl
set_option maxRecDepth 20000 in
theorem sx_74_26 : True := trivial
theorem f_74_27 : fld (hp I L R dy) 74 12 27 = some (.ref 86) := rfl
set_option maxRecDepth 20000 in
theorem sx_74_27 : True := trivial
theorem f_74_28 : fld (hp I L R dy) 74 12 28 = some (.int (I 74 28)) := rfl
set_option maxRecDepth 20000 in
theorem s_74_28 {x : Int32} : sfl (hp I L R dy) 74 28 (.int x) = hp (uI I 74 28 x) L R dy := rfl
theorem f_74_29 : fld (hp I L R dy) 74 12 29 = some (.ref 87) := rfl
set_option maxRecDepth 20000 in
theorem sx_74_29 : True := trivial
theorem f_74_30 : fld (hp I L R dy) 74 12 30 = some (.ref 88) := rfl
set_option maxRecDepth 20000 in
theorem sx_74_30 : True := trivial
theorem f_74_31 : fld (hp I L R dy) 74 12 31 = some (.ref 89) := rfl
set_option maxRecDepth 20000 in
theorem sx_74_31 : True := trivial
theorem f_74_32 : fld (hp I L R dy) 74 12 32 = some (.int (I 74 32)) := rfl
set_option maxRecDepth 20000 in
theorem s_74_32 {x : Int32} : sfl (hp I L R dy) 74 32 (.int x) = hp (uI I 74 32 x) L R dy := rfl
theorem f_74_33 : fld (hp I L R dy) 74 12 33 = some (.long (L 74 33)) := rfl
set_option maxRecDepth 20000 in
theorem s_74_33 {x : Int64} : sfl (hp I L R dy) 74 33 (.long x) = hp I (uL L 74 33 x) R dy := rfl
theorem f_74_34 : fld (hp I L R dy) 74 12 34 = some (.long (L 74 34)) := rfl
set_option maxRecDepth 20000 in
theorem s_74_34 {x : Int64} : sfl (hp I L R dy) 74 34 (.long x) = hp I (uL L 74 34 x) R dy := rfl
theorem f_74_35 : fld (hp I L R dy) 74 12 35 = some (.int (I 74 35)) := rfl
set_option maxRecDepth 20000 in
theorem s_74_35 {x : Int32} : sfl (hp I L R dy) 74 35 (.int x) = hp (uI I 74 35 x) L R dy := rfl
theorem f_74_36 : fld (hp I L R dy) 74 12 36 = some (.int (I 74 36)) := rfl
set_option maxRecDepth 20000 in
theorem s_74_36 {x : Int32} : sfl (hp I L R dy) 74 36 (.int x) = hp (uI I 74 36 x) L R dy := rfl
theorem f_74_37 : fld (hp I L R dy) 74 12 37 = some (.ref 90) := rfl
set_option maxRecDepth 20000 in
theorem sx_74_37 : True := trivial
theorem f_74_38 : fld (hp I L R dy) 74 12 38 = some (.ref 91) := rfl
set_option maxRecDepth 20000 in
theorem sx_74_38 : True := trivial
theorem f_74_39 : fld (hp I L R dy) 74 12 39 = some (.ref 92) := rfl
set_option maxRecDepth 20000 in
theorem sx_74_39 : True := trivial
theorem f_74_40 : fld (hp I L R dy) 74 12 40 = some (.ref 93) := rfl
set_option maxRecDepth 20000 in
theorem sx_74_40 : True := trivial
theorem f_74_41 : fld (hp I L R dy) 74 12 41 = some (.ref 94) := rfl
set_option maxRecDepth 20000 in
theorem sx_74_41 : True := trivial
theorem f_74_42 : fld (hp I L R dy) 74 12 42 = some (.long (L 74 42)) := rfl
set_option maxRecDepth 20000 in
theorem s_74_42 {x : Int64} : sfl (hp I L R dy) 74 42 (.long x) = hp I (uL L 74 42 x) R dy := rfl
theorem f_74_43 : fld (hp I L R dy) 74 12 43 = some (.int (I 74 43)) := rfl
set_option maxRecDepth 20000 in
theorem s_74_43 {x : Int32} : sfl (hp I L R dy) 74 43 (.int x) = hp (uI I 74 43 x) L R dy := rfl
theorem f_74_44 : fld (hp I L R dy) 74 12 44 = some (.int (I 74 44)) := rfl
set_option maxRecDepth 20000 in
theorem s_74_44 {x : Int32} : sfl (hp I L R dy) 74 44 (.int x) = hp (uI I 74 44 x) L R dy := rfl
theorem f_74_45 : fld (hp I L R dy) 74 12 45 = some (.ref 95) := rfl
set_option maxRecDepth 20000 in
theorem sx_74_45 : True := trivial
theorem f_74_46 : fld (hp I L R dy) 74 12 46 = some (.ref 96) := rfl
set_option maxRecDepth 20000 in
theorem sx_74_46 : True := trivial
theorem f_74_47 : fld (hp I L R dy) 74 12 47 = some (.ref 97) := rfl
set_option maxRecDepth 20000 in
theorem sx_74_47 : True := trivial
theorem f_74_48 : fld (hp I L R dy) 74 12 48 = some (.ref 98) := rfl
set_option maxRecDepth 20000 in
theorem sx_74_48 : True := trivial
theorem f_74_49 : fld (hp I L R dy) 74 12 49 = some (.ref 99) := rfl
set_option maxRecDepth 20000 in
theorem sx_74_49 : True := trivial
theorem f_74_50 : fld (hp I L R dy) 74 12 50 = some (.ref 100) := rfl
set_option maxRecDepth 20000 in
theorem sx_74_50 : True := trivial
theorem f_74_51 : fld (hp I L R dy) 74 12 51 = some (.long (L 74 51)) := rfl
set_option maxRecDepth 20000 in
theorem s_74_51 {x : Int64} : sfl (hp I L R dy) 74 51 (.long x) = hp I (uL L 74 51 x) R dy := rfl
theorem f_74_52 : fld (hp I L R dy) 74 12 52 = some (.long (L 74 52)) := rfl
set_option maxRecDepth 20000 in
theorem s_74_52 {x : Int64} : sfl (hp I L R dy) 74 52 (.long x) = hp I (uL L 74 52 x) R dy := rfl
theorem f_74_53 : fld (hp I L R dy) 74 12 53 = some (.long (L 74 53)) := rfl
set_option maxRecDepth 20000 in
theorem s_74_53 {x : Int64} : sfl (hp I L R dy) 74 53 (.long x) = hp I (uL L 74 53 x) R dy := rfl
theorem f_74_54 : fld (hp I L R dy) 74 12 54 = some (.ref 101) := rfl
set_option maxRecDepth 20000 in
theorem sx_74_54 : True := trivial
theorem f_74_55 : fld (hp I L R dy) 74 12 55 = some (.ref 102) := rfl
set_option maxRecDepth 20000 in
theorem sx_74_55 : True := trivial
theorem f_74_56 : fld (hp I L R dy) 74 12 56 = some (.ref 103) := rfl
set_option maxRecDepth 20000 in
theorem sx_74_56 : True := trivial
theorem f_74_57 : fld (hp I L R dy) 74 12 57 = some (.int (I 74 57)) := rfl
set_option maxRecDepth 20000 in
theorem s_74_57 {x : Int32} : sfl (hp I L R dy) 74 57 (.int x) = hp (uI I 74 57 x) L R dy := rfl
theorem f_74_58 : fld (hp I L R dy) 74 12 58 = some (.int (I 74 58)) := rfl
set_option maxRecDepth 20000 in
theorem s_74_58 {x : Int32} : sfl (hp I L R dy) 74 58 (.int x) = hp (uI I 74 58 x) L R dy := rfl
theorem f_74_59 : fld (hp I L R dy) 74 12 59 = some (.ref 104) := rfl
set_option maxRecDepth 20000 in
theorem sx_74_59 : True := trivial
theorem c_74 : ((hp I L R dy)[74]?).map (fun e => match e with | .inr o => (classes[o.1]?).map (fun r => r.1) | _ => none) = some (some "CoinsWardenModel") := rfl
theorem a_75 : aI (hp I L R dy) 75 0 = some (7, I 75) := rfl
theorem t_75 {i : Nat} {x : Int32} : (hp I L R dy).set 75 (.inl (0, 7, .inl (upd (I 75) i x))) = hp (uI I 75 i x) L R dy := rfl
theorem a_76 : aI (hp I L R dy) 76 0 = some (10880, I 76) := rfl
theorem t_76 {i : Nat} {x : Int32} : (hp I L R dy).set 76 (.inl (0, 10880, .inl (upd (I 76) i x))) = hp (uI I 76 i x) L R dy := rfl
theorem a_77 : aI (hp I L R dy) 77 0 = some (21760, I 77) := rfl
theorem t_77 {i : Nat} {x : Int32} : (hp I L R dy).set 77 (.inl (0, 21760, .inl (upd (I 77) i x))) = hp (uI I 77 i x) L R dy := rfl
theorem a_78 : aI (hp I L R dy) 78 2 = some (2, I 78) := rfl
theorem t_78 {i : Nat} {x : Int32} : (hp I L R dy).set 78 (.inl (2, 2, .inl (upd (I 78) i x))) = hp (uI I 78 i x) L R dy := rfl
theorem a_79 : aI (hp I L R dy) 79 0 = some (400, I 79) := rfl
theorem t_79 {i : Nat} {x : Int32} : (hp I L R dy).set 79 (.inl (0, 400, .inl (upd (I 79) i x))) = hp (uI I 79 i x) L R dy := rfl
theorem a_80 : aI (hp I L R dy) 80 0 = some (96, I 80) := rfl
theorem t_80 {i : Nat} {x : Int32} : (hp I L R dy).set 80 (.inl (0, 96, .inl (upd (I 80) i x))) = hp (uI I 80 i x) L R dy := rfl
theorem a_81 : aI (hp I L R dy) 81 0 = some (400, I 81) := rfl
theorem t_81 {i : Nat} {x : Int32} : (hp I L R dy).set 81 (.inl (0, 400, .inl (upd (I 81) i x))) = hp (uI I 81 i x) L R dy := rfl
theorem a_82 : aI (hp I L R dy) 82 0 = some (400, I 82) := rfl
theorem t_82 {i : Nat} {x : Int32} : (hp I L R dy).set 82 (.inl (0, 400, .inl (upd (I 82) i x))) = hp (uI I 82 i x) L R dy := rfl
theorem a_83 : aI (hp I L R dy) 83 0 = some (400, I 83) := rfl
theorem t_83 {i : Nat} {x : Int32} : (hp I L R dy).set 83 (.inl (0, 400, .inl (upd (I 83) i x))) = hp (uI I 83 i x) L R dy := rfl
theorem a_84 : aI (hp I L R dy) 84 0 = some (400, I 84) := rfl
theorem t_84 {i : Nat} {x : Int32} : (hp I L R dy).set 84 (.inl (0, 400, .inl (upd (I 84) i x))) = hp (uI I 84 i x) L R dy := rfl
theorem a_85 : aL (hp I L R dy) 85 = some (7, L 85) := rfl
theorem t_85 {i : Nat} {x : Int64} : (hp I L R dy).set 85 (.inl (1, 7, .inr (.inl (vp_updL (L 85) i x)))) = hp I (uL L 85 i x) R dy := rfl
theorem a_86 : aL (hp I L R dy) 86 = some (7, L 86) := rfl
theorem t_86 {i : Nat} {x : Int64} : (hp I L R dy).set 86 (.inl (1, 7, .inr (.inl (vp_updL (L 86) i x)))) = hp I (uL L 86 i x) R dy := rfl
theorem a_87 : aL (hp I L R dy) 87 = some (13, L 87) := rfl
theorem t_87 {i : Nat} {x : Int64} : (hp I L R dy).set 87 (.inl (1, 13, .inr (.inl (vp_updL (L 87) i x)))) = hp I (uL L 87 i x) R dy := rfl
theorem a_88 : aL (hp I L R dy) 88 = some (13, L 88) := rfl
theorem t_88 {i : Nat} {x : Int64} : (hp I L R dy).set 88 (.inl (1, 13, .inr (.inl (vp_updL (L 88) i x)))) = hp I (uL L 88 i x) R dy := rfl
theorem a_89 : aL (hp I L R dy) 89 = some (400, L 89) := rfl
theorem t_89 {i : Nat} {x : Int64} : (hp I L R dy).set 89 (.inl (1, 400, .inr (.inl (vp_updL (L 89) i x)))) = hp I (uL L 89 i x) R dy := rfl
theorem a_90 : aI (hp I L R dy) 90 0 = some (156, I 90) := rfl
theorem t_90 {i : Nat} {x : Int32} : (hp I L R dy).set 90 (.inl (0, 156, .inl (upd (I 90) i x))) = hp (uI I 90 i x) L R dy := rfl
theorem a_91 : aL (hp I L R dy) 91 = some (169, L 91) := rfl
theorem t_91 {i : Nat} {x : Int64} : (hp I L R dy).set 91 (.inl (1, 169, .inr (.inl (vp_updL (L 91) i x)))) = hp I (uL L 91 i x) R dy := rfl
theorem a_92 : aI (hp I L R dy) 92 0 = some (156, I 92) := rfl
theorem t_92 {i : Nat} {x : Int32} : (hp I L R dy).set 92 (.inl (0, 156, .inl (upd (I 92) i x))) = hp (uI I 92 i x) L R dy := rfl
theorem a_93 : aI (hp I L R dy) 93 2 = some (156, I 93) := rfl
theorem t_93 {i : Nat} {x : Int32} : (hp I L R dy).set 93 (.inl (2, 156, .inl (upd (I 93) i x))) = hp (uI I 93 i x) L R dy := rfl
theorem a_94 : aL (hp I L R dy) 94 = some (12, L 94) := rfl
theorem t_94 {i : Nat} {x : Int64} : (hp I L R dy).set 94 (.inl (1, 12, .inr (.inl (vp_updL (L 94) i x)))) = hp I (uL L 94 i x) R dy := rfl
theorem a_95 : aL (hp I L R dy) 95 = some (169, L 95) := rfl
theorem t_95 {i : Nat} {x : Int64} : (hp I L R dy).set 95 (.inl (1, 169, .inr (.inl (vp_updL (L 95) i x)))) = hp I (uL L 95 i x) R dy := rfl
theorem a_96 : aI (hp I L R dy) 96 0 = some (169, I 96) := rfl
theorem t_96 {i : Nat} {x : Int32} : (hp I L R dy).set 96 (.inl (0, 169, .inl (upd (I 96) i x))) = hp (uI I 96 i x) L R dy := rfl
theorem a_97 : aL (hp I L R dy) 97 = some (2197, L 97) := rfl
theorem t_97 {i : Nat} {x : Int64} : (hp I L R dy).set 97 (.inl (1, 2197, .inr (.inl (vp_updL (L 97) i x)))) = hp I (uL L 97 i x) R dy := rfl
theorem a_98 : aI (hp I L R dy) 98 0 = some (2197, I 98) := rfl
theorem t_98 {i : Nat} {x : Int32} : (hp I L R dy).set 98 (.inl (0, 2197, .inl (upd (I 98) i x))) = hp (uI I 98 i x) L R dy := rfl
theorem a_99 : aL (hp I L R dy) 99 = some (169, L 99) := rfl
theorem t_99 {i : Nat} {x : Int64} : (hp I L R dy).set 99 (.inl (1, 169, .inr (.inl (vp_updL (L 99) i x)))) = hp I (uL L 99 i x) R dy := rfl
theorem a_100 : aL (hp I L R dy) 100 = some (169, L 100) := rfl
theorem t_100 {i : Nat} {x : Int64} : (hp I L R dy).set 100 (.inl (1, 169, .inr (.inl (vp_updL (L 100) i x)))) = hp I (uL L 100 i x) R dy := rfl
theorem a_101 : aI (hp I L R dy) 101 0 = some (18, I 101) := rfl
theorem t_101 {i : Nat} {x : Int32} : (hp I L R dy).set 101 (.inl (0, 18, .inl (upd (I 101) i x))) = hp (uI I 101 i x) L R dy := rfl
theorem a_102 : aI (hp I L R dy) 102 0 = some (12, I 102) := rfl
theorem t_102 {i : Nat} {x : Int32} : (hp I L R dy).set 102 (.inl (0, 12, .inl (upd (I 102) i x))) = hp (uI I 102 i x) L R dy := rfl
theorem a_103 : aI (hp I L R dy) 103 0 = some (6, I 103) := rfl
theorem t_103 {i : Nat} {x : Int32} : (hp I L R dy).set 103 (.inl (0, 6, .inl (upd (I 103) i x))) = hp (uI I 103 i x) L R dy := rfl
theorem a_104 : aI (hp I L R dy) 104 0 = some (6, I 104) := rfl
theorem t_104 {i : Nat} {x : Int32} : (hp I L R dy).set 104 (.inl (0, 6, .inl (upd (I 104) i x))) = hp (uI I 104 i x) L R dy := rfl
end HP
