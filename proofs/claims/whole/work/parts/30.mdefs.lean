/-! the other object's cells out of the same state -/
def msF (S : St) (h r t b : Nat) : Bool := mostF S h (wS S h r t b)
theorem bk_ms (S : St) (h r b : Nat) : bkF S h r b = (decide (0 < b) && msF S h r 0 b) := rfl
def syF (S : St) (j : Nat) : Nat := bitS 8 (fun k => hasV S (vC k (j / 160) (j / 20 % 8) (j / 10 % 2) (j % 10)))
def rtF (S : St) (j : Nat) : Nat := if j < 3 then sRul S j else 0
def dnF (S : St) (j : Nat) : Bool := ex (sTn S) (fun i => decide (sVts S (sTa S i) / 256 * 3 + sTk S i = j))
theorem sy_at (S : St) {h r t b : Nat} (hr : r < 8) (ht : t < 2) (hb : b < 10) : syF S (((8 * h + r) * 2 + t) * 10 + b) = bitS 8 (fun k => hasV S (vC k h r t b)) := by
  unfold syF
  have e1 : (((8 * h + r) * 2 + t) * 10 + b) / 160 = h := by omega
  have e2 : (((8 * h + r) * 2 + t) * 10 + b) / 20 % 8 = r := by omega
  have e3 : (((8 * h + r) * 2 + t) * 10 + b) / 10 % 2 = t := by omega
  have e4 : (((8 * h + r) * 2 + t) * 10 + b) % 10 = b := by omega
  rw [e1, e2, e3, e4]
theorem sy_lt (S : St) (j : Nat) : syF S j < 256 := bitS_lt 8 _
def woT (S : St) (h m k : Nat) : Nat := if m.testBit k = true then sWts S (8 * h + k) else 0
def woF (S : St) (h m : Nat) : Nat := sm 8 (woT S h m)
theorem wo_at (S : St) {h r t b : Nat} (hr : r < 8) (ht : t < 2) (hb : b < 10) : woF S h (syF S (((8 * h + r) * 2 + t) * 10 + b)) = wS S h r t b := by
  unfold woF wS
  apply sm_congr
  intro i hi
  unfold woT
  rw [sy_at S hr ht hb, bitS_tb]
  simp [hi]
theorem woF_le {S : St} (I : Inv S) (h m : Nat) : woF S h m ≤ 8000000000 := by
  have := sm_le (n := 8) (f := woT S h m) (B := 1000000000) (fun i _ => by
    have := I.w (8 * h + i)
    unfold woT
    split <;> omega)
  unfold woF
  omega
abbrev mfs (ad : Nat → Nat) (S : St) : List Value := [.int (nI (sNn S)), .ref (ad 1), .ref (ad 2), .ref (ad 3), .int (nI (sHh S)), .ref (ad 4), .ref (ad 5), .int (nI (sVn S)), .ref (ad 6), .ref (ad 7), .ref (ad 8), .ref (ad 9), .ref (ad 10), .ref (ad 11), .ref (ad 12), .int (nI (sRul S 3)), .long (lN (sRul S 4)), .long (lN (sBrn S)), .int (nI (sTn S)), .ref (ad 13), .ref (ad 14), .ref (ad 15), .ref (ad 16), .ref (ad 17), .ref (ad 18), .ref (ad 19), .ref (ad 20)]
abbrev mw (ad : Nat → Nat) (cy : Nat → ClassId) (S : St) : va_W := [(ad 0, .inr (3, mfs ad S)), (ad 1, .inl (cy 1, 8, .inr (.inl (fun j => lN (sStk S j))))), (ad 2, .inl (cy 2, 8, .inr (.inl (fun j => lN (sPrs S j))))), (ad 3, .inl (cy 3, 8, .inl (fun j => bI (sOut S j)))), (ad 4, .inl (cy 4, 328, .inr (.inl (fun j => lN (sWts S j))))), (ad 5, .inl (cy 5, 41, .inr (.inl (fun j => lN (sTot S j))))), (ad 6, .inl (cy 6, 300, .inl (fun j => nI (sVts S j / 256 % 8)))), (ad 7, .inl (cy 7, 300, .inl (fun j => nI (sVts S j / 2048)))), (ad 8, .inl (cy 8, 300, .inl (fun j => nI (sVts S j / 32 % 8)))), (ad 9, .inl (cy 9, 300, .inl (fun j => nI (sVts S j / 16 % 2)))), (ad 10, .inl (cy 10, 300, .inl (fun j => nI (sVts S j % 16)))), (ad 11, .inl (cy 11, 6560, .inl (fun j => nI (syF S j)))), (ad 12, .inl (cy 12, 3, .inl (fun j => nI (rtF S j)))), (ad 13, .inl (cy 13, 960, .inl (fun j => nI (sTk S j)))), (ad 14, .inl (cy 14, 960, .inl (fun j => nI (sTa S j)))), (ad 15, .inl (cy 15, 960, .inl (fun j => sTb S j))), (ad 16, .inl (cy 16, 960, .inl (fun j => sTy S j))), (ad 17, .inl (cy 17, 960, .inl (fun j => nI (sTt S j)))), (ad 18, .inl (cy 18, 960, .inr (.inl (fun j => lN (sTc S j))))), (ad 19, .inl (cy 19, 960, .inr (.inl (fun j => lN (sTs S j))))), (ad 20, .inl (cy 20, 984, .inl (fun j => bI (dnF S j))))]
abbrev mty (cy : Nat → ClassId) : List (ClassId × FieldType) := [(cy 1, .long), (cy 2, .long), (cy 3, .boolean), (cy 4, .long), (cy 5, .long), (cy 6, .int), (cy 7, .int), (cy 8, .int), (cy 9, .int), (cy 10, .int), (cy 11, .int), (cy 12, .int), (cy 13, .int), (cy 14, .int), (cy 15, .int), (cy 16, .int), (cy 17, .int), (cy 18, .long), (cy 19, .long), (cy 20, .boolean)]
abbrev mB (dC : Nat → ClassId) (dI : Nat → Nat → Nat) (ad : Nat → Nat) (cy : Nat → ClassId) (S : St) : State → Prop := roB (dC, dI) (mw ad cy S) (mty cy)
def inF (v a b : Int64) : Bool := decide (a.toInt ≤ v.toInt) && decide (v.toInt ≤ b.toInt)
def ibF (S : St) (q a b : Nat) : Bool := if q = 0 then twF (sVts S a) (sVts S b) else if q = 1 then lkF S (sVts S a) (sVts S b) else decide (a = b) && brF S (sVts S a)
def sbF (S : St) (k h r t : Nat) : Nat := bitS 10 (fun b => hasV S (vC k h r t b))
def ctT (S : St) (h q a b : Nat) : Bool := decide (sVts S a / 2048 = h) && decide (sVts S b / 2048 = h) && (decide (q ≠ 0) || decide (a < b)) && ibF S q a b
theorem f_tb2 (m k : Nat) : m / 2 ^ k % 2 = if m.testBit k = true then 1 else 0 := by
  rw [Nat.testBit_eq_decide_div_mod_eq]
  have : m / 2 ^ k % 2 < 2 := Nat.mod_lt _ (by decide)
  by_cases h : m / 2 ^ k % 2 = 1
  · simp [h]
  · have h0 : m / 2 ^ k % 2 = 0 := by omega
    simp [h0]
theorem bitS_succ (n : Nat) (f : Nat → Bool) : bitS (n + 1) f = bitS n f + (if f n = true then 2 ^ n else 0) := rfl
theorem f_or2 {x k z : Nat} (h : x < 2 ^ k) : nI x ||| nI (z * 2 ^ k) = nI (x + z * 2 ^ k) := by
  rw [nx_or, Nat.or_comm, Nat.mul_comm, ← Nat.two_pow_add_eq_or_of_lt h, Nat.add_comm]
theorem f_shlv {z b : Nat} (hz : z < 2) (h : b < 31) : nI z <<< (nI b &&& 31) = nI (z * 2 ^ b) := by
  have hp : 2 ^ b ≤ 2 ^ 30 := Nat.pow_le_pow_right (by decide) (by omega)
  have hq : z * 2 ^ b ≤ 1 * 2 ^ b := Nat.mul_le_mul_right _ (by omega)
  exact pk_shlN (nI b &&& 31) b (f_sl b (by omega)) (by omega)
