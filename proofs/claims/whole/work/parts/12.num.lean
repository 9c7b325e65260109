/-! numbers and bits -/
theorem f_bv (n : Nat) : (nI n).toBitVec = BitVec.ofNat 32 n := rfl
theorem nx_and (a b : Nat) : nI a &&& nI b = nI (a &&& b) := by
  apply Int32.toBitVec_inj.mp
  rw [Int32.toBitVec_and, f_bv, f_bv, f_bv]
  apply BitVec.eq_of_toNat_eq
  simp only [BitVec.toNat_and, BitVec.toNat_ofNat, Nat.and_mod_two_pow]
theorem nx_or (a b : Nat) : nI a ||| nI b = nI (a ||| b) := by
  apply Int32.toBitVec_inj.mp
  rw [Int32.toBitVec_or, f_bv, f_bv, f_bv]
  apply BitVec.eq_of_toNat_eq
  simp only [BitVec.toNat_or, BitVec.toNat_ofNat, Nat.or_mod_two_pow]
theorem f_or {x b a : Nat} (i : Nat) (hx : x = a * 2 ^ i) (h : b < 2 ^ i) : nI x ||| nI b = nI (x + b) := by
  rw [nx_or, hx, Nat.mul_comm, ← Nat.two_pow_add_eq_or_of_lt h]
theorem f_sl : ∀ n, n < 32 → ((nI n &&& 31).toBitVec.smod 32).toNat = n := by decide
theorem f_shl1 {b : Nat} (h : b < 31) : nI 1 <<< (nI b &&& 31) = nI (2 ^ b) := by
  have hp : 2 ^ b < 2 ^ 32 := Nat.pow_lt_pow_right (by decide) (by omega)
  have := pk_shlN (n := 1) (nI b &&& 31) b (f_sl b (by omega)) (by omega)
  rw [this, Nat.one_mul]
theorem f_shrv {x b : Nat} (hx : x < 2 ^ 31) (h : b < 31) : nI x >>> (nI b &&& 31) = nI (x / 2 ^ b) := pk_shrN hx _ b (f_sl b (by omega))
theorem f_tb {x b : Nat} (h : x &&& 2 ^ b = 0) : x.testBit b = false := by
  have e : (x &&& 2 ^ b).testBit b = (0 : Nat).testBit b := by rw [h]
  rw [Nat.testBit_and, Nat.testBit_two_pow_self, Nat.zero_testBit, Bool.and_true] at e
  exact e
theorem f_tb1 {x b : Nat} (h : x &&& 2 ^ b ≠ 0) : x.testBit b = true := by
  cases hh : x.testBit b with
  | true => rfl
  | false =>
    refine absurd ?_ h
    apply Nat.eq_of_testBit_eq
    intro i
    rw [Nat.testBit_and, Nat.zero_testBit, Nat.testBit_two_pow]
    by_cases hi : b = i
    · subst hi; simp [hh]
    · simp [hi]
/-- the node's bits taken out of a vote -/
theorem f_nm (c : Nat) (h : c < 83968) : nI c &&& (-1793) = nI (c - c / 256 % 8 * 256) := by
  have e : (-1793 : Int32) = nI 4294965503 := by decide
  rw [e, nx_and]
  congr 1
  have h1 : (4294965503 : Nat) = 2097151 * 2 ^ 11 + 255 := by decide
  apply Nat.eq_of_testBit_eq
  intro i
  rw [Nat.testBit_and]
  have hc : c - c / 256 % 8 * 256 = c / 2048 * 2 ^ 11 + c % 256 := by omega
  rw [hc]
  have t1 : (c / 2048 * 2 ^ 11 + c % 256).testBit i = if i < 11 then (c % 256).testBit i else (c / 2048).testBit (i - 11) := by
    rw [Nat.mul_comm]
    exact Nat.testBit_two_pow_mul_add _ (by omega) i
  have t2 : (4294965503 : Nat).testBit i = if i < 11 then (255 : Nat).testBit i else (2097151 : Nat).testBit (i - 11) := by
    rw [h1, Nat.mul_comm]
    exact Nat.testBit_two_pow_mul_add _ (by decide) i
  rw [t1, t2]
  have e8 : (255 : Nat) = 2 ^ 8 - 1 := by decide
  have e21 : (2097151 : Nat) = 2 ^ 21 - 1 := by decide
  by_cases hi : i < 11
  · rw [if_pos hi, if_pos hi, e8, Nat.testBit_two_pow_sub_one]
    have : c % 256 = c % 2 ^ 8 := by rfl
    rw [this, Nat.testBit_mod_two_pow, Bool.and_comm]
  · rw [if_neg hi, if_neg hi, e21, Nat.testBit_two_pow_sub_one]
    have : c / 2048 = c / 2 ^ 11 := by rfl
    rw [this, Nat.testBit_div_two_pow]
    have hii : i - 11 + 11 = i := by omega
    rw [hii]
    by_cases h2 : i - 11 < 21
    · simp [h2]
    · have : c.testBit i = false := Nat.testBit_lt_two_pow (Nat.lt_of_lt_of_le (show c < 2 ^ 32 by omega) (Nat.pow_le_pow_right (by decide) (by omega)))
      simp [this]
theorem bb_at (S : St) {h r b : Nat} (hr : r < 8) (hb : b < 10) : (bbF S (h * 8 + r)).testBit b = bkF S h r b := by
  unfold bbF
  rw [bitS_tb]
  have e1 : (h * 8 + r) / 8 = h := by omega
  have e2 : (h * 8 + r) % 8 = r := by omega
  rw [e1, e2]
  simp [hb]
theorem bb_lt (S : St) (j : Nat) : bbF S j < 1024 := bitS_lt 10 _
theorem cb_at (S : St) {h b : Nat} (hb : b < 10) : (cbF S h).testBit b = ctF S h b := by
  unfold cbF
  rw [bitS_tb]
  simp [hb]
theorem cb_lt (S : St) (j : Nat) : cbF S j < 1024 := bitS_lt 10 _
