/-! what the calls answer that change nothing, out of the state -/
def tn (x : Int32) : Nat := x.toInt.toNat
theorem tn_nI {n : Nat} (h : n < 2147483648) : tn (nI n) = n := by
  unfold tn
  rw [nI_toInt h]
  exact Int.toNat_natCast n
theorem nd_of {S : St} {x : Int32} (h : isNd S x = true) : ∃ k : Nat, k < sNn S ∧ x = nI k := by
  simp only [isNd, Bool.and_eq_true, decide_eq_true_eq] at h
  exact in_nI h.1 h.2
theorem vt_of {S : St} {x : Int32} (h : isVt S x = true) : ∃ k : Nat, k < sVn S ∧ x = nI k := by
  simp only [isVt, Bool.and_eq_true, decide_eq_true_eq] at h
  exact in_nI h.1 h.2
theorem kd_of {x : Int32} (h : isKd x = true) : ∃ k : Nat, k < 3 ∧ x = nI k := by
  simp only [isKd, Bool.and_eq_true, decide_eq_true_eq] at h
  exact in_nI (n := 3) h.1 h.2
theorem bg_of {S : St} {x : Int32} (h : isBg S x = true) : ∃ k : Nat, 1 ≤ k ∧ k ≤ sHh S ∧ x = nI k := by
  simp only [isBg, Bool.and_eq_true, decide_eq_true_eq] at h
  obtain ⟨k, hk, e⟩ := in_nI (n := sHh S + 1) (x := x) (by omega) (by omega)
  refine ⟨k, ?_, by omega, e⟩
  rcases Nat.eq_zero_or_pos k with q | q
  · subst q; subst e; exact absurd h.1 (by decide)
  · exact q
theorem op_of {S : St} (hS : sHh S ≤ 40) {x : Int32} (h : isOp S x = true) : ∃ k : Nat, 1 ≤ k ∧ k ≤ sHh S ∧ sHh S ≤ k + 1 ∧ x = nI k := by
  simp only [isOp, Bool.and_eq_true, decide_eq_true_eq] at h
  obtain ⟨k, h1, h2, rfl⟩ := bg_of h.1
  have := nI_toInt (n := k) (by omega)
  exact ⟨k, h1, h2, by omega, rfl⟩
theorem sy_of {r t b : Int32} (h : isSy r t b = true) : ∃ i j k : Nat, i < 8 ∧ j < 2 ∧ k < 10 ∧ r = nI i ∧ t = nI j ∧ b = nI k := by
  simp only [isSy, Bool.and_eq_true, decide_eq_true_eq] at h
  obtain ⟨i, hi, e1⟩ := in_nI (n := 8) (x := r) (by omega) (by omega)
  obtain ⟨j, hj, e2⟩ := in_nI (n := 2) (x := t) (by omega) (by omega)
  obtain ⟨k, hk, e3⟩ := in_nI (n := 10) (x := b) (by omega) (by omega)
  exact ⟨i, j, k, hi, hj, hk, e1, e2, e3⟩
theorem vr_fine {S : St} (hS : Inv S) {x y r t b : Int32} (h : (vrF S x y r t b).toInt = 0) : ∃ k u i j z : Nat, x = nI k ∧ y = nI u ∧ r = nI i ∧ t = nI j ∧ b = nI z ∧ k < sNn S ∧ 1 ≤ u ∧ u ≤ sHh S ∧ sHh S ≤ u + 1 ∧ i < 8 ∧ j < 2 ∧ z < 10 ∧ sWts S (u * 8 + k) ≠ 0 ∧ vrF S x y r t b = nI 0 := by
  have I1 := hS.n
  have e : vrF S x y r t b = nI 0 := Int32.toInt_inj.mp h
  unfold vrF at h
  split at h
  · exact absurd h (by decide)
  split at h
  · exact absurd h (by decide)
  split at h
  · exact absurd h (by decide)
  rename_i h1 h2 h3
  rw [Bool.not_eq_false] at h1 h2
  rw [Bool.and_eq_true] at h2
  obtain ⟨k, hk, rfl⟩ := nd_of h1
  obtain ⟨u, u1, u2, u3, rfl⟩ := op_of I1.2.1 h2.1
  obtain ⟨i, j, z, hi, hj, hz, rfl, rfl, rfl⟩ := sy_of h2.2
  have e1 := nI_toInt (n := k) (by omega)
  have e2 := nI_toInt (n := u) (by omega)
  rw [e1, e2, Int.toNat_natCast, Int.toNat_natCast] at h3
  exact ⟨k, u, i, j, z, rfl, rfl, rfl, rfl, rfl, hk, u1, u2, u3, hi, hj, hz, h3, e⟩
def maF (S : St) (x y u t b : Int32) : Int32 := if vrF S x y u t b = nI 0 then (if mkF S (vC (tn x) (tn y) (tn u) (tn t) (tn b)) = true then nI 0 else nI 1) else vrF S x y u t b
def sdF (S : St) (x y : Int32) : Int32 := if isVt S x = false then -101 else if y.toInt = 0 then nI (sVts S (tn x) / 256 % 8) else if y.toInt = 1 then nI (sVts S (tn x) / 2048) else if y.toInt = 2 then nI (sVts S (tn x) / 32 % 8) else if y.toInt = 3 then nI (sVts S (tn x) / 16 % 2) else if y.toInt = 4 then nI (sVts S (tn x) % 16) else -102
def wtF (S : St) (x y : Int32) : Int64 := if isNN S y = false then -101 else if isBg S x = false then -102 else if y.toInt = -1 then lN (sTot S (tn x)) else lN (sWts S (tn x * 8 + tn y))
def bdF (S : St) (x u t b : Int32) : Int64 := if (isBg S x && isSy u t b) = false then -102 else lN (wfF S (vC 0 (tn x) (tn u) (tn t) (tn b)))
def cnO (S : St) (h j : Nat) : Nat := if ctF S h j = true then 1 else 0
def cnT (S : St) (h : Nat) (i : Int) (b : Nat) : Bool := ctF S h b && decide ((sm b (cnO S h) : Int) = i)
def cnF (S : St) (x y : Int32) : Int32 := if isBg S x = false then -102 else if fi 10 (cnT S (tn x) y.toInt) < 10 then nI (fi 10 (cnT S (tn x) y.toInt)) else -1
def bsT (S : St) (h q a : Nat) : Nat := if sVts S a / 2048 = h then cfF S q a else 0
def bsF (S : St) (x y : Int32) : Int32 := if (isBg S x && isKd y) = false then -102 else nI (sm (sVn S) (bsT S (tn x) (tn y)))
def bnT (S : St) (h q i a : Nat) : Bool := decide (sm a (bsT S h q) ≤ i) && decide (i < sm a (bsT S h q) + bsT S h q a)
def bnA (S : St) (h q i : Nat) : Nat := fi (sVn S) (bnT S h q i)
def bnF (S : St) (x y z u : Int32) : Int32 := if (isBg S x && isKd y && decide (0 ≤ u.toInt) && decide (u.toInt ≤ 1)) = false then -102 else if z.toInt < 0 then -1 else if bnA S (tn x) (tn y) (tn z) < sVn S then (if u.toInt = 0 then nI (bnA S (tn x) (tn y) (tn z)) else ptF S (tn y) (bnA S (tn x) (tn y) (tn z)) (tn z - sm (bnA S (tn x) (tn y) (tn z)) (bsT S (tn x) (tn y)))) else -1
def nmT (S : St) (h k a : Nat) : Bool := decide (sVts S a / 2048 = h) && decide (sVts S a / 256 % 8 = k) && mkF S (sVts S a)
def nmF (S : St) (x : Int32) : Int32 := if isBg S x = false then -102 else nI (bitS 8 (fun k => ex (sVn S) (nmT S (tn x) k)))
theorem cfT_le (S : St) (q a b : Nat) : cfT S q a b ≤ 1 := by
  unfold cfT
  by_cases h : ((if q = 0 then a + 1 else 0) ≤ b ∧ prF S q (sVts S a) (sVts S b) = true)
  · rw [if_pos h]; exact Nat.le_refl 1
  · rw [if_neg h]; exact Nat.zero_le 1
theorem cfF_le {S : St} (I : Inv S) (q a : Nat) : cfF S q a ≤ 300 := by
  have I1 := I.n
  have := sm_le (n := sVn S) (f := cfT S q a) (B := 1) (fun i _ => cfT_le S q a i)
  unfold cfF
  split
  · split <;> omega
  · omega
theorem bitS_ext {n x : Nat} {f : Nat → Bool} (hx : x < 2 ^ n) (h : ∀ b, b < n → x.testBit b = f b) : x = bitS n f := by
  apply Nat.eq_of_testBit_eq
  intro b
  rw [bitS_tb]
  rcases Nat.lt_or_ge b n with q | q
  · rw [h b q]; simp [q]
  · have : x.testBit b = false := Nat.testBit_lt_two_pow (Nat.lt_of_lt_of_le hx (Nat.pow_le_pow_right (by decide) q))
    have q2 : ¬ b < n := by omega
    rw [this]; simp [q2]
theorem nm_same {S : St} {h v M : Nat} (hM : M = bitS 8 (fun k => ex v (nmT S h k))) (hz : ∀ k, k < 8 → nmT S h k v = true → ex v (nmT S h k) = true) : M = bitS 8 (fun k => ex (v + 1) (nmT S h k)) := by
  refine bitS_ext (by rw [hM]; exact bitS_lt 8 _) (fun b hb => ?_)
  rw [hM, bitS_tb, ex]
  cases hq : nmT S h b v with
  | false => simp [hb]
  | true => rw [hz b hb hq]; simp [hb]
theorem nm_add {S : St} {h v M k : Nat} (hM : M = bitS 8 (fun k => ex v (nmT S h k))) (hk : k < 8) (hz : ∀ j, j < 8 → nmT S h j v = decide (k = j)) : M ||| 2 ^ k = bitS 8 (fun k => ex (v + 1) (nmT S h k)) := by
  refine bitS_ext (Nat.or_lt_two_pow (by rw [hM]; exact bitS_lt 8 _) (Nat.pow_lt_pow_right (by decide) hk)) (fun b hb => ?_)
  rw [Nat.testBit_or, hM, bitS_tb, ex, Nat.testBit_two_pow, hz b hb]
  simp [hb]
