/-! a break is accused -/
def arF (S : St) (x a b y : Int32) : Int32 := if (isVt S a && (decide (x.toInt = 2) || isVt S b) && isNN S y) = false then -101 else if isKd x = false then -102 else if (if x.toInt = 2 then brF S (sVts S (tn a)) else prF S (tn x) (sVts S (tn a)) (sVts S (tn b))) = false then -105 else if x.toInt ≠ 0 ∧ sHh S < sVts S (tn a) / 2048 + 2 then -106 else if sVts S (tn a) / 2048 + sRul S 3 < sHh S then -107 else if dnF S (sVts S (tn a) / 256 * 3 + tn x) = true then -108 else nI 0
def acA (x a b : Int32) : Nat := if x.toInt = 0 ∧ b.toInt < a.toInt then tn b else tn a
def acB (x a b : Int32) : Int32 := if x.toInt = 2 then -1 else if x.toInt = 0 ∧ b.toInt < a.toInt then a else b
def cst (S : St) (k q : Nat) : Nat := sStk S k * sRul S q / 1000
def shr (S : St) (k q : Nat) (y : Int32) : Nat := if y.toInt = -1 then 0 else cst S k q / 10
def prG (S : St) (k q : Nat) (y : Int32) : Nat → Nat := if y.toInt = -1 then sPrs S else va_up (sPrs S) (tn y) (sPrs S (tn y) + shr S k q y)
def ouG (S : St) (k q : Nat) : Nat → Bool := va_up (sOut S) k (sOut S k || decide (sStk S k - cst S k q < sRul S 4))
def accS (S : St) (k q fa : Nat) (fb y : Int32) : St := (sRul S, va_up (sStk S) k (sStk S k - cst S k q), prG S k q y, ouG S k q, sNn S, sHh S, sWts S, sTot S, sVts S, sVn S, sBrn S + (cst S k q - shr S k q y), sTn S + 1, va_up (sTk S) (sTn S) q, va_up (sTa S) (sTn S) fa, va_up (sTb S) (sTn S) fb, va_up (sTy S) (sTn S) y, va_up (sTt S) (sTn S) (sHh S), va_up (sTc S) (sTn S) (cst S k q), va_up (sTs S) (sTn S) (shr S k q y))
def acF (S : St) (x a b y : Int32) : Int64 := if arF S x a b y = nI 0 then lN (cst S (sVts S (tn a) / 256 % 8) (tn x)) else Int32.toInt64 (arF S x a b y)
def acG (S : St) (x a b y : Int32) : St := if arF S x a b y = nI 0 then accS S (sVts S (tn a) / 256 % 8) (tn x) (acA x a b) (acB x a b) y else S
theorem cst_le {S : St} (I : Inv S) {k q : Nat} (hq : q < 3) : cst S k q ≤ sStk S k ∧ sStk S k * sRul S q ≤ 1000000000000 := by
  have h1 := I.s k
  have h2 := I.r.1 q hq
  have h3 : sStk S k * sRul S q ≤ sStk S k * 1000 := Nat.mul_le_mul_left _ h2
  unfold cst
  omega
theorem ac_no {S : St} {x a b y v : Int32} (h : arF S x a b y = v) (hv : v ≠ nI 0) : acG S x a b y = S ∧ acF S x a b y = Int32.toInt64 v := by
  unfold acG acF
  rw [h, if_neg hv, if_neg hv]
  exact ⟨rfl, rfl⟩
theorem dn_acc {S : St} {k q fa : Nat} {fb y : Int32} (hS : ∀ i, i < sTn S → sTa S i < sVn S) : dnF (accS S k q fa fb y) = va_up (dnF S) (sVts S fa / 256 * 3 + q) true := by
  funext j
  have e : dnF (accS S k q fa fb y) j = (ex (sTn S) (fun i => decide (sVts S (va_up (sTa S) (sTn S) fa i) / 256 * 3 + va_up (sTk S) (sTn S) q i = j)) || decide (sVts S (va_up (sTa S) (sTn S) fa (sTn S)) / 256 * 3 + va_up (sTk S) (sTn S) q (sTn S) = j)) := rfl
  rw [e, va_upS, va_upS]
  have e2 : ex (sTn S) (fun i => decide (sVts S (va_up (sTa S) (sTn S) fa i) / 256 * 3 + va_up (sTk S) (sTn S) q i = j)) = dnF S j := by
    unfold dnF
    apply ex_congr
    intro i hi
    rw [va_upN (by omega), va_upN (by omega)]
  rw [e2]
  by_cases hj : j = sVts S fa / 256 * 3 + q
  · rw [hj, va_upS]
    simp
  · rw [va_upN hj]
    have : ¬ sVts S fa / 256 * 3 + q = j := fun e => hj e.symm
    simp [this]
theorem pr_w {S : St} {q c d : Nat} (h : prF S q c d = true) : c / 256 = d / 256 := by
  rcases Nat.lt_or_ge 0 1 with _ | g
  · rcases Decidable.em (c / 256 = d / 256) with e | e
    · exact e
    · rw [prF_vo e] at h
      exact absurd h (by decide)
  · omega
theorem and3 {a b c : Bool} (h1 : a = true) (h2 : b = true) (h3 : c = true) : (a && b && c) = true := by rw [h1, h2, h3]; rfl
theorem ar_ok {S : St} {x a b y : Int32} (h1 : (isVt S a && (decide (x.toInt = 2) || isVt S b) && isNN S y) = true) (h2 : isKd x = true) (h3 : (if x.toInt = 2 then brF S (sVts S (tn a)) else prF S (tn x) (sVts S (tn a)) (sVts S (tn b))) = true) (h4 : ¬ (x.toInt ≠ 0 ∧ sHh S < sVts S (tn a) / 2048 + 2)) (h5 : ¬ sVts S (tn a) / 2048 + sRul S 3 < sHh S) (h6 : dnF S (sVts S (tn a) / 256 * 3 + tn x) = false) : arF S x a b y = nI 0 := by
  unfold arF
  rw [if_neg (by rw [h1]; decide), if_neg (by rw [h2]; decide), if_neg (by rw [h3]; decide), if_neg h4, if_neg h5, if_neg (by rw [h6]; decide)]
theorem ib_pr {S : St} {q a b : Nat} (h : q < 3) (h2 : q ≠ 2) : ibF S q a b = prF S q (sVts S a) (sVts S b) := by
  unfold ibF prF
  rcases (show q = 0 ∨ q = 1 by omega) with rfl | rfl
  · rfl
  · rfl
theorem ib_br {S : St} {q a : Nat} (h2 : q = 2) : ibF S q a a = brF S (sVts S a) := by
  subst h2
  simp [ibF]
