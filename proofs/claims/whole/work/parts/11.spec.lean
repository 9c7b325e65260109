/-! the state that both sides hold, in one value; and what is said of it -/
abbrev St : Type := (Nat → Nat) × (Nat → Nat) × (Nat → Nat) × (Nat → Bool) × Nat × Nat × (Nat → Nat) × (Nat → Nat) × (Nat → Nat) × Nat × Nat × Nat × (Nat → Nat) × (Nat → Nat) × (Nat → Int32) × (Nat → Int32) × (Nat → Nat) × (Nat → Nat) × (Nat → Nat)
abbrev sRul (S : St) : Nat → Nat := S.1
abbrev sStk (S : St) : Nat → Nat := S.2.1
abbrev sPrs (S : St) : Nat → Nat := S.2.2.1
abbrev sOut (S : St) : Nat → Bool := S.2.2.2.1
abbrev sNn (S : St) : Nat := S.2.2.2.2.1
abbrev sHh (S : St) : Nat := S.2.2.2.2.2.1
abbrev sWts (S : St) : Nat → Nat := S.2.2.2.2.2.2.1
abbrev sTot (S : St) : Nat → Nat := S.2.2.2.2.2.2.2.1
abbrev sVts (S : St) : Nat → Nat := S.2.2.2.2.2.2.2.2.1
abbrev sVn (S : St) : Nat := S.2.2.2.2.2.2.2.2.2.1
abbrev sBrn (S : St) : Nat := S.2.2.2.2.2.2.2.2.2.2.1
abbrev sTn (S : St) : Nat := S.2.2.2.2.2.2.2.2.2.2.2.1
abbrev sTk (S : St) : Nat → Nat := S.2.2.2.2.2.2.2.2.2.2.2.2.1
abbrev sTa (S : St) : Nat → Nat := S.2.2.2.2.2.2.2.2.2.2.2.2.2.1
abbrev sTb (S : St) : Nat → Int32 := S.2.2.2.2.2.2.2.2.2.2.2.2.2.2.1
abbrev sTy (S : St) : Nat → Int32 := S.2.2.2.2.2.2.2.2.2.2.2.2.2.2.2.1
abbrev sTt (S : St) : Nat → Nat := S.2.2.2.2.2.2.2.2.2.2.2.2.2.2.2.2.1
abbrev sTc (S : St) : Nat → Nat := S.2.2.2.2.2.2.2.2.2.2.2.2.2.2.2.2.2.1
abbrev sTs (S : St) : Nat → Nat := S.2.2.2.2.2.2.2.2.2.2.2.2.2.2.2.2.2.2
/-- sums, and 'one of them' -/
def sm (n : Nat) (f : Nat → Nat) : Nat := match n with
  | 0 => 0
  | k + 1 => sm k f + f k
def ex (n : Nat) (f : Nat → Bool) : Bool := match n with
  | 0 => false
  | k + 1 => ex k f || f k
theorem ex_iff {n : Nat} {f : Nat → Bool} : ex n f = true ↔ ∃ i, i < n ∧ f i = true := by
  induction n with
  | zero => simp [ex]
  | succ n ih =>
    simp only [ex, Bool.or_eq_true, ih]
    constructor
    · rintro (⟨i, h, hf⟩ | h)
      · exact ⟨i, by omega, hf⟩
      · exact ⟨n, by omega, h⟩
    · rintro ⟨i, h, hf⟩
      rcases Nat.lt_or_ge i n with q | q
      · exact Or.inl ⟨i, q, hf⟩
      · have : i = n := by omega
        subst this; exact Or.inr hf
theorem ex_no {n : Nat} {f : Nat → Bool} (h : ∀ i, i < n → f i = false) : ex n f = false := by
  cases hh : ex n f with
  | false => rfl
  | true =>
    obtain ⟨i, hi, hf⟩ := ex_iff.mp hh
    rw [h i hi] at hf
    exact absurd hf (by decide)
theorem ex_yes {n : Nat} {f : Nat → Bool} (i : Nat) (hi : i < n) (h : f i = true) : ex n f = true := ex_iff.mpr ⟨i, hi, h⟩
theorem ex_notmem {n : Nat} {f : Nat → Bool} (h : ex n f = false) {i : Nat} (hi : i < n) : f i = false := by
  cases hf : f i with
  | false => rfl
  | true => rw [ex_yes i hi hf] at h; exact absurd h (by decide)
theorem sm_congr {n : Nat} {f g : Nat → Nat} (h : ∀ i, i < n → f i = g i) : sm n f = sm n g := by
  induction n with
  | zero => rfl
  | succ n ih => simp only [sm]; rw [ih (fun i hi => h i (by omega)), h n (by omega)]
theorem ex_congr {n : Nat} {f g : Nat → Bool} (h : ∀ i, i < n → f i = g i) : ex n f = ex n g := by
  induction n with
  | zero => rfl
  | succ n ih => simp only [ex]; rw [ih (fun i hi => h i (by omega)), h n (by omega)]
theorem sm_le {n : Nat} {f : Nat → Nat} {B : Nat} (h : ∀ i, i < n → f i ≤ B) : sm n f ≤ n * B := by
  induction n with
  | zero => simp [sm]
  | succ n ih =>
    have h1 := ih (fun i hi => h i (by omega))
    have h2 := h n (by omega)
    simp only [sm, Nat.succ_mul]
    omega
/-- numbers that name something, by what an int says -/
def isNd (S : St) (x : Int32) : Bool := decide (0 ≤ x.toInt) && decide (x.toInt < (sNn S : Int))
def isVt (S : St) (x : Int32) : Bool := decide (0 ≤ x.toInt) && decide (x.toInt < (sVn S : Int))
def isNN (S : St) (x : Int32) : Bool := decide (x.toInt = -1) || isNd S x
def isKd (x : Int32) : Bool := decide (0 ≤ x.toInt) && decide (x.toInt < 3)
def isSy (r t b : Int32) : Bool := decide (0 ≤ r.toInt) && decide (r.toInt < 8) && decide (0 ≤ t.toInt) && decide (t.toInt < 2) && decide (0 ≤ b.toInt) && decide (b.toInt < 10)
def isBg (S : St) (x : Int32) : Bool := decide (1 ≤ x.toInt) && decide (x.toInt ≤ (sHh S : Int))
def isOp (S : St) (x : Int32) : Bool := isBg S x && decide ((sHh S : Int) - x.toInt ≤ 1)
/-- a vote as one number -/
def vC (k h r t b : Nat) : Nat := h * 2048 + k * 256 + r * 32 + t * 16 + b
def hasV (S : St) (c : Nat) : Bool := ex (sVn S) (fun v => decide (sVts S v = c))
/-- what the nodes weigh that have a vote -/
def wS (S : St) (h r t b : Nat) : Nat := sm 8 (fun k => if hasV S (vC k h r t b) = true then sWts S (8 * h + k) else 0)
def mostF (S : St) (h w : Nat) : Bool := decide (2 * sTot S h < 3 * w)
def bkF (S : St) (h r b : Nat) : Bool := decide (0 < b) && mostF S h (wS S h r 0 b)
def ctF (S : St) (h b : Nat) : Bool := decide (0 < b) && ex 8 (fun r => mostF S h (wS S h r 1 b))
/-- a set of blocks as bits -/
def bitS (n : Nat) (f : Nat → Bool) : Nat := sm n (fun b => if f b = true then 2 ^ b else 0)
def bbF (S : St) (j : Nat) : Nat := bitS 10 (fun b => bkF S (j / 8) (j % 8) b)
def cbF (S : St) (j : Nat) : Nat := bitS 10 (fun b => ctF S j b)
def lkg (c : Nat) : Bool := decide (c / 16 % 2 = 1) && decide (0 < c % 16)
def twF (c d : Nat) : Bool := decide (c ≠ d) && decide (c / 16 = d / 16)
def ulT (S : St) (h b f r : Nat) : Bool := decide (f ≤ r) && bkF S h r b
def ulF (S : St) (h b f t : Nat) : Bool := ex t (ulT S h b f)
def lkF (S : St) (c d : Nat) : Bool := lkg c && decide (c / 256 = d / 256) && decide (c / 32 % 8 < d / 32 % 8) && decide (d / 16 % 2 = 0) && decide (0 < d % 16) && decide (d % 16 ≠ c % 16) && !ulF S (d / 2048) (d % 16) (c / 32 % 8) (d / 32 % 8)
def brF (S : St) (c : Nat) : Bool := lkg c && !bkF S (c / 2048) (c / 32 % 8) (c % 16)
def prF (S : St) (kd c d : Nat) : Bool := if kd = 0 then twF c d else lkF S c d
def clF (S : St) (c d : Nat) : Bool := twF c d || lkF S c d || lkF S d c
/-- whether a vote, kept or not, is part of a break -/
def mkT (S : St) (c v : Nat) : Bool := decide (sVts S v / 256 = c / 256) && clF S c (sVts S v)
def mkF (S : St) (c : Nat) : Bool := brF S c || ex (sVn S) (mkT S c)
/-- the first place where something holds, else n -/
def fi (n : Nat) (f : Nat → Bool) : Nat := match n with
  | 0 => 0
  | k + 1 => if fi k f < k then fi k f else if f k = true then k else k + 1
theorem fi_no {n : Nat} {f : Nat → Bool} (h : ∀ i, i < n → f i = false) : fi n f = n := by
  induction n with
  | zero => rfl
  | succ n ih =>
    have e := ih (fun i hi => h i (by omega))
    simp [fi, e, h n (by omega)]
theorem fi_at {n q : Nat} {f : Nat → Bool} (h : ∀ i, i < q → f i = false) (hq : f q = true) (hn : q < n) : fi n f = q := by
  induction n with
  | zero => omega
  | succ n ih =>
    rcases Nat.lt_or_ge q n with g | g
    · have e := ih g
      simp [fi, e, g]
    · have e : q = n := by omega
      subst e
      have e := fi_no h
      simp [fi, e, hq]
def numT (S : St) (c v : Nat) : Bool := decide (sVts S v = c)
/-- the number of a vote, or -1 -/
def numF (S : St) (c : Nat) : Int32 := if fi (sVn S) (numT S c) < sVn S then nI (fi (sVn S) (numT S c)) else -1
def vrF (S : St) (x y r t b : Int32) : Int32 := if isNd S x = false then -101 else if (isOp S y && isSy r t b) = false then -102 else if sWts S (y.toInt.toNat * 8 + x.toInt.toNat) = 0 then -103 else nI 0
def wfT (S : St) (c v : Nat) : Nat := if sVts S v - sVts S v / 256 % 8 * 256 = c - c / 256 % 8 * 256 then sWts S (c / 2048 * 8 + sVts S v / 256 % 8) else 0
def wfF (S : St) (c : Nat) : Nat := sm (sVn S) (wfT S c)
def cfT (S : St) (q a b : Nat) : Nat := if (if q = 0 then a + 1 else 0) ≤ b ∧ prF S q (sVts S a) (sVts S b) = true then 1 else 0
/-- how many breaks of a kind have a vote as their first one -/
def cfF (S : St) (q a : Nat) : Nat := if q = 2 then (if brF S (sVts S a) = true then 1 else 0) else sm (sVn S) (cfT S q a)
def ptT (S : St) (q a i b : Nat) : Bool := decide (cfT S q a b = 1) && decide (sm b (cfT S q a) = i)
def ptF (S : St) (q a i : Nat) : Int32 := if q = 2 then -1 else if fi (sVn S) (ptT S q a i) < sVn S then nI (fi (sVn S) (ptT S q a i)) else -1
/-- what holds of every state that is reached -/
def Inv (S : St) : Prop := (sNn S ≤ 8 ∧ sHh S ≤ 40 ∧ sVn S ≤ 300) ∧ (∀ v, v < sVn S → sVts S v < 83968 ∧ 2048 ≤ sVts S v ∧ sVts S v % 16 < 10 ∧ sVts S v / 2048 ≤ sHh S ∧ sVts S v / 256 % 8 < sNn S) ∧ (∀ i j, i < sVn S → j < sVn S → sVts S i = sVts S j → i = j) ∧ (∀ k, sStk S k ≤ 1000000000) ∧ (∀ k, sWts S k ≤ 1000000000) ∧ (∀ h, sTot S h ≤ 8000000000) ∧ ((∀ k, k < 3 → sRul S k ≤ 1000) ∧ (2 ≤ sRul S 3 ∧ sRul S 3 ≤ 20) ∧ sRul S 4 ≤ 1000000000) ∧ (∀ i, i < sTn S → sTk S i < 3 ∧ sTa S i < sVn S ∧ sTt S i ≤ 40)
theorem Inv.n {S : St} (I : Inv S) : sNn S ≤ 8 ∧ sHh S ≤ 40 ∧ sVn S ≤ 300 := I.1
theorem Inv.v {S : St} (I : Inv S) {v : Nat} (h : v < sVn S) : sVts S v < 83968 ∧ 2048 ≤ sVts S v ∧ sVts S v % 16 < 10 ∧ sVts S v / 2048 ≤ sHh S ∧ sVts S v / 256 % 8 < sNn S := I.2.1 v h
theorem Inv.inj {S : St} (I : Inv S) {i j : Nat} (hi : i < sVn S) (hj : j < sVn S) (h : sVts S i = sVts S j) : i = j := I.2.2.1 i j hi hj h
theorem Inv.s {S : St} (I : Inv S) (k : Nat) : sStk S k ≤ 1000000000 := I.2.2.2.1 k
theorem Inv.w {S : St} (I : Inv S) (k : Nat) : sWts S k ≤ 1000000000 := I.2.2.2.2.1 k
theorem Inv.t {S : St} (I : Inv S) (h : Nat) : sTot S h ≤ 8000000000 := I.2.2.2.2.2.1 h
theorem Inv.r {S : St} (I : Inv S) : (∀ k, k < 3 → sRul S k ≤ 1000) ∧ (2 ≤ sRul S 3 ∧ sRul S 3 ≤ 20) ∧ sRul S 4 ≤ 1000000000 := I.2.2.2.2.2.2.1
theorem Inv.k {S : St} (I : Inv S) {i : Nat} (h : i < sTn S) : sTk S i < 3 ∧ sTa S i < sVn S ∧ sTt S i ≤ 40 := I.2.2.2.2.2.2.2 i h
theorem wS_le {S : St} (I : Inv S) (h r t b : Nat) : wS S h r t b ≤ 8000000000 := by
  have := sm_le (n := 8) (f := fun k => if hasV S (vC k h r t b) = true then sWts S (8 * h + k) else 0) (B := 1000000000) (fun i _ => by
    have := I.w (8 * h + i)
    split <;> omega)
  unfold wS
  omega
theorem bitS_lt (n : Nat) (f : Nat → Bool) : bitS n f < 2 ^ n := by
  unfold bitS
  induction n with
  | zero => simp [sm]
  | succ n ih =>
    have : (if f n = true then 2 ^ n else 0) ≤ 2 ^ n := by split <;> omega
    simp only [sm, Nat.pow_succ]
    omega
theorem bitS_tb (n : Nat) (f : Nat → Bool) (b : Nat) : (bitS n f).testBit b = (decide (b < n) && f b) := by
  induction n with
  | zero => simp [bitS, sm]
  | succ n ih =>
    have h1 := bitS_lt n f
    have e : bitS (n + 1) f = bitS n f + (if f n = true then 2 ^ n else 0) := rfl
    rw [e]
    cases hf : f n with
    | false =>
      rw [if_neg (by decide), Nat.add_zero, ih]
      by_cases hb : b = n
      · subst hb; simp [hf]
      · have : (b < n) ↔ (b < n + 1) := by omega
        simp [this]
    | true =>
      rw [if_pos rfl, show bitS n f + 2 ^ n = 2 ^ n * 1 + bitS n f by omega, Nat.testBit_two_pow_mul_add 1 h1]
      by_cases hb : b < n
      · rw [if_pos hb, ih]
        have h2 : b < n + 1 := by omega
        simp [hb, h2]
      · rw [if_neg hb]
        cases hk : b - n with
        | zero =>
          have hbn : b = n := by omega
          subst hbn
          simp [hf]
        | succ k =>
          have h2 : ¬ b < n + 1 := by omega
          simp [h2, Nat.testBit_succ]
/-- the cells of the one object -/
abbrev xfs (ad : Nat → Nat) (S : St) : List Value := [.ref (ad 1), .ref (ad 2), .ref (ad 3), .ref (ad 4), .int (nI (sNn S)), .int (nI (sHh S)), .ref (ad 5), .ref (ad 6), .ref (ad 7), .int (nI (sVn S)), .ref (ad 8), .ref (ad 9), .ref (ad 10), .long (lN (sBrn S))]
abbrev xw (ad : Nat → Nat) (cy : Nat → ClassId) (S : St) : va_W := [(ad 0, .inr (2, xfs ad S)), (ad 1, .inl (cy 1, 5, .inr (.inl (fun j => lN (sRul S j))))), (ad 2, .inl (cy 2, 8, .inr (.inl (fun j => lN (sStk S j))))), (ad 3, .inl (cy 3, 8, .inr (.inl (fun j => lN (sPrs S j))))), (ad 4, .inl (cy 4, 8, .inl (fun j => bI (sOut S j)))), (ad 5, .inl (cy 5, 328, .inr (.inl (fun j => lN (sWts S j))))), (ad 6, .inl (cy 6, 41, .inr (.inl (fun j => lN (sTot S j))))), (ad 7, .inl (cy 7, 300, .inl (fun j => nI (sVts S j)))), (ad 8, .inl (cy 8, 328, .inl (fun j => nI (bbF S j)))), (ad 9, .inl (cy 9, 41, .inl (fun j => nI (cbF S j))))]
abbrev xty (cy : Nat → ClassId) : List (ClassId × FieldType) := [(cy 1, .long), (cy 2, .long), (cy 3, .long), (cy 4, .boolean), (cy 5, .long), (cy 6, .long), (cy 7, .int), (cy 8, .int), (cy 9, .int)]
abbrev xB (dC : Nat → ClassId) (dI : Nat → Nat → Nat) (ad : Nat → Nat) (cy : Nat → ClassId) (S : St) : State → Prop := roB (dC, dI) (xw ad cy S) (xty cy)
theorem f_i2l (x : Int32) : (Int32.toInt64 x).toInt = x.toInt := Int32.toInt_toInt64 x
theorem in_nI {x : Int32} {n : Nat} (h0 : 0 ≤ x.toInt) (h : x.toInt < (n : Int)) : ∃ k : Nat, k < n ∧ x = nI k := by
  refine ⟨x.toInt.toNat, by omega, ?_⟩
  apply Int32.toInt_inj.mp
  have := x.toInt_lt
  rw [nI_toInt (by omega)]
  omega
theorem f_dec {k : Nat} (h : 0 < k) : nI k + Int32.ofInt (-1) = nI (k - 1) := by
  obtain ⟨j, rfl⟩ : ∃ j, k = j + 1 := ⟨k - 1, by omega⟩
  exact pk_m1 j
theorem sm_zero {n : Nat} {f : Nat → Nat} (h : ∀ i, i < n → f i = 0) : sm n f = 0 := by
  induction n with
  | zero => rfl
  | succ n ih => simp only [sm]; rw [ih (fun i hi => h i (by omega)), h n (by omega)]
theorem prF_vo {S : St} {q c d : Nat} (h : c / 256 ≠ d / 256) : prF S q c d = false := by
  unfold prF
  split
  · rw [← Bool.not_eq_true]; simp only [twF, Bool.and_eq_true, decide_eq_true_eq]; omega
  · rw [← Bool.not_eq_true]; simp [lkF, h]
theorem prF_lk {S : St} {c d : Nat} (h : lkg c = false) : prF S 1 c d = false := by
  simp [prF, lkF, h]
