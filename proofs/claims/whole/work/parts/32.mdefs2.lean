/-! more of what is answered; sums over votes and over nodes are the same -/
theorem in_i2l (x : Int32) {a b : Nat} (ha : a < 2147483648) (hb : b < 2147483648) : inF (Int32.toInt64 x) (lN a) (lN b) = (decide ((a : Int) ≤ x.toInt) && decide (x.toInt ≤ (b : Int))) := by
  unfold inF
  rw [f_i2l, pk_lT (by omega), pk_lT (by omega)]
def brT (S : St) (h q a b : Nat) : Nat := if ctT S h q a b = true then 1 else 0
def abF (S : St) (x : Int32) : Int64 := if x.toInt = 0 then lN (sHh S) else if x.toInt = 1 then lN (sNn S) else if x.toInt = 2 then lN (sVn S) else if x.toInt = 3 then lN (sTn S) else if x.toInt = 4 then lN (sBrn S) else if 5 ≤ x.toInt ∧ x.toInt ≤ 7 then lN (sRul S (tn x - 5)) else if x.toInt = 8 then lN (sRul S 3) else if x.toInt = 9 then lN (sRul S 4) else -102
def hoT (S : St) (k i : Nat) : Nat := if sVts S (sTa S i) / 256 % 8 = k then 1 else 0
def hoF (S : St) (x y : Int32) : Int64 := if isNd S x = false then -101 else if y.toInt = 0 then lN (sStk S (tn x)) else if y.toInt = 1 then lN (sPrs S (tn x)) else if y.toInt = 2 then (if sOut S (tn x) = true then lN 1 else lN 0) else if y.toInt = 3 then lN (sm (sTn S) (hoT S (tn x))) else -102
def tkF (S : St) (x y : Int32) : Int64 := if x.toInt < 0 ∨ (sTn S : Int) ≤ x.toInt then -101 else if y.toInt = 0 then lN (sTk S (tn x)) else if y.toInt = 1 then lN (sTa S (tn x)) else if y.toInt = 2 then Int32.toInt64 (sTb S (tn x)) else if y.toInt = 3 then Int32.toInt64 (sTy S (tn x)) else if y.toInt = 4 then lN (sTt S (tn x)) else if y.toInt = 5 then lN (sTc S (tn x)) else if y.toInt = 6 then lN (sTs S (tn x)) else -102
theorem sm_one {n q : Nat} {f : Nat → Nat} (hq : q < n) (h : ∀ i, i < n → i ≠ q → f i = 0) : sm n f = f q := by
  induction n with
  | zero => omega
  | succ n ih =>
    rcases Nat.lt_or_ge q n with g | g
    · rw [sm, ih g (fun i hi hne => h i (by omega) hne), h n (by omega) (by omega)]
      omega
    · have e : q = n := by omega
      subst e
      rw [sm, sm_zero (fun i hi => h i (by omega) (by omega))]
      omega
theorem sm_add (n : Nat) (f g : Nat → Nat) : sm n (fun i => f i + g i) = sm n f + sm n g := by
  induction n with
  | zero => rfl
  | succ n ih => simp only [sm, ih]; omega
theorem sm_swap (n m : Nat) (f : Nat → Nat → Nat) : sm n (fun i => sm m (fun j => f i j)) = sm m (fun j => sm n (fun i => f i j)) := by
  induction n with
  | zero => rw [sm, sm_zero]; intro i _; rfl
  | succ n ih => simp only [sm, ih, sm_add]
/-- the weights of the nodes that have a vote: summed over the votes, or over the nodes -/
theorem wf_eq {S : St} (I : Inv S) {k h r t b : Nat} (hk : k < 8) (hr : r < 8) (ht : t < 2) (hb : b < 16) : wfF S (vC k h r t b) = wS S h r t b := by
  have e : wfF S (vC k h r t b) = sm (sVn S) (fun v => sm 8 (fun j => if sVts S v = vC j h r t b then sWts S (8 * h + j) else 0)) := by
    unfold wfF
    apply sm_congr
    intro v hv
    have hw := I.v hv
    unfold wfT
    have e1 : vC k h r t b / 2048 = h := by unfold vC; omega
    have e2 : vC k h r t b - vC k h r t b / 256 % 8 * 256 = vC 0 h r t b := by unfold vC; omega
    rw [e1, e2]
    by_cases hc : sVts S v - sVts S v / 256 % 8 * 256 = vC 0 h r t b
    · rw [if_pos hc, sm_one (q := sVts S v / 256 % 8) (by omega)]
      · rw [if_pos (by unfold vC at hc ⊢; omega)]
        congr 1
        omega
      · intro i hi hne
        rw [if_neg]
        intro e3
        rw [e3] at hne
        apply hne
        unfold vC
        omega
    · rw [if_neg hc, sm_zero]
      intro i hi
      rw [if_neg]
      intro e3
      apply hc
      rw [e3]
      unfold vC
      omega
  rw [e, sm_swap]
  unfold wS
  apply sm_congr
  intro j hj
  by_cases hh : hasV S (vC j h r t b) = true
  · rw [if_pos hh]
    obtain ⟨q, hq, hf⟩ := ex_iff.mp hh
    rw [decide_eq_true_eq] at hf
    rw [sm_one (q := q) hq]
    · rw [if_pos hf]
    · intro i hi hne
      rw [if_neg]
      intro e3
      exact hne (I.inj hi hq (e3.trans hf.symm))
  · rw [if_neg hh, sm_zero]
    intro i hi
    rw [if_neg]
    intro e3
    exact hh (ex_yes i hi (by rw [e3]; exact decide_eq_true rfl))
theorem tw_hh {c d : Nat} (h : twF c d = true) : c / 2048 = d / 2048 := by
  simp only [twF, Bool.and_eq_true, decide_eq_true_eq] at h
  omega
theorem lk_hh {S : St} {c d : Nat} (h : lkF S c d = true) : c / 2048 = d / 2048 := by
  simp only [lkF, Bool.and_eq_true, decide_eq_true_eq] at h
  omega
/-- the pairs that count, by a's side: with a kind below 2 they are the ones of cfT -/
theorem br_cf {S : St} {h q a b : Nat} (hw : sVts S a / 2048 = h) (hq : q < 2) : brT S h q a b = cfT S q a b := by
  unfold brT cfT
  rcases (show q = 0 ∨ q = 1 by omega) with rfl | rfl
  · by_cases ht : twF (sVts S a) (sVts S b) = true
    · have := tw_hh ht
      have e : sVts S b / 2048 = h := by omega
      by_cases hab : a < b
      · simp [ctT, ibF, prF, ht, hw, e, hab]
        omega
      · simp [ctT, ibF, prF, ht, hw, e, hab]
        omega
    · rw [Bool.not_eq_true] at ht
      simp [ctT, ibF, prF, ht]
  · by_cases ht : lkF S (sVts S a) (sVts S b) = true
    · have := lk_hh ht
      have e : sVts S b / 2048 = h := by omega
      simp [ctT, ibF, prF, ht, hw, e]
    · rw [Bool.not_eq_true] at ht
      simp [ctT, ibF, prF, ht]
theorem br_2 {S : St} {h a b : Nat} (hw : sVts S a / 2048 = h) : brT S h 2 a b = if a = b ∧ brF S (sVts S a) = true then 1 else 0 := by
  unfold brT
  by_cases hab : a = b
  · subst hab
    simp [ctT, ibF, hw]
  · simp [ctT, ibF, hab]
theorem br_sum {S : St} {h q a : Nat} (ha : a < sVn S) (hw : sVts S a / 2048 = h) (hq : q < 3) : sm (sVn S) (brT S h q a) = cfF S q a := by
  unfold cfF
  rcases (show q < 2 ∨ q = 2 by omega) with g | rfl
  · rw [if_neg (by omega)]
    exact sm_congr (fun i _ => br_cf hw g)
  · rw [if_pos rfl, sm_one (q := a) ha]
    · rw [br_2 hw]; simp
    · intro i _ hne
      rw [br_2 hw, if_neg]
      omega
theorem br_no {S : St} {h q a b : Nat} (hw : sVts S a / 2048 ≠ h) : brT S h q a b = 0 := by
  simp [brT, ctT, hw]
