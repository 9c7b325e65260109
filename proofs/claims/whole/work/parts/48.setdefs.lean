/-! the rules are set -/
def rfF (k : Nat) : Nat := if k = 3 then 2 else 0
def rgF (k : Nat) : Nat := if k < 3 then 1000 else if k = 3 then 20 else 1000000000
def okR (x : Int32) (y : Int64) : Bool := decide (0 ≤ x.toInt) && decide (x.toInt < 5) && decide ((rfF (tn x) : Int) ≤ y.toInt) && decide (y.toInt ≤ (rgF (tn x) : Int))
def setF (S : St) (x : Int32) (y : Int64) : Int64 := if okR x y = true then lN (sRul S (tn x)) else -102
def setG (S : St) (x : Int32) (y : Int64) : St := if okR x y = true then rulS S (tn x) y.toInt.toNat else S
theorem in_raw (y : Int64) {a b : Nat} (ha : a < 2147483648) (hb : b < 2147483648) : inF y (lN a) (lN b) = (decide ((a : Int) ≤ y.toInt) && decide (y.toInt ≤ (b : Int))) := by
  unfold inF
  rw [pk_lT (by omega), pk_lT (by omega)]
def stB (t1 t2 : Nat) (A : Nat → Prop) : State → Prop := fun U => (va_Z "FaultEvidence" "RULE_FROM" "[J" (.ref t1) A U U.heap ∧ va_T .long t1 5 (fun j => .long (lN (rfF j))) A U U.heap) ∧ (va_Z "FaultEvidence" "RULE_TO" "[J" (.ref t2) A U U.heap ∧ va_T .long t2 5 (fun j => .long (lN (rgF j))) A U U.heap)
theorem stB_bl {t1 t2 : Nat} {A : Nat → Prop} (U : State) (g : JFrame) (mk : MethodId) (a : Array Value) (h : stB t1 t2 A U) : stB t1 t2 A (U.calling g mk a) := ⟨⟨va_Z.moved (u := U) (U := U.calling g mk a) (Vm.Alike.refl U.vm) h.1.1, va_T.moved (u := U) (U := U.calling g mk a) (Vm.Alike.refl U.vm) h.1.2⟩, ⟨va_Z.moved (u := U) (U := U.calling g mk a) (Vm.Alike.refl U.vm) h.2.1, va_T.moved (u := U) (U := U.calling g mk a) (Vm.Alike.refl U.vm) h.2.2⟩⟩
theorem rt_set {S : St} {k g : Nat} (hk : k < 3) : upd (fun j => nI (rtF S j)) k (nI g) = fun j => nI (rtF (rulS S k g) j) := by
  funext j
  unfold upd rtF
  by_cases hj : j = k
  · rw [if_pos hj, if_pos (by omega), hj]
    exact congrArg nI va_upS.symm
  · rw [if_neg hj]
    show nI (if j < 3 then sRul S j else 0) = nI (if j < 3 then va_up (sRul S) k g j else 0)
    rw [va_upN hj]
theorem rt_set2 {S : St} {k g : Nat} (hk : 3 ≤ k) : (fun j => nI (rtF S j)) = fun j => nI (rtF (rulS S k g) j) := by
  funext j
  unfold rtF
  by_cases hj : j < 3
  · rw [if_pos hj, if_pos hj]
    exact congrArg nI (va_upN (by omega)).symm
  · rw [if_neg hj, if_neg hj]
abbrev MuLS (t1 t2 : Nat) (l : Launch) (y : MethodName) (ws : List Cond) (rm : Room) (As : List Value) (D : va_G) (w w1 : va_W) (tys : List (ClassId × FieldType)) (sz : Nat) (v : Int64) : Prop := Met l y ws rm (va_Pc As (fun U => muB D w tys sz U ∧ stB t1 t2 (va_A w sz) U)) (va_Ql (fun r (_ : Unit) => r = v) (fun _ t => muQ D w1 tys (va_A w sz) t) (va_A w sz)) 0 0 (va_A w sz)
theorem ru_s {S : St} {k g : Nat} : lN g = lN (sRul (rulS S k g) k) := by
  have e : sRul (rulS S k g) k = g := va_upS
  rw [e]
theorem ru_sI {S : St} {k g : Nat} : nI g = nI (sRul (rulS S k g) k) := by
  have e : sRul (rulS S k g) k = g := va_upS
  rw [e]
theorem ru_n {S : St} {k g j : Nat} (h : j ≠ k) : lN (sRul S j) = lN (sRul (rulS S k g) j) := by
  have e : sRul (rulS S k g) j = sRul S j := va_upN h
  rw [e]
theorem ru_nI {S : St} {k g j : Nat} (h : j ≠ k) : nI (sRul S j) = nI (sRul (rulS S k g) j) := by
  have e : sRul (rulS S k g) j = sRul S j := va_upN h
  rw [e]
