/-! the class's object with its list -/
abbrev tfs (S : St) (i : Nat) : List Value := [.int (nI (sTk S i)), .int (nI (sTa S i)), .int (sTb S i), .int (sTy S i), .int (nI (sTt S i)), .long (lN (sTc S i)), .long (lN (sTs S i))]
def tw (pa : Nat → Nat) (S : St) : va_W := (List.range (sTn S)).map (fun i => (pa i, .inr (1, tfs S i)))
def foF (pa : Nat → Nat) (S : St) (i : Nat) : Option Nat := if i < sTn S then some (pa i) else none
theorem tw_get {pa : Nat → Nat} {S : St} {i : Nat} (hi : i < sTn S) : (tw pa S)[i]? = some (pa i, .inr (1, tfs S i)) := by
  unfold tw
  rw [List.getElem?_map, List.getElem?_range hi]
  rfl
def nestB : State → Prop := fun U => va_Nw (.fieldLinkNest "FaultEvidence" 184 "FaultEvidence$Taken" "kind" "I" "FaultEvidence") U ∧ va_Nw (.fieldLinkNest "FaultEvidence" 187 "FaultEvidence$Taken" "first" "I" "FaultEvidence") U ∧ va_Nw (.fieldLinkNest "FaultEvidence" 190 "FaultEvidence$Taken" "second" "I" "FaultEvidence") U ∧ va_Nw (.fieldLinkNest "FaultEvidence" 193 "FaultEvidence$Taken" "accuser" "I" "FaultEvidence") U ∧ va_Nw (.fieldLinkNest "FaultEvidence" 196 "FaultEvidence$Taken" "heightThen" "I" "FaultEvidence") U ∧ va_Nw (.fieldLinkNest "FaultEvidence" 199 "FaultEvidence$Taken" "cost" "J" "FaultEvidence") U ∧ va_Nw (.fieldLinkNest "FaultEvidence" 202 "FaultEvidence$Taken" "reward" "J" "FaultEvidence") U
theorem nestB_bl (U : State) (g : JFrame) (mk : MethodId) (a : Array Value) (h : nestB U) : nestB (U.calling g mk a) := ⟨h.1.same rfl rfl, h.2.1.same rfl rfl, h.2.2.1.same rfl rfl, h.2.2.2.1.same rfl rfl, h.2.2.2.2.1.same rfl rfl, h.2.2.2.2.2.1.same rfl rfl, h.2.2.2.2.2.2.same rfl rfl⟩
theorem nestB_at {s U : State} (h : nestB s) (hW : s.WarmedH U.vm) : nestB U := ⟨h.1.warmF hW, h.2.1.warmF hW, h.2.2.1.warmF hW, h.2.2.2.1.warmF hW, h.2.2.2.2.1.warmF hW, h.2.2.2.2.2.1.warmF hW, h.2.2.2.2.2.2.warmF hW⟩
abbrev tW (ad : Nat → Nat) (cy : Nat → ClassId) (S : St) (mc : Int32) (ed : Nat) (Z : va_W) : va_W := xw ad cy S ++ (lwO (ad 10) mc ed (sTn S) :: Z)
def tB (dC : Nat → ClassId) (dI : Nat → Nat → Nat) (ad : Nat → Nat) (cy : Nat → ClassId) (S : St) (mc : Int32) (ed : Nat) (Z : va_W) (tz : List (ClassId × FieldType)) : State → Prop := fun U => roB (dC, dI) (tW ad cy S mc ed Z) (xty cy ++ tz) U ∧ nestB U
theorem tB_bl {dC : Nat → ClassId} {dI : Nat → Nat → Nat} {ad : Nat → Nat} {cy : Nat → ClassId} {S : St} {mc : Int32} {ed : Nat} {Z : va_W} {tz : List (ClassId × FieldType)} (U : State) (g : JFrame) (mk : MethodId) (a : Array Value) (h : tB dC dI ad cy S mc ed Z tz U) : tB dC dI ad cy S mc ed Z tz (U.calling g mk a) := ⟨roB_bl U g mk a h.1, nestB_bl U g mk a h.2⟩
theorem tB_at {s : State} {H : Heap} {dC : Nat → ClassId} {dI : Nat → Nat → Nat} {ad : Nat → Nat} {cy : Nat → ClassId} {S : St} {mc : Int32} {ed : Nat} {Z : va_W} {tz : List (ClassId × FieldType)} (hP : va_P (dC, dI) vwCl (tW ad cy S mc ed Z) H) (hK : va_K (dC, dI) vwCl (xty cy ++ tz) s) (hN : nestB s) : ∀ U : State, U.heap = H → s.WarmedH U.vm → tB dC dI ad cy S mc ed Z tz U := fun U hU hW => ⟨roB_at hP hK U hU hW, nestB_at hN hW⟩
theorem kl_left {D : va_G} {cl : List vw_C} {t1 t2 : List (ClassId × FieldType)} {U : State} (h : va_K D cl (t1 ++ t2) U) : va_K D cl t1 U := ⟨h.1, fun k q hk => h.2 k q (by
  rw [List.getElem?_append_left (List.getElem?_eq_some_iff.mp hk).1]
  exact hk)⟩
/-- what the list's cells are, where there is something in it -/
def lstZ (S : St) (ed n : Nat) (cO : ClassId) (pa : Nat → Nat) (Z : va_W) (tz : List (ClassId × FieldType)) : Prop := sTn S = 0 ∨ (Z = lwA ed cO n (foF pa S) :: tw pa S ∧ tz = [(cO, .object "java/lang/Object")] ∧ sTn S ≤ n ∧ n < 2147483648)
theorem was_dn {S : St} (q w : Nat) (hq : q < 3) (hk : ∀ i, i < sTn S → sTk S i < 3) : ex (sTn S) (fun i => decide (sTk S i = q) && decide (sVts S (sTa S i) / 256 = w)) = dnF S (w * 3 + q) := by
  unfold dnF
  apply ex_congr
  intro i hi
  have := hk i hi
  rw [Bool.eq_iff_iff]
  simp only [Bool.and_eq_true, decide_eq_true_eq]
  omega
