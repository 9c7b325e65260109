/-! what holds of a state holds of the one after a call -/
theorem inv_nod {S : St} (I : Inv S) {x : Nat} (h8 : sNn S < 8) (hx : x ≤ 1000000000) : Inv (nodS S x) := by
  obtain ⟨⟨a1, a2, a3⟩, a4, a5, a6, a7, a8, a9, a10⟩ := I
  refine ⟨⟨show sNn S + 1 ≤ 8 by omega, a2, a3⟩, ?_, a5, ?_, a7, a8, a9, a10⟩
  · intro v hv
    have e := a4 v hv
    exact ⟨e.1, e.2.1, e.2.2.1, e.2.2.2.1, Nat.lt_succ_of_lt e.2.2.2.2⟩
  · intro k
    show va_up (sStk S) (sNn S) x k ≤ 1000000000
    by_cases e : k = sNn S
    · rw [e, va_upS]; exact hx
    · rw [va_upN e]; exact a6 k
theorem inv_stk {S : St} (I : Inv S) {k0 x : Nat} (hx : x ≤ 1000000000) : Inv (stkS S k0 x) := by
  obtain ⟨a1, a4, a5, a6, a7, a8, a9, a10⟩ := I
  refine ⟨a1, a4, a5, ?_, a7, a8, a9, a10⟩
  intro k
  show va_up (sStk S) k0 x k ≤ 1000000000
  by_cases e : k = k0
  · rw [e, va_upS]; exact hx
  · rw [va_upN e]; exact a6 k
theorem inv_rul {S : St} (I : Inv S) {k0 x : Nat} (h1 : rfF k0 ≤ x) (h2 : x ≤ rgF k0) : Inv (rulS S k0 x) := by
  obtain ⟨a1, a4, a5, a6, a7, a8, ⟨r1, r2, r3⟩, a10⟩ := I
  have up : ∀ j, sRul (rulS S k0 x) j = va_up (sRul S) k0 x j := fun _ => rfl
  unfold rfF at h1
  unfold rgF at h2
  refine ⟨a1, a4, a5, a6, a7, a8, ⟨?_, ?_, ?_⟩, a10⟩
  · intro k hk
    rw [up]
    by_cases e : k = k0
    · rw [e, va_upS]
      rw [if_pos (by omega)] at h2
      exact h2
    · rw [va_upN e]; exact r1 k hk
  · rw [up]
    by_cases e : (3 : Nat) = k0
    · rw [← e, va_upS]
      rw [← e] at h1 h2
      rw [if_pos rfl] at h1
      rw [if_neg (by decide), if_pos rfl] at h2
      exact ⟨h1, h2⟩
    · rw [va_upN e]; exact r2
  · rw [up]
    by_cases e : (4 : Nat) = k0
    · rw [← e, va_upS]
      rw [← e] at h2
      rw [if_neg (by decide), if_neg (by decide)] at h2
      exact h2
    · rw [va_upN e]; exact r3
theorem nwT_le {S : St} (I : Inv S) (k : Nat) : nwT S k ≤ 1000000000 := by
  have := I.s k
  unfold nwT
  split <;> omega
theorem inv_nxt {S : St} (I : Inv S) (h : sHh S < 40) : Inv (nxtS S) := by
  have It := fun k => nwT_le I k
  have hs := sm_le (n := sNn S) (f := nwT S) (B := 1000000000) (fun i _ => It i)
  obtain ⟨⟨a1, a2, a3⟩, a4, a5, a6, a7, a8, a9, a10⟩ := I
  refine ⟨⟨a1, show sHh S + 1 ≤ 40 by omega, a3⟩, ?_, a5, a6, ?_, ?_, a9, a10⟩
  · intro v hv
    have e := a4 v hv
    exact ⟨e.1, e.2.1, e.2.2.1, Nat.le_succ_of_le e.2.2.2.1, e.2.2.2.2⟩
  · intro k
    show nwW S (sNn S) k ≤ 1000000000
    unfold nwW
    split
    · exact It _
    · exact a7 k
  · intro k
    show va_up (sTot S) (sHh S + 1) (sm (sNn S) (nwT S)) k ≤ 8000000000
    by_cases e : k = sHh S + 1
    · rw [e, va_upS]; omega
    · rw [va_upN e]; exact a8 k
theorem inv_acc {S : St} (I : Inv S) {k0 q fa : Nat} {fb y : Int32} (hq : q < 3) (hfa : fa < sVn S) : Inv (accS S k0 q fa fb y) := by
  obtain ⟨⟨a1, a2, a3⟩, a4, a5, a6, a7, a8, a9, a10⟩ := I
  refine ⟨⟨a1, a2, a3⟩, a4, a5, ?_, a7, a8, a9, ?_⟩
  · intro k
    show va_up (sStk S) k0 (sStk S k0 - cst S k0 q) k ≤ 1000000000
    by_cases e : k = k0
    · rw [e, va_upS]
      have := a6 k0
      omega
    · rw [va_upN e]; exact a6 k
  · intro i hi
    have hi : i < sTn S + 1 := hi
    show va_up (sTk S) (sTn S) q i < 3 ∧ va_up (sTa S) (sTn S) fa i < sVn S ∧ va_up (sTt S) (sTn S) (sHh S) i ≤ 40
    by_cases e : i = sTn S
    · rw [e, va_upS, va_upS, va_upS]
      exact ⟨hq, hfa, a2⟩
    · rw [va_upN e, va_upN e, va_upN e]
      exact a10 i (by omega)
/-- every height that has not begun has no weight together -/
def Hi0 (S : St) : Prop := ∀ h, sHh S < h → sTot S h = 0
theorem hi_nxt {S : St} (h : Hi0 S) : Hi0 (nxtS S) := by
  intro k hk
  have hk : sHh S + 1 < k := hk
  show va_up (sTot S) (sHh S + 1) (sm (sNn S) (nwT S)) k = 0
  rw [va_upN (by omega)]
  exact h k (by omega)
theorem inv_nodG {S : St} (I : Inv S) (x : Int64) : Inv (nodG S x) := by
  unfold nodG
  split
  · rename_i h
    simp only [okN, Bool.and_eq_true, decide_eq_true_eq] at h
    exact inv_nod I h.2 (by omega)
  · exact I
theorem inv_addG {S : St} (I : Inv S) (x : Int32) (y : Int64) : Inv (addG S x y) := by
  unfold addG
  split
  · rename_i h
    simp only [okA, Bool.and_eq_true, decide_eq_true_eq] at h
    exact inv_stk I (by omega)
  · exact I
theorem inv_setG {S : St} (I : Inv S) (x : Int32) (y : Int64) : Inv (setG S x y) := by
  unfold setG
  split
  · rename_i h
    simp only [okR, Bool.and_eq_true, decide_eq_true_eq] at h
    exact inv_rul I (by omega) (by omega)
  · exact I
theorem inv_nxtG {S : St} (I : Inv S) : Inv (nxtG S) := by
  unfold nxtG
  split
  · rename_i h
    exact inv_nxt I h
  · exact I
