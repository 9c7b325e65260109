/-! the same of a vote and of an accusation -/
theorem inv_votG {S : St} (I : Inv S) (x y u t b : Int32) : Inv (votG S x y u t b) := by
  unfold votG
  split
  · rename_i h
    obtain ⟨k, g, i, j, z, rfl, rfl, rfl, rfl, rfl, hk, h1, h2, h3, hi, hj, hz, hw, hv⟩ := vr_fine I (by rw [h.1]; rfl)
    have I1 := I.n
    rw [tn_nI (by omega), tn_nI (by omega), tn_nI (by omega), tn_nI (by omega), tn_nI (by omega)] at h ⊢
    have q := vC_p (k := k) (h := g) (r := i) (t := j) (b := z) (by omega) hi hj (by omega)
    have q2 : vC k g i j z < 83968 ∧ 2048 ≤ vC k g i j z := by unfold vC; omega
    exact inv_vot I q2.1 q2.2 (by omega) (by omega) (by omega) h.2.2 h.2.1
  · exact I
theorem ar_of {S : St} {x a b y : Int32} (h : arF S x a b y = nI 0) : (isVt S a && (decide (x.toInt = 2) || isVt S b) && isNN S y) = true ∧ isKd x = true := by
  unfold arF at h
  split at h
  · exact absurd h (by decide)
  split at h
  · exact absurd h (by decide)
  rename_i h1 h2
  rw [Bool.not_eq_false] at h1 h2
  exact ⟨h1, h2⟩
theorem inv_acG {S : St} (I : Inv S) (x a b y : Int32) : Inv (acG S x a b y) := by
  unfold acG
  split
  · rename_i h
    obtain ⟨h1, h2⟩ := ar_of h
    have I1 := I.n
    simp only [Bool.and_eq_true, Bool.or_eq_true, decide_eq_true_eq] at h1
    obtain ⟨g, hg, rfl⟩ := vt_of h1.1.1
    obtain ⟨q, hq, rfl⟩ := kd_of h2
    have hqi := nI_toInt (n := q) (by omega)
    refine inv_acc I (by rw [tn_nI (by omega)]; exact hq) ?_
    unfold acA
    split
    · rename_i h3
      have h4 : isVt S b = true := by
        rcases h1.1.2 with e | e
        · omega
        · exact e
      obtain ⟨i, hi, rfl⟩ := vt_of h4
      rw [tn_nI (by omega)]
      exact hi
    · rw [tn_nI (by omega)]
      exact hg
  · exact I
theorem hi_votG {S : St} (h : Hi0 S) (x y u t b : Int32) : Hi0 (votG S x y u t b) := by
  unfold votG
  split
  · exact h
  · exact h
theorem hi_acG {S : St} (h : Hi0 S) (x a b y : Int32) : Hi0 (acG S x a b y) := by
  unfold acG
  split
  · exact h
  · exact h
theorem hi_nodG {S : St} (h : Hi0 S) (x : Int64) : Hi0 (nodG S x) := by
  unfold nodG
  split
  · exact h
  · exact h
theorem hi_addG {S : St} (h : Hi0 S) (x : Int32) (y : Int64) : Hi0 (addG S x y) := by
  unfold addG
  split
  · exact h
  · exact h
theorem hi_setG {S : St} (h : Hi0 S) (x : Int32) (y : Int64) : Hi0 (setG S x y) := by
  unfold setG
  split
  · exact h
  · exact h
theorem hi_nxtG {S : St} (h : Hi0 S) : Hi0 (nxtG S) := by
  unfold nxtG
  split
  · exact hi_nxt h
  · exact h
theorem tn_acG {S : St} (x a b y : Int32) : sTn (acG S x a b y) ≤ sTn S + 1 := by
  unfold acG
  split
  · exact Nat.le_refl _
  · exact Nat.le_succ _
theorem tn_votG {S : St} (x y u t b : Int32) : sTn (votG S x y u t b) = sTn S := by
  unfold votG
  split
  · rfl
  · rfl
theorem tn_nodG {S : St} (x : Int64) : sTn (nodG S x) = sTn S := by
  unfold nodG
  split
  · rfl
  · rfl
theorem tn_addG {S : St} (x : Int32) (y : Int64) : sTn (addG S x y) = sTn S := by
  unfold addG
  split
  · rfl
  · rfl
theorem tn_setG {S : St} (x : Int32) (y : Int64) : sTn (setG S x y) = sTn S := by
  unfold setG
  split
  · rfl
  · rfl
theorem tn_nxtG {S : St} : sTn (nxtG S) = sTn S := by
  unfold nxtG
  split
  · rfl
  · rfl
