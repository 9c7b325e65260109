/-! a vote that comes: what it makes of the sets that are kept -/
theorem sm_mono {n : Nat} {f g : Nat → Nat} (h : ∀ i, i < n → f i ≤ g i) : sm n f ≤ sm n g := by
  induction n with
  | zero => exact Nat.le_refl _
  | succ n ih =>
    have h1 := ih (fun i hi => h i (by omega))
    have h2 := h n (by omega)
    simp only [sm]
    omega
theorem bitS_congr {n : Nat} {f g : Nat → Bool} (h : ∀ b, b < n → f b = g b) : bitS n f = bitS n g := by
  unfold bitS
  apply sm_congr
  intro i hi
  simp only [h i hi]
theorem va_upS {α : Type} {f : Nat → α} {k : Nat} {v : α} : va_up f k v k = v := if_pos rfl
theorem va_upN {α : Type} {f : Nat → α} {k j : Nat} {v : α} (h : j ≠ k) : va_up f k v j = f j := if_neg h
theorem has_vot (S : St) (c d : Nat) : hasV (votS S c) d = (hasV S d || decide (c = d)) := by
  have e : hasV (votS S c) d = (ex (sVn S) (fun v => decide (va_up (sVts S) (sVn S) c v = d)) || decide (va_up (sVts S) (sVn S) c (sVn S) = d)) := rfl
  rw [e, va_upS]
  congr 1
  unfold hasV
  apply ex_congr
  intro i hi
  rw [va_upN (by omega)]
theorem inv_vot {S : St} (I : Inv S) {c : Nat} (h1 : c < 83968) (h2 : 2048 ≤ c) (h3 : c % 16 < 10) (h4 : c / 2048 ≤ sHh S) (h5 : c / 256 % 8 < sNn S) (h6 : sVn S < 300) (h7 : hasV S c = false) : Inv (votS S c) := by
  obtain ⟨⟨a1, a2, a3⟩, a4, a5, a6, a7, a8, a9, a10⟩ := I
  refine ⟨⟨a1, a2, show sVn S + 1 ≤ 300 by omega⟩, ?_, ?_, a6, a7, a8, a9, ?_⟩
  · intro v hv
    have hv : v < sVn S + 1 := hv
    show va_up (sVts S) (sVn S) c v < 83968 ∧ 2048 ≤ va_up (sVts S) (sVn S) c v ∧ va_up (sVts S) (sVn S) c v % 16 < 10 ∧ va_up (sVts S) (sVn S) c v / 2048 ≤ sHh S ∧ va_up (sVts S) (sVn S) c v / 256 % 8 < sNn S
    by_cases e : v = sVn S
    · rw [e, va_upS]
      exact ⟨h1, h2, h3, h4, h5⟩
    · rw [va_upN e]
      exact a4 v (by omega)
  · intro i j hi hj e
    have hi : i < sVn S + 1 := hi
    have hj : j < sVn S + 1 := hj
    have e : va_up (sVts S) (sVn S) c i = va_up (sVts S) (sVn S) c j := e
    by_cases ei : i = sVn S
    · by_cases ej : j = sVn S
      · omega
      · rw [ei, va_upS, va_upN ej] at e
        have e9 : hasV S c = true := ex_yes j (by omega) (by rw [← e]; exact decide_eq_true rfl)
        rw [h7] at e9
        exact absurd e9 (by decide)
    · by_cases ej : j = sVn S
      · rw [ej, va_upS, va_upN ei] at e
        have e9 : hasV S c = true := ex_yes i (by omega) (by rw [e]; exact decide_eq_true rfl)
        rw [h7] at e9
        exact absurd e9 (by decide)
      · rw [va_upN ei, va_upN ej] at e
        exact a5 i j (by omega) (by omega) e
  · intro i hi
    have := a10 i hi
    exact ⟨this.1, show sTa S i < sVn S + 1 by omega, this.2.2⟩
theorem ws_vot0 {S : St} {c h r t b : Nat} (hr : r < 8) (ht : t < 2) (hb : b < 16) (hne : ¬ (h = c / 2048 ∧ r = c / 32 % 8 ∧ t = c / 16 % 2 ∧ b = c % 16)) : wS (votS S c) h r t b = wS S h r t b := by
  unfold wS
  apply sm_congr
  intro k hk
  rw [has_vot]
  have q := vC_p (k := k) (h := h) hk hr ht hb
  have e : decide (c = vC k h r t b) = false := by
    rw [decide_eq_false_iff_not]
    intro e
    rw [e] at hne
    omega
  rw [e, Bool.or_false]
  rfl
theorem ws_vot1 (S : St) (c h r t b : Nat) : wS S h r t b ≤ wS (votS S c) h r t b := by
  unfold wS
  apply sm_mono
  intro k hk
  rw [has_vot]
  by_cases hh : hasV S (vC k h r t b) = true
  · rw [if_pos hh, if_pos (by simp [hh])]
    exact Nat.le_refl _
  · rw [if_neg hh]
    exact Nat.zero_le _
theorem bk_vot0 {S : St} {c h r b : Nat} (hr : r < 8) (hb : b < 16) (hne : ¬ (h = c / 2048 ∧ r = c / 32 % 8 ∧ 0 = c / 16 % 2 ∧ b = c % 16)) : bkF (votS S c) h r b = bkF S h r b := by
  unfold bkF
  rw [ws_vot0 hr (by decide) hb hne]
  rfl
theorem bk_vot1 {S : St} {c h r b : Nat} (h1 : bkF S h r b = true) : bkF (votS S c) h r b = true := by
  have := ws_vot1 S c h r 0 b
  simp only [bkF, mostF, Bool.and_eq_true, decide_eq_true_eq] at h1 ⊢
  exact ⟨h1.1, Nat.lt_of_lt_of_le h1.2 (by omega)⟩
theorem ct_vot0 {S : St} {c h b : Nat} (hb : b < 16) (hne : ¬ (h = c / 2048 ∧ 1 = c / 16 % 2 ∧ b = c % 16)) : ctF (votS S c) h b = ctF S h b := by
  unfold ctF
  congr 1
  apply ex_congr
  intro r hr
  rw [ws_vot0 hr (by decide) hb (by omega)]
  rfl
/-- the vote makes its block backed, or no set changes -/
theorem bb_vot {S : St} {c : Nat} (hc : c % 16 < 10) (h0 : c / 16 % 2 = 0) (hm : bkF (votS S c) (c / 2048) (c / 32 % 8) (c % 16) = true) : bbF (votS S c) = va_up (bbF S) (c / 2048 * 8 + c / 32 % 8) (bbF S (c / 2048 * 8 + c / 32 % 8) ||| 2 ^ (c % 16)) := by
  funext j
  by_cases hj : j = c / 2048 * 8 + c / 32 % 8
  · rw [hj, va_upS]
    refine (bitS_ext (n := 10) ?_ (fun b hb => ?_)).symm
    · exact Nat.or_lt_two_pow (bb_lt S _) (Nat.pow_lt_pow_right (by decide) hc)
    · have e1 : (c / 2048 * 8 + c / 32 % 8) / 8 = c / 2048 := by omega
      have e2 : (c / 2048 * 8 + c / 32 % 8) % 8 = c / 32 % 8 := by omega
      rw [Nat.testBit_or, bb_at S (by omega) hb, Nat.testBit_two_pow, e1, e2]
      by_cases hbc : c % 16 = b
      · rw [← hbc, hm]; simp
      · rw [bk_vot0 (by omega) (by omega) (by omega)]
        simp [hbc]
  · rw [va_upN hj]
    unfold bbF
    apply bitS_congr
    intro b hb
    rw [bk_vot0 (by omega) (by omega) (by omega)]
theorem bb_vot2 {S : St} {c : Nat} (hn : c / 16 % 2 = 0 → bkF (votS S c) (c / 2048) (c / 32 % 8) (c % 16) = false) : bbF (votS S c) = bbF S := by
  funext j
  unfold bbF
  apply bitS_congr
  intro b hb
  by_cases e : j / 8 = c / 2048 ∧ j % 8 = c / 32 % 8 ∧ 0 = c / 16 % 2 ∧ b = c % 16
  · have h1 := hn e.2.2.1.symm
    rw [e.1, e.2.1, e.2.2.2, h1]
    cases h2 : bkF S (c / 2048) (c / 32 % 8) (c % 16) with
    | false => rfl
    | true =>
      rw [bk_vot1 h2] at h1
      exact absurd h1 (by decide)
  · rw [bk_vot0 (by omega) (by omega) e]
theorem cb_vot {S : St} {c : Nat} (hc : c % 16 < 10) (h0 : c / 16 % 2 = 1) (hb0 : 0 < c % 16) (hm : mostF S (c / 2048) (wS (votS S c) (c / 2048) (c / 32 % 8) 1 (c % 16)) = true) : cbF (votS S c) = va_up (cbF S) (c / 2048) (cbF S (c / 2048) ||| 2 ^ (c % 16)) := by
  funext j
  by_cases hj : j = c / 2048
  · rw [hj, va_upS]
    refine (bitS_ext (n := 10) ?_ (fun b hb => ?_)).symm
    · exact Nat.or_lt_two_pow (cb_lt S _) (Nat.pow_lt_pow_right (by decide) hc)
    · rw [Nat.testBit_or, cb_at S hb, Nat.testBit_two_pow]
      by_cases hbc : c % 16 = b
      · rw [← hbc]
        have e : ctF (votS S c) (c / 2048) (c % 16) = true := by
          unfold ctF
          rw [ex_yes (c / 32 % 8) (by omega) hm]
          simp [hb0]
        rw [e]; simp
      · rw [ct_vot0 (by omega) (by omega)]
        simp [hbc]
  · rw [va_upN hj]
    unfold cbF
    apply bitS_congr
    intro b hb
    rw [ct_vot0 (by omega) (by omega)]
theorem cb_vot2 {S : St} {c : Nat} (hn : c / 16 % 2 = 1 → 0 < c % 16 → mostF S (c / 2048) (wS (votS S c) (c / 2048) (c / 32 % 8) 1 (c % 16)) = false) : cbF (votS S c) = cbF S := by
  funext j
  unfold cbF
  apply bitS_congr
  intro b hb
  by_cases e : j = c / 2048 ∧ 1 = c / 16 % 2 ∧ b = c % 16
  · have e2 : ctF (votS S c) j b = ctF S j b := by
      unfold ctF
      by_cases hb0 : 0 < b
      · congr 1
        apply ex_congr
        intro r hr
        by_cases er : r = c / 32 % 8
        · have h1 := hn e.2.1.symm (by omega)
          rw [e.1, e.2.2, er]
          show mostF S (c / 2048) (wS (votS S c) (c / 2048) (c / 32 % 8) 1 (c % 16)) = mostF S (c / 2048) (wS S (c / 2048) (c / 32 % 8) 1 (c % 16))
          rw [h1]
          have h2 := ws_vot1 S c (c / 2048) (c / 32 % 8) 1 (c % 16)
          simp only [mostF, decide_eq_false_iff_not] at h1
          symm
          simp only [mostF, decide_eq_false_iff_not]
          omega
        · rw [ws_vot0 hr (by decide) (by omega) (by omega)]
          rfl
      · simp [hb0]
    rw [e2]
  · rw [ct_vot0 (by omega) e]
theorem sy_vot {S : St} {k h r t b : Nat} (hk : k < 8) (hr : r < 8) (ht : t < 2) (hb : b < 10) : syF (votS S (vC k h r t b)) = va_up (syF S) (((8 * h + r) * 2 + t) * 10 + b) (syF S (((8 * h + r) * 2 + t) * 10 + b) ||| 2 ^ k) := by
  funext j
  by_cases hj : j = ((8 * h + r) * 2 + t) * 10 + b
  · rw [hj, va_upS, sy_at _ hr ht hb]
    refine (bitS_ext (n := 8) ?_ (fun y hy => ?_)).symm
    · exact Nat.or_lt_two_pow (sy_lt S _) (Nat.pow_lt_pow_right (by decide) hk)
    · rw [Nat.testBit_or, sy_at S hr ht hb, bitS_tb, Nat.testBit_two_pow, has_vot]
      have e : (vC k h r t b = vC y h r t b) ↔ (k = y) := by
        unfold vC
        omega
      simp [hy, e]
  · rw [va_upN hj]
    unfold syF
    apply bitS_congr
    intro y hy
    rw [has_vot]
    have e : decide (vC k h r t b = vC y (j / 160) (j / 20 % 8) (j / 10 % 2) (j % 10)) = false := by
      rw [decide_eq_false_iff_not]
      intro e
      have q1 := vC_p (k := k) (h := h) (r := r) (t := t) (b := b) hk hr ht (by omega)
      have q2 := vC_p (k := y) (h := j / 160) (r := j / 20 % 8) (t := j / 10 % 2) (b := j % 10) hy (by omega) (by omega) (by omega)
      have a1 : h = j / 160 := by rw [← q1.1, e, q2.1]
      have a2 : r = j / 20 % 8 := by rw [← q1.2.2.1, e, q2.2.2.1]
      have a3 : t = j / 10 % 2 := by rw [← q1.2.2.2.1, e, q2.2.2.2.1]
      have a4 : b = j % 10 := by rw [← q1.2.2.2.2.1, e, q2.2.2.2.2.1]
      clear q1 q2 e
      apply hj
      omega
    rw [e, Bool.or_false]
theorem dn_vot {S : St} (I : Inv S) (c : Nat) : dnF (votS S c) = dnF S := by
  funext j
  unfold dnF
  apply ex_congr
  intro i hi
  have hi : i < sTn S := hi
  have := (I.k hi).2.1
  show decide (va_up (sVts S) (sVn S) c (sTa S i) / 256 * 3 + sTk S i = j) = decide (sVts S (sTa S i) / 256 * 3 + sTk S i = j)
  rw [va_upN (by omega)]
def votF (S : St) (x y u t b : Int32) : Int32 := if vrF S x y u t b = nI 0 then (if hasV S (vC (tn x) (tn y) (tn u) (tn t) (tn b)) = true then numF S (vC (tn x) (tn y) (tn u) (tn t) (tn b)) else if 300 ≤ sVn S then -104 else nI (sVn S)) else vrF S x y u t b
def votG (S : St) (x y u t b : Int32) : St := if vrF S x y u t b = nI 0 ∧ hasV S (vC (tn x) (tn y) (tn u) (tn t) (tn b)) = false ∧ sVn S < 300 then votS S (vC (tn x) (tn y) (tn u) (tn t) (tn b)) else S
theorem num_no {S : St} {c : Nat} (h : hasV S c = false) : numF S c = -1 := by
  have e : fi (sVn S) (numT S c) = sVn S := fi_no (fun i hi => ex_notmem (f := fun v => decide (sVts S v = c)) h hi)
  unfold numF
  rw [e, if_neg (Nat.lt_irrefl _)]
theorem num_yes {S : St} {c : Nat} (h : hasV S c = true) : ∃ i, i < sVn S ∧ numF S c = nI i := by
  refine ⟨fi (sVn S) (numT S c), ?_⟩
  have hlt : fi (sVn S) (numT S c) < sVn S := by
    obtain ⟨i, hi, hf⟩ := ex_iff.mp h
    obtain ⟨k, hk, hmin⟩ := pk_least (fun k => numT S c k = true) ⟨i, hf⟩
    have hki : k ≤ i := by
      rcases Nat.lt_or_ge i k with g | g
      · exact absurd hf (hmin i g)
      · exact g
    rw [fi_at (fun j hj => by rw [← Bool.not_eq_true]; exact hmin j hj) hk (by omega)]
    omega
  refine ⟨hlt, ?_⟩
  unfold numF
  rw [if_pos hlt]
abbrev xwY (ad : Nat → Nat) (cy : Nat → ClassId) (S : St) (u8 u9 : Nat → Nat) : va_W := xwr ad cy (nI (sNn S)) (nI (sHh S)) (nI (sVn S)) (lN (sBrn S)) (fun j => lN (sRul S j)) (fun j => lN (sStk S j)) (fun j => lN (sPrs S j)) (fun j => bI (sOut S j)) (fun j => lN (sWts S j)) (fun j => lN (sTot S j)) (fun j => nI (sVts S j)) (fun j => nI (u8 j)) (fun j => nI (u9 j))
abbrev xBY (dC : Nat → ClassId) (dI : Nat → Nat → Nat) (ad : Nat → Nat) (cy : Nat → ClassId) (S : St) (u8 u9 : Nat → Nat) : State → Prop := roB (dC, dI) (xwY ad cy S u8 u9) (xty cy)
