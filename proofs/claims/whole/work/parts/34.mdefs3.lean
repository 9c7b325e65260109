/-! pure rows for certain, broken, named and may of the reference -/
theorem sm_lt {n q : Nat} {f : Nat → Nat} (hq : q < n) : sm q f + f q ≤ sm n f := by
  induction n with
  | zero => omega
  | succ n ih =>
    rcases Nat.lt_or_ge q n with g | g
    · have := ih g
      simp only [sm]
      omega
    · have e : q = n := by omega
      subst e
      exact Nat.le_refl _
def nmV (S : St) (h a b : Nat) : Bool := ex 3 (fun q => ctT S h q a b)
def nmU (S : St) (h k a : Nat) : Bool := decide (sVts S a / 2048 = h) && decide (sVts S a / 256 % 8 = k) && ex (sVn S) (nmV S h a)
theorem nk_same {M : Nat} {f g : Nat → Bool} (hM : M = bitS 8 f) (hg : ∀ k, k < 8 → g k = f k) : M = bitS 8 g :=
  bitS_ext (by rw [hM]; exact bitS_lt 8 _) (fun b hb => by rw [hM, bitS_tb, hg b hb]; simp [hb])
theorem nk_add {M k : Nat} {f g : Nat → Bool} (hM : M = bitS 8 f) (hk : k < 8) (hg : ∀ j, j < 8 → g j = (f j || decide (k = j))) : M ||| 2 ^ k = bitS 8 g :=
  bitS_ext (Nat.or_lt_two_pow (by rw [hM]; exact bitS_lt 8 _) (Nat.pow_lt_pow_right (by decide) hk)) (fun b hb => by rw [Nat.testBit_or, hM, bitS_tb, Nat.testBit_two_pow, hg b hb]; simp [hb])
theorem ct_hh {S : St} {h q a b : Nat} (hw : sVts S a / 2048 ≠ h) : ctT S h q a b = false := by simp [ctT, hw]
theorem nv_no {S : St} {h a b : Nat} (hw : sVts S a / 2048 ≠ h) : nmV S h a b = false := ex_no (fun _ _ => ct_hh hw)
theorem ib_mk {S : St} {q a b : Nat} (ha : a < sVn S) (hb : b < sVn S) (h : ibF S q a b = true) : mkF S (sVts S a) = true ∧ sVts S b / 256 = sVts S a / 256 := by
  unfold ibF at h
  split at h
  · have hv : sVts S b / 256 = sVts S a / 256 := by
      simp only [twF, Bool.and_eq_true, decide_eq_true_eq] at h
      omega
    refine ⟨?_, hv⟩
    unfold mkF
    rw [ex_yes b hb (by simp [mkT, hv, clF, h])]
    simp
  · split at h
    · have hv : sVts S b / 256 = sVts S a / 256 := by
        simp only [lkF, Bool.and_eq_true, decide_eq_true_eq] at h
        omega
      refine ⟨?_, hv⟩
      unfold mkF
      rw [ex_yes b hb (by simp [mkT, hv, clF, h])]
      simp
    · simp only [Bool.and_eq_true, decide_eq_true_eq] at h
      refine ⟨by simp [mkF, h.2], by rw [h.1]⟩
/-- the nodes that breaks name: by all votes that are part of one, or by the first votes of pairs alone -/
theorem nm_eq {S : St} (I : Inv S) (h : Nat) : bitS 8 (fun k => ex (sVn S) (nmU S h k)) = bitS 8 (fun k => ex (sVn S) (nmT S h k)) := by
  refine nk_same rfl (fun k _ => ?_)
  rw [Bool.eq_iff_iff]
  constructor
  · intro hx
    obtain ⟨a, ha, hm⟩ := ex_iff.mp hx
    simp only [nmT, Bool.and_eq_true, decide_eq_true_eq] at hm
    obtain ⟨⟨h1, h2⟩, h3⟩ := hm
    have goal : ∀ a b q, a < sVn S → b < sVn S → q < 3 → sVts S a / 2048 = h → sVts S a / 256 % 8 = k → ctT S h q a b = true → ex (sVn S) (nmU S h k) = true := by
      intro a b q ha hb hq e1 e2 e3
      refine ex_yes a ha ?_
      simp only [nmU, Bool.and_eq_true, decide_eq_true_eq]
      exact ⟨⟨e1, e2⟩, ex_yes b hb (ex_yes q hq e3)⟩
    unfold mkF at h3
    rw [Bool.or_eq_true] at h3
    rcases h3 with h3 | h3
    · exact goal a a 2 ha ha (by decide) h1 h2 (by simp [ctT, ibF, h1, h3])
    · obtain ⟨b, hb, hm⟩ := ex_iff.mp h3
      simp only [mkT, clF, Bool.and_eq_true, Bool.or_eq_true, decide_eq_true_eq] at hm
      obtain ⟨hv, (ht | hl) | hl⟩ := hm
      · have e1 := tw_hh ht
        have hne : a ≠ b := by
          intro e
          rw [e] at ht
          simp [twF] at ht
        rcases Nat.lt_or_ge a b with g | g
        · exact goal a b 0 ha hb (by decide) h1 h2 (by simp [ctT, ibF, ht, h1, g]; omega)
        · have ht2 : twF (sVts S b) (sVts S a) = true := by
            simp only [twF, Bool.and_eq_true, decide_eq_true_eq] at ht ⊢
            omega
          exact goal b a 0 hb ha (by decide) (by omega) (by omega) (by simp [ctT, ibF, ht2, h1]; omega)
      · have e1 := lk_hh hl
        exact goal a b 1 ha hb (by decide) h1 h2 (by simp [ctT, ibF, hl, h1]; omega)
      · have e1 := lk_hh hl
        exact goal b a 1 hb ha (by decide) (by omega) (by omega) (by simp [ctT, ibF, hl, h1]; omega)
  · intro hx
    obtain ⟨a, ha, hm⟩ := ex_iff.mp hx
    simp only [nmU, Bool.and_eq_true, decide_eq_true_eq] at hm
    obtain ⟨⟨h1, h2⟩, h3⟩ := hm
    obtain ⟨b, hb, h4⟩ := ex_iff.mp h3
    obtain ⟨q, hq, h5⟩ := ex_iff.mp h4
    simp only [ctT, Bool.and_eq_true] at h5
    have h6 := (ib_mk ha hb h5.2).1
    exact ex_yes a ha (by simp [nmT, h1, h2, h6])
/-- a bit taken out -/
def clr (m z : Nat) : Nat := bitS 10 (fun b => m.testBit b && decide (z ≠ b))
theorem nx_xor (a b : Nat) : nI a ^^^ nI b = nI (a ^^^ b) := by
  apply Int32.toBitVec_inj.mp
  rw [Int32.toBitVec_xor, f_bv, f_bv, f_bv]
  apply BitVec.eq_of_toNat_eq
  simp only [BitVec.toNat_xor, BitVec.toNat_ofNat, Nat.xor_mod_two_pow]
theorem clr_lt (m z : Nat) : clr m z < 1024 := bitS_lt 10 _
theorem clr_of {m z y : Nat} (hm : m < 1024) (hy : ∀ b, b < 10 → y.testBit b = decide (z ≠ b)) : m &&& y = clr m z := by
  refine bitS_ext (Nat.lt_of_le_of_lt Nat.and_le_left hm) (fun b hb => ?_)
  rw [Nat.testBit_and, hy b hb]
theorem f_clr {m z : Nat} (hm : m < 1024) (hz : z < 10) : nI m &&& (nI (2 ^ z) ^^^ (-1)) = nI (clr m z) := by
  have e : (-1 : Int32) = nI 4294967295 := by decide
  rw [e, nx_xor, nx_and, clr_of hm]
  intro b hb
  have e2 : (4294967295 : Nat) = 2 ^ 32 - 1 := by decide
  rw [Nat.testBit_xor, Nat.testBit_two_pow, e2, Nat.testBit_two_pow_sub_one]
  have h3 : b < 32 := by omega
  by_cases hzb : z = b
  · simp [hzb, h3]
  · simp [hzb, h3]
theorem f_clr0 {m : Nat} (hm : m < 1024) : nI m &&& (-2) = nI (clr m 0) := by
  have e : (-2 : Int32) = nI 4294967294 := by decide
  rw [e, nx_and, clr_of hm]
  decide
theorem clr_0 {m z b : Nat} (h : clr m z = 0) (hb : b < 10) (hz : z ≠ b) : m.testBit b = false := by
  have e : (clr m z).testBit b = false := by rw [h]; exact Nat.zero_testBit b
  unfold clr at e
  rw [bitS_tb] at e
  simpa [hb, hz] using e
theorem bitS_0 {n : Nat} {f : Nat → Bool} (h : bitS n f ≠ 0) : ∃ b, b < n ∧ f b = true := by
  refine Classical.byContradiction (fun hn => h ?_)
  refine Nat.eq_of_testBit_eq (fun i => ?_)
  rw [bitS_tb, Nat.zero_testBit]
  by_cases hi : i < n
  · have : f i = false := by
      rw [← Bool.not_eq_true]
      exact fun hf => hn ⟨i, hi, hf⟩
    simp [this]
  · simp [hi]
theorem clr_1 {m z : Nat} (h : clr m z ≠ 0) : ∃ b, b < 10 ∧ z ≠ b ∧ m.testBit b = true := by
  obtain ⟨b, hb, hf⟩ := bitS_0 h
  simp only [Bool.and_eq_true, decide_eq_true_eq] at hf
  exact ⟨b, hb, hf.2, hf.1⟩
theorem sb_tb2 (S : St) (k h r t : Nat) {b : Nat} (hb : b < 10) : (sbF S k h r t).testBit b = hasV S (vC k h r t b) := by
  unfold sbF
  rw [bitS_tb]
  simp [hb]
theorem mk_yes {S : St} {c d : Nat} (hd : hasV S d = true) (hv : d / 256 = c / 256) (h : clF S c d = true) : mkF S c = true := by
  obtain ⟨v, hvn, hf⟩ := ex_iff.mp hd
  rw [decide_eq_true_eq] at hf
  unfold mkF
  rw [ex_yes v hvn (by simp [mkT, hf, hv, h])]
  simp
theorem vC_p {k h r t b : Nat} (hk : k < 8) (hr : r < 8) (ht : t < 2) (hb : b < 16) : vC k h r t b / 2048 = h ∧ vC k h r t b / 256 % 8 = k ∧ vC k h r t b / 32 % 8 = r ∧ vC k h r t b / 16 % 2 = t ∧ vC k h r t b % 16 = b ∧ vC k h r t b / 256 = h * 8 + k := by
  unfold vC
  omega
theorem vC_of (c : Nat) : c = vC (c / 256 % 8) (c / 2048) (c / 32 % 8) (c / 16 % 2) (c % 16) := by
  unfold vC
  omega
theorem mk_no {S : St} (I : Inv S) {k h i j z : Nat} (hk : k < 8) (hi : i < 8) (hj : j < 2) (hz : z < 10) (h1 : ∀ b, b < 10 → z ≠ b → hasV S (vC k h i j b) = false) (h2 : brF S (vC k h i j z) = false) (h3 : ∀ r b, r < 8 → b < 10 → hasV S (vC k h r 0 b) = true → lkF S (vC k h i j z) (vC k h r 0 b) = false) (h4 : ∀ r b, r < 8 → b < 10 → hasV S (vC k h r 1 b) = true → lkF S (vC k h r 1 b) (vC k h i j z) = false) : mkF S (vC k h i j z) = false := by
  unfold mkF
  rw [h2, Bool.false_or]
  refine ex_no (fun v hv => ?_)
  have hw := I.v hv
  have p := vC_p (k := k) (h := h) (r := i) (t := j) (b := z) hk hi hj (by omega)
  unfold mkT
  by_cases e : sVts S v / 256 = vC k h i j z / 256
  · have hhas : hasV S (sVts S v) = true := ex_yes v hv (by simp)
    have ed := vC_of (sVts S v)
    have e1 : sVts S v / 256 % 8 = k := by omega
    have e2 : sVts S v / 2048 = h := by omega
    rw [e1, e2] at ed
    generalize hR : sVts S v / 32 % 8 = r at ed
    generalize hT : sVts S v / 16 % 2 = t at ed
    generalize hB : sVts S v % 16 = b at ed
    have hr : r < 8 := by omega
    have ht : t < 2 := by omega
    have hb : b < 10 := by omega
    have q := vC_p (k := k) (h := h) (r := r) (t := t) (b := b) hk hr ht (by omega)
    rw [ed] at hhas ⊢
    have a1 : twF (vC k h i j z) (vC k h r t b) = false := by
      rw [← Bool.not_eq_true]
      intro ht2
      simp only [twF, Bool.and_eq_true, decide_eq_true_eq] at ht2
      have e3 : r = i ∧ t = j := by omega
      have e4 : z ≠ b := by
        intro e5
        apply ht2.1
        rw [e5, e3.1, e3.2]
      rw [e3.1, e3.2, h1 b hb e4] at hhas
      exact absurd hhas (by decide)
    have a2 : lkF S (vC k h i j z) (vC k h r t b) = false := by
      rcases (show t = 0 ∨ t = 1 by omega) with rfl | rfl
      · exact h3 r b hr hb hhas
      · simp [lkF, q]
    have a3 : lkF S (vC k h r t b) (vC k h i j z) = false := by
      rcases (show t = 0 ∨ t = 1 by omega) with rfl | rfl
      · simp [lkF, lkg, q]
      · exact h4 r b hr hb hhas
    simp [clF, a1, a2, a3]
  · simp [e]
