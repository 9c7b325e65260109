/-! a height that begins; a vote in the other object -/
theorem upd_vt {f g : Nat → Nat} {k v w : Nat} (h : g v = w) : upd (fun j => nI (g (f j))) k (nI w) = fun j => nI (g (va_up f k v j)) := by
  funext j
  unfold upd va_up
  split
  · rw [h]
  · rfl
theorem nw_step {S : St} {k : Nat} (hk : k < 8) : vp_updL (fun j => lN (nwW S k j)) ((sHh S + 1) * 8 + k) (lN (nwT S k)) = fun j => lN (nwW S (k + 1) j) := by
  funext j
  unfold vp_updL nwW
  by_cases hj : j = (sHh S + 1) * 8 + k
  · have e1 : j / 8 = sHh S + 1 := by omega
    have e2 : j % 8 = k := by omega
    rw [if_pos hj, e1, e2, if_pos ⟨rfl, Nat.lt_succ_self k⟩]
  · rw [if_neg hj]
    show lN (if j / 8 = sHh S + 1 ∧ j % 8 < k then nwT S (j % 8) else sWts S j) = lN (if j / 8 = sHh S + 1 ∧ j % 8 < k + 1 then nwT S (j % 8) else sWts S j)
    by_cases hc : j / 8 = sHh S + 1 ∧ j % 8 < k
    · rw [if_pos hc, if_pos ⟨hc.1, by omega⟩]
    · rw [if_neg hc, if_neg (by omega)]
theorem nw_0 (S : St) : (fun j => lN (sWts S j)) = fun j => lN (nwW S 0 j) := by
  funext j
  unfold nwW
  rw [if_neg (by omega)]
theorem nw_far {S : St} {n h k : Nat} (hk : k < 8) (hh : h ≠ sHh S + 1) : nwW S n (8 * h + k) = sWts S (8 * h + k) := by
  unfold nwW
  rw [if_neg (by omega)]
theorem has_high {S : St} (I : Inv S) {k h r t b : Nat} (hk : k < 8) (hr : r < 8) (ht : t < 2) (hb : b < 16) (hh : sHh S < h) : hasV S (vC k h r t b) = false := by
  refine ex_no (fun v hv => ?_)
  have hw := I.v hv
  have q := vC_p (k := k) (h := h) hk hr ht hb
  rw [decide_eq_false_iff_not]
  intro e
  rw [e] at hw
  omega
theorem ws_high {S : St} (I : Inv S) {h r t b : Nat} (hr : r < 8) (ht : t < 2) (hb : b < 16) (hh : sHh S < h) : wS S h r t b = 0 := by
  unfold wS
  refine sm_zero (fun k hk => ?_)
  rw [has_high I hk hr ht hb hh]
  rfl
theorem ws_nxt {S : St} (I : Inv S) {h r t b : Nat} (hr : r < 8) (ht : t < 2) (hb : b < 16) : wS (nxtS S) h r t b = wS S h r t b := by
  by_cases hh : h = sHh S + 1
  · have e0 := ws_high I hr ht hb (show sHh S < h by omega)
    rw [e0]
    unfold wS
    refine sm_zero (fun k hk => ?_)
    have e : hasV (nxtS S) (vC k h r t b) = hasV S (vC k h r t b) := hasV_of rfl rfl _
    rw [e, has_high I hk hr ht hb (by omega)]
    rfl
  · unfold wS
    apply sm_congr
    intro k hk
    have e : hasV (nxtS S) (vC k h r t b) = hasV S (vC k h r t b) := hasV_of rfl rfl _
    rw [e]
    have e2 : sWts (nxtS S) (8 * h + k) = sWts S (8 * h + k) := nw_far hk hh
    rw [e2]
theorem most_nxt {S : St} (I : Inv S) {h r t b : Nat} (hr : r < 8) (ht : t < 2) (hb : b < 16) : mostF (nxtS S) h (wS (nxtS S) h r t b) = mostF S h (wS S h r t b) := by
  rw [ws_nxt I hr ht hb]
  by_cases hh : h = sHh S + 1
  · rw [ws_high I hr ht hb (show sHh S < h by omega)]
    simp [mostF]
  · have e : sTot (nxtS S) h = sTot S h := va_upN hh
    unfold mostF
    rw [e]
theorem bb_nxt {S : St} (I : Inv S) : (fun j => nI (bbF S j)) = fun j => nI (bbF (nxtS S) j) := by
  funext j
  congr 1
  unfold bbF
  apply bitS_congr
  intro b hb
  unfold bkF
  rw [most_nxt I (by omega) (by decide) (by omega)]
theorem cb_nxt {S : St} (I : Inv S) : (fun j => nI (cbF S j)) = fun j => nI (cbF (nxtS S) j) := by
  funext j
  congr 1
  unfold cbF
  apply bitS_congr
  intro b hb
  unfold ctF
  rw [ex_congr (fun r hr => most_nxt I hr (by decide) (by omega))]
def nxtF (S : St) : Int32 := if sHh S < 40 then nI (sHh S + 1) else -104
def nxtG (S : St) : St := if sHh S < 40 then nxtS S else S
