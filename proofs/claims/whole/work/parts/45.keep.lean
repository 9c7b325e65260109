abbrev rm_X1_keep : Room := { frames := 2, cells := 0, slots := 0, locals := 47 }
set_option maxHeartbeats 4000000 in
set_option maxRecDepth 100000 in
theorem c_X1_keep (l9 : Launch) (dC : Nat → ClassId) (dI : Nat → Nat → Nat) (ad : Nat → Nat) (cy : Nat → ClassId) (S : St) (sz : Nat) (c9 : Nat) (I : Inv S) (hc : c9 < 83968) (hc0 : 2048 ≤ c9) (hc1 : c9 % 16 < 10) (hc2 : c9 / 2048 ≤ sHh S) (hc3 : c9 / 256 % 8 < sNn S) (hc4 : sVn S < 300) (hc5 : hasV S c9 = false) : MuV l9 yX1_keep wsX1_keep rm_X1_keep [.ref (ad 0), .int (nI c9)] (dC, dI) (xw ad cy S) (xw ad cy (votS S c9)) (xty cy) sz := by
  refine Ro_start (cc := cX1_keep) (maxL := 2) (ret := none) (lv := [(0, .ref (ad 0)), (1, .int (nI c9))]) (by decide) rfl (Nat.le_of_ble_eq_true rfl) rfl ?_
  intro pp ee ss mm aa bl me co hx hb hr hml hts hown hlocks hnm hB ls hl
  obtain ⟨hsz, hP, hK, hD0⟩ := hB
  subst hsz
  have hD := hD0.self (sz := ss.heap.size)
  generalize hAe : va_A (xw ad cy S) ss.heap.size = A at hD ⊢
  have hA : ∀ q9 : Nat, ss.heap.size ≤ q9 → A q9 := fun q9 h9 => by rw [← hAe]; exact Or.inr h9
  have hS : va_S A ss.heap ss.heap [] := va_S.rf
  have hP : va_P (dC, dI) vwCl (xwr ad cy (nI (sNn S)) (nI (sHh S)) (nI (sVn S)) (lN (sBrn S)) (fun j9 => lN (sRul S j9)) (fun j9 => lN (sStk S j9)) (fun j9 => lN (sPrs S j9)) (fun j9 => bI (sOut S j9)) (fun j9 => lN (sWts S j9)) (fun j9 => lN (sTot S j9)) (fun j9 => nI (sVts S j9)) (fun j9 => nI (bbF S j9)) (fun j9 => nI (cbF S j9))) ss.heap := hP
  have hD : va_D A (xwr ad cy (nI (sNn S)) (nI (sHh S)) (nI (sVn S)) (lN (sBrn S)) (fun j9 => lN (sRul S j9)) (fun j9 => lN (sStk S j9)) (fun j9 => lN (sPrs S j9)) (fun j9 => bI (sOut S j9)) (fun j9 => lN (sWts S j9)) (fun j9 => lN (sTot S j9)) (fun j9 => nI (sVts S j9)) (fun j9 => nI (bbF S j9)) (fun j9 => nI (cbF S j9))) := hD
  generalize hHe : ss.heap = H at hP
  have hS : va_S A ss.heap H [] := by rw [← hHe]; exact hS
  generalize hLe : ([] : List Loc) = locs at hS ⊢
  have hin : ∀ w9 ∈ wsX10, w9 ∈ wsX1_keep := fun w9 h9 => List.mem_cons_of_mem _ (List.mem_append_right _ h9)
  have hf_44 := hts (.fieldLink RX1 44 "FaultEvidence" "votes" "[I") (by decide +kernel)
  have hf_48 := hts (.fieldLink RX1 48 "FaultEvidence" "voteCount" "I") (by decide +kernel)
  have I1 := I.n
  have I2v := inv_vot I hc hc0 hc1 hc2 hc3 hc4 hc5
  have hwf : wfF (votS S c9) c9 = wS (votS S c9) (c9 / 2048) (c9 / 32 % 8) (c9 / 16 % 2) (c9 % 16) := by
    have e9 := wf_eq I2v (k := c9 / 256 % 8) (h := c9 / 2048) (r := c9 / 32 % 8) (t := c9 / 16 % 2) (b := c9 % 16) (by omega) (by omega) (by omega) (by omega)
    rw [← vC_of c9] at e9
    exact e9
  have hwl := wS_le I2v (c9 / 2048) (c9 / 32 % 8) (c9 / 16 % 2) (c9 % 16)
  refine lv_aload_n hx hb dX1_keep_0 rfl (lv_at hl 0 rfl) ?_
  refine va_get (D := (dC, dI)) (ci := 2) (v := .ref (ad 7)) (C := RX1) (T := TX1) (N := 14) hx hb hts hin hown hK hP 0 rfl rfl 8 (by decide) hf_44 (fun _ h9 => h9) rfl dX1_keep_1 ?_
  refine lv_aload_n hx hb dX1_keep_4 rfl (lv_at hl 0 rfl) ?_
  refine va_get (D := (dC, dI)) (ci := 2) (v := .int (nI (sVn S))) (C := RX1) (T := TX1) (N := 14) hx hb hts hin hown hK hP 0 rfl rfl 9 (by decide) hf_48 (fun _ h9 => h9) rfl dX1_keep_5 ?_
  refine lv_iload_n hx hb dX1_keep_8 rfl (lv_at hl 1 rfl) ?_
  refine f_iast hx hb hK hP hD hS 7 6 rfl rfl (k := (sVn S)) (by omega) (by decide) dX1_keep_9 (fun H locs hP hD hS => ?_)
  have hP : va_P (dC, dI) vwCl (xwr ad cy (nI (sNn S)) (nI (sHh S)) (nI (sVn S)) (lN (sBrn S)) (fun j9 => lN (sRul S j9)) (fun j9 => lN (sStk S j9)) (fun j9 => lN (sPrs S j9)) (fun j9 => bI (sOut S j9)) (fun j9 => lN (sWts S j9)) (fun j9 => lN (sTot S j9)) (upd (fun j9 => nI (sVts S j9)) (sVn S) (nI c9)) (fun j9 => nI (bbF S j9)) (fun j9 => nI (cbF S j9))) H := hP
  have hD : va_D A (xwr ad cy (nI (sNn S)) (nI (sHh S)) (nI (sVn S)) (lN (sBrn S)) (fun j9 => lN (sRul S j9)) (fun j9 => lN (sStk S j9)) (fun j9 => lN (sPrs S j9)) (fun j9 => bI (sOut S j9)) (fun j9 => lN (sWts S j9)) (fun j9 => lN (sTot S j9)) (upd (fun j9 => nI (sVts S j9)) (sVn S) (nI c9)) (fun j9 => nI (bbF S j9)) (fun j9 => nI (cbF S j9))) := hD
  refine lv_aload_n hx hb dX1_keep_10 rfl (lv_at hl 0 rfl) ?_
  refine lv_dup hx hb dX1_keep_11 rfl ?_
  refine va_get (D := (dC, dI)) (ci := 2) (v := .int (nI (sVn S))) (C := RX1) (T := TX1) (N := 14) hx hb hts hin hown hK hP 0 rfl rfl 9 (by decide) hf_48 (fun _ h9 => h9) rfl dX1_keep_12 ?_
  refine lv_iconst (v := (nI 1)) hx hb dX1_keep_15 (by decide) ?_
  refine lv_iadd hx hb dX1_keep_16 ?_
  refine f_ti (y := (nI ((sVn S) + 1))) (nI_add _ _) ?_
  refine va_put (D := (dC, dI)) (ci := 2) (v := .int (nI ((sVn S) + 1))) (ty := .int) (C := RX1) (T := TX1) (N := 14) hx hb hts hin tyX1 tyX1_ok nmX1 hown hK hP hD hS 0 rfl rfl 9 (by decide) hf_48 (fun _ h9 => h9) rfl (by decide +kernel) rfl rfl (Nat.le_of_ble_eq_true rfl) dX1_keep_17 (fun H locs hP hD hS => ?_)
  have hP : va_P (dC, dI) vwCl (xwr ad cy (nI (sNn S)) (nI (sHh S)) (nI ((sVn S) + 1)) (lN (sBrn S)) (fun j9 => lN (sRul S j9)) (fun j9 => lN (sStk S j9)) (fun j9 => lN (sPrs S j9)) (fun j9 => bI (sOut S j9)) (fun j9 => lN (sWts S j9)) (fun j9 => lN (sTot S j9)) (upd (fun j9 => nI (sVts S j9)) (sVn S) (nI c9)) (fun j9 => nI (bbF S j9)) (fun j9 => nI (cbF S j9))) H := hP
  have hD : va_D A (xwr ad cy (nI (sNn S)) (nI (sHh S)) (nI ((sVn S) + 1)) (lN (sBrn S)) (fun j9 => lN (sRul S j9)) (fun j9 => lN (sStk S j9)) (fun j9 => lN (sPrs S j9)) (fun j9 => bI (sOut S j9)) (fun j9 => lN (sWts S j9)) (fun j9 => lN (sTot S j9)) (upd (fun j9 => nI (sVts S j9)) (sVn S) (nI c9)) (fun j9 => nI (bbF S j9)) (fun j9 => nI (cbF S j9))) := hD
  have hW1 : (xwr ad cy (nI (sNn S)) (nI (sHh S)) (nI ((sVn S) + 1)) (lN (sBrn S)) (fun j9 => lN (sRul S j9)) (fun j9 => lN (sStk S j9)) (fun j9 => lN (sPrs S j9)) (fun j9 => bI (sOut S j9)) (fun j9 => lN (sWts S j9)) (fun j9 => lN (sTot S j9)) (upd (fun j9 => nI (sVts S j9)) (sVn S) (nI c9)) (fun j9 => nI (bbF S j9)) (fun j9 => nI (cbF S j9))) = xwY ad cy (votS S c9) (bbF S) (cbF S) := xwr_eq rfl rfl rfl rfl rfl rfl rfl rfl rfl rfl (upd_nI) rfl rfl
  rw [hW1] at hP hD
  have hP : va_P (dC, dI) vwCl (xwr ad cy (nI (sNn (votS S c9))) (nI (sHh (votS S c9))) (nI (sVn (votS S c9))) (lN (sBrn (votS S c9))) (fun j9 => lN (sRul (votS S c9) j9)) (fun j9 => lN (sStk (votS S c9) j9)) (fun j9 => lN (sPrs (votS S c9) j9)) (fun j9 => bI (sOut (votS S c9) j9)) (fun j9 => lN (sWts (votS S c9) j9)) (fun j9 => lN (sTot (votS S c9) j9)) (fun j9 => nI (sVts (votS S c9) j9)) (fun j9 => nI ((bbF S) j9)) (fun j9 => nI ((cbF S) j9))) H := hP
  have hD : va_D A (xwr ad cy (nI (sNn (votS S c9))) (nI (sHh (votS S c9))) (nI (sVn (votS S c9))) (lN (sBrn (votS S c9))) (fun j9 => lN (sRul (votS S c9) j9)) (fun j9 => lN (sStk (votS S c9) j9)) (fun j9 => lN (sPrs (votS S c9) j9)) (fun j9 => bI (sOut (votS S c9) j9)) (fun j9 => lN (sWts (votS S c9) j9)) (fun j9 => lN (sTot (votS S c9) j9)) (fun j9 => nI (sVts (votS S c9) j9)) (fun j9 => nI ((bbF S) j9)) (fun j9 => nI ((cbF S) j9))) := hD
  refine lv_iload_n hx hb dX1_keep_20 rfl (lv_at hl 1 rfl) ?_
  refine f_cSi (As := [.int (nI c9)]) (rest := []) ⟨hx, hb, hml, hown, hts⟩ (c_X1_blockOf l9 c9 (by omega)) (va_cwS 1 hts gX1_keep_X1_blockOf rfl rfl rfl (by decide +kernel) ⟨Nat.le_of_ble_eq_true rfl, Nat.le_of_ble_eq_true rfl⟩) noB_bl noB_at rfl hl.1 rfl (Nat.le_of_ble_eq_true rfl) dX1_keep_21 ⟨Nat.zero_le _, Nat.zero_le _⟩ ?_
  refine f_0le (tgt := 48) hx hb (nI_toInt (by omega)) dX1_keep_24 (by decide) (fun c_1 => ?_) (fun c_1 => ?_)
  · have hz8 : bbF (votS S c9) = bbF S := bb_vot2 (fun _ => by
      have e9 : ¬ 0 < c9 % 16 := by omega
      simp [bkF, e9])
    have hz9 : cbF (votS S c9) = cbF S := cb_vot2 (fun _ e9 => absurd e9 (by omega))
    have hW : (xwr ad cy (nI (sNn (votS S c9))) (nI (sHh (votS S c9))) (nI (sVn (votS S c9))) (lN (sBrn (votS S c9))) (fun j9 => lN (sRul (votS S c9) j9)) (fun j9 => lN (sStk (votS S c9) j9)) (fun j9 => lN (sPrs (votS S c9) j9)) (fun j9 => bI (sOut (votS S c9) j9)) (fun j9 => lN (sWts (votS S c9) j9)) (fun j9 => lN (sTot (votS S c9) j9)) (fun j9 => nI (sVts (votS S c9) j9)) (fun j9 => nI ((bbF S) j9)) (fun j9 => nI ((cbF S) j9))) = xw ad cy (votS S c9) := by first | (exact xwr_eq rfl rfl rfl rfl rfl rfl rfl rfl rfl rfl rfl (by rw [hz8]) (by rw [hz9])) | (rcases (show c9 / 16 % 2 = 0 ∨ c9 / 16 % 2 = 1 by omega) with hst | hst; (rw [hst] at hcm; rw [if_pos hst, if_pos hst]; have c2 : bkF (votS S c9) (c9 / 2048) (c9 / 32 % 8) (c9 % 16) = true := (by have c3 : mostF (votS S c9) (c9 / 2048) (wS (votS S c9) (c9 / 2048) (c9 / 32 % 8) 0 (c9 % 16)) = true := hcm; simp [bkF, c3]; omega); exact xwr_eq rfl rfl rfl rfl rfl rfl rfl rfl rfl rfl rfl (by rw [bb_vot hc1 hst c2]) (by rw [cb_vot2 (fun e9 => absurd e9 (by omega))])); (rw [hst] at hcm; rw [if_neg (by omega), if_neg (by omega)]; exact xwr_eq rfl rfl rfl rfl rfl rfl rfl rfl rfl rfl rfl (by rw [bb_vot2 (fun e9 => absurd e9 (by omega))]) (by rw [cb_vot hc1 hst (by omega) hcm])))
    rw [hW] at hP hD
    exact f_mv hx hb hr hlocks hP hK hD hS dX1_keep_48
  · refine lv_aload_n hx hb dX1_keep_27 rfl (lv_at hl 0 rfl) ?_
    refine lv_iload_n hx hb dX1_keep_28 rfl (lv_at hl 1 rfl) ?_
    refine f_cSi (As := [.int (nI c9)]) (rest := [.ref (ad 0)]) ⟨hx, hb, hml, hown, hts⟩ (c_X1_heightOf l9 c9 (by omega)) (va_cwS 1 hts gX1_keep_X1_heightOf rfl rfl rfl (by decide +kernel) ⟨Nat.le_of_ble_eq_true rfl, Nat.le_of_ble_eq_true rfl⟩) noB_bl noB_at rfl hl.1 rfl (Nat.le_of_ble_eq_true rfl) dX1_keep_29 ⟨Nat.zero_le _, Nat.zero_le _⟩ ?_
    refine lv_aload_n hx hb dX1_keep_32 rfl (lv_at hl 0 rfl) ?_
    refine lv_iload_n hx hb dX1_keep_33 rfl (lv_at hl 1 rfl) ?_
    refine f_cVl (As := [.int (nI c9)]) (rest := [.int (nI (c9 / 2048)), .ref (ad 0)]) ⟨hx, hb, hml, hown, hts⟩ (c_X1_weightForY l9 dC dI ad cy (votS S c9) (bbF S) (cbF S) c9 (I2v) (by omega)) (cwV 1 hts gX1_keep_X1_weightFor rfl rfl rfl (by decide +kernel) ⟨Nat.le_of_ble_eq_true rfl, Nat.le_of_ble_eq_true rfl⟩) roB_bl (va_recv hK hP (ci := 2) (q0 := 0) rfl rfl) (roB_at hP hK) rfl hl.1 rfl (Nat.le_of_ble_eq_true rfl) dX1_keep_34 ⟨Nat.zero_le _, Nat.zero_le _⟩ ?_
    refine f_cVi (As := [.int (nI (c9 / 2048)), .long (lN (wfF (votS S c9) c9))]) (rest := []) ⟨hx, hb, hml, hown, hts⟩ (c_X1_isTheMostY l9 dC dI ad cy (votS S c9) (bbF S) (cbF S) (c9 / 2048) (wfF (votS S c9) c9) (I2v) (by omega) (by rw [hwf]; omega)) (cwV 2 hts gX1_keep_X1_isTheMost rfl rfl rfl (by decide +kernel) ⟨Nat.le_of_ble_eq_true rfl, Nat.le_of_ble_eq_true rfl⟩) roB_bl (va_recv hK hP (ci := 2) (q0 := 0) rfl rfl) (roB_at hP hK) rfl hl.1 rfl (Nat.le_of_ble_eq_true rfl) dX1_keep_37 ⟨Nat.zero_le _, Nat.zero_le _⟩ ?_
    refine f_beq (tgt := 48) hx hb dX1_keep_40 (by decide) (fun c_2 => ?_) (fun c_2 => ?_)
    · rw [hwf] at c_2
      have hz8 : bbF (votS S c9) = bbF S := bb_vot2 (fun e9 => by
        rw [e9] at c_2
        have c2 : mostF (votS S c9) (c9 / 2048) (wS (votS S c9) (c9 / 2048) (c9 / 32 % 8) 0 (c9 % 16)) = false := c_2
        simp [bkF, c2])
      have hz9 : cbF (votS S c9) = cbF S := cb_vot2 (fun e9 _ => by
        rw [e9] at c_2
        exact c_2)
      have hW : (xwr ad cy (nI (sNn (votS S c9))) (nI (sHh (votS S c9))) (nI (sVn (votS S c9))) (lN (sBrn (votS S c9))) (fun j9 => lN (sRul (votS S c9) j9)) (fun j9 => lN (sStk (votS S c9) j9)) (fun j9 => lN (sPrs (votS S c9) j9)) (fun j9 => bI (sOut (votS S c9) j9)) (fun j9 => lN (sWts (votS S c9) j9)) (fun j9 => lN (sTot (votS S c9) j9)) (fun j9 => nI (sVts (votS S c9) j9)) (fun j9 => nI ((bbF S) j9)) (fun j9 => nI ((cbF S) j9))) = xw ad cy (votS S c9) := by first | (exact xwr_eq rfl rfl rfl rfl rfl rfl rfl rfl rfl rfl rfl (by rw [hz8]) (by rw [hz9])) | (rcases (show c9 / 16 % 2 = 0 ∨ c9 / 16 % 2 = 1 by omega) with hst | hst; (rw [hst] at hcm; rw [if_pos hst, if_pos hst]; have c2 : bkF (votS S c9) (c9 / 2048) (c9 / 32 % 8) (c9 % 16) = true := (by have c3 : mostF (votS S c9) (c9 / 2048) (wS (votS S c9) (c9 / 2048) (c9 / 32 % 8) 0 (c9 % 16)) = true := hcm; simp [bkF, c3]; omega); exact xwr_eq rfl rfl rfl rfl rfl rfl rfl rfl rfl rfl rfl (by rw [bb_vot hc1 hst c2]) (by rw [cb_vot2 (fun e9 => absurd e9 (by omega))])); (rw [hst] at hcm; rw [if_neg (by omega), if_neg (by omega)]; exact xwr_eq rfl rfl rfl rfl rfl rfl rfl rfl rfl rfl rfl (by rw [bb_vot2 (fun e9 => absurd e9 (by omega))]) (by rw [cb_vot hc1 hst (by omega) hcm])))
      rw [hW] at hP hD
      exact f_mv hx hb hr hlocks hP hK hD hS dX1_keep_48
    · rw [hwf] at c_2
      have hcm := c_2
      refine lv_aload_n hx hb dX1_keep_43 rfl (lv_at hl 0 rfl) ?_
      refine lv_iload_n hx hb dX1_keep_44 rfl (lv_at hl 1 rfl) ?_
      refine f_mcv (z := []) (As := [.int (nI c9)]) (rest := []) ⟨hx, hb, hml, hown, hts⟩ (c_X1_noteTheMost l9 dC dI ad cy (votS S c9) (bbF S) (cbF S) H.size c9 (by omega) (by omega) (bb_lt S) (cb_lt S)) (cwV 1 hts gX1_keep_X1_noteTheMost rfl rfl rfl (by decide +kernel) ⟨Nat.le_of_ble_eq_true rfl, Nat.le_of_ble_eq_true rfl⟩) (va_recv hK hP (ci := 2) (q0 := 0) rfl rfl) hP hK hD hS hA rfl hl.1 rfl (Nat.le_of_ble_eq_true rfl) dX1_keep_45 ⟨Nat.zero_le _, Nat.zero_le _⟩ (fun H locs hP hD hS => ?_)
      have hP : va_P (dC, dI) vwCl (xwr ad cy (nI (sNn (votS S c9))) (nI (sHh (votS S c9))) (nI (sVn (votS S c9))) (lN (sBrn (votS S c9))) (fun j9 => lN (sRul (votS S c9) j9)) (fun j9 => lN (sStk (votS S c9) j9)) (fun j9 => lN (sPrs (votS S c9) j9)) (fun j9 => bI (sOut (votS S c9) j9)) (fun j9 => lN (sWts (votS S c9) j9)) (fun j9 => lN (sTot (votS S c9) j9)) (fun j9 => nI (sVts (votS S c9) j9)) (fun j9 => nI ((if c9 / 16 % 2 = 0 then (va_up (bbF S) (c9 / 2048 * 8 + c9 / 32 % 8) ((bbF S) (c9 / 2048 * 8 + c9 / 32 % 8) ||| 2 ^ (c9 % 16))) else bbF S) j9)) (fun j9 => nI ((if c9 / 16 % 2 = 0 then cbF S else (va_up (cbF S) (c9 / 2048) ((cbF S) (c9 / 2048) ||| 2 ^ (c9 % 16)))) j9))) H := hP
      have hD : va_D A (xwr ad cy (nI (sNn (votS S c9))) (nI (sHh (votS S c9))) (nI (sVn (votS S c9))) (lN (sBrn (votS S c9))) (fun j9 => lN (sRul (votS S c9) j9)) (fun j9 => lN (sStk (votS S c9) j9)) (fun j9 => lN (sPrs (votS S c9) j9)) (fun j9 => bI (sOut (votS S c9) j9)) (fun j9 => lN (sWts (votS S c9) j9)) (fun j9 => lN (sTot (votS S c9) j9)) (fun j9 => nI (sVts (votS S c9) j9)) (fun j9 => nI ((if c9 / 16 % 2 = 0 then (va_up (bbF S) (c9 / 2048 * 8 + c9 / 32 % 8) ((bbF S) (c9 / 2048 * 8 + c9 / 32 % 8) ||| 2 ^ (c9 % 16))) else bbF S) j9)) (fun j9 => nI ((if c9 / 16 % 2 = 0 then cbF S else (va_up (cbF S) (c9 / 2048) ((cbF S) (c9 / 2048) ||| 2 ^ (c9 % 16)))) j9))) := hD
      have hW : (xwr ad cy (nI (sNn (votS S c9))) (nI (sHh (votS S c9))) (nI (sVn (votS S c9))) (lN (sBrn (votS S c9))) (fun j9 => lN (sRul (votS S c9) j9)) (fun j9 => lN (sStk (votS S c9) j9)) (fun j9 => lN (sPrs (votS S c9) j9)) (fun j9 => bI (sOut (votS S c9) j9)) (fun j9 => lN (sWts (votS S c9) j9)) (fun j9 => lN (sTot (votS S c9) j9)) (fun j9 => nI (sVts (votS S c9) j9)) (fun j9 => nI ((if c9 / 16 % 2 = 0 then (va_up (bbF S) (c9 / 2048 * 8 + c9 / 32 % 8) ((bbF S) (c9 / 2048 * 8 + c9 / 32 % 8) ||| 2 ^ (c9 % 16))) else bbF S) j9)) (fun j9 => nI ((if c9 / 16 % 2 = 0 then cbF S else (va_up (cbF S) (c9 / 2048) ((cbF S) (c9 / 2048) ||| 2 ^ (c9 % 16)))) j9))) = xw ad cy (votS S c9) := by first | (exact xwr_eq rfl rfl rfl rfl rfl rfl rfl rfl rfl rfl rfl (by rw [hz8]) (by rw [hz9])) | (rcases (show c9 / 16 % 2 = 0 ∨ c9 / 16 % 2 = 1 by omega) with hst | hst; (rw [hst] at hcm; rw [if_pos hst, if_pos hst]; have c2 : bkF (votS S c9) (c9 / 2048) (c9 / 32 % 8) (c9 % 16) = true := (by have c3 : mostF (votS S c9) (c9 / 2048) (wS (votS S c9) (c9 / 2048) (c9 / 32 % 8) 0 (c9 % 16)) = true := hcm; simp [bkF, c3]; omega); exact xwr_eq rfl rfl rfl rfl rfl rfl rfl rfl rfl rfl rfl (by rw [bb_vot hc1 hst c2]) (by rw [cb_vot2 (fun e9 => absurd e9 (by omega))])); (rw [hst] at hcm; rw [if_neg (by omega), if_neg (by omega)]; exact xwr_eq rfl rfl rfl rfl rfl rfl rfl rfl rfl rfl rfl (by rw [bb_vot2 (fun e9 => absurd e9 (by omega))]) (by rw [cb_vot hc1 hst (by omega) hcm])))
      rw [hW] at hP hD
      exact f_mv hx hb hr hlocks hP hK hD hS dX1_keep_48
