abbrev rm_X2_certain : Room := { frames := 3, cells := 0, slots := 0, locals := 71 }
set_option maxHeartbeats 4000000 in
set_option maxRecDepth 100000 in
theorem c_X2_certain (l : Launch) (dC : Nat → ClassId) (dI : Nat → Nat → Nat) (ad : Nat → Nat) (cy : Nat → ClassId) (S : St) (x : Int32) (y : Int32) (I : Inv S) : RoI l yX2_certain wsX2_certain rm_X2_certain [.ref (ad 0), .int x, .int y] (mB dC dI ad cy S) (cnF S x y) := by
  refine Ro_start (cc := cX2_certain) (maxL := 5) (ret := (some .int)) (lv := [(0, .ref (ad 0)), (1, .int x), (2, .int y)]) (by decide) rfl (Nat.le_of_ble_eq_true rfl) rfl ?_
  intro pp ee ss mm aa bl me co hx hb hr hml hts hown hlocks hnm hB ls hl
  obtain ⟨hP, hK⟩ := hB
  have I1 := I.n
  refine lv_aload_n hx hb dX2_certain_0 rfl (lv_at hl 0 rfl) ?_
  refine lv_iload_n hx hb dX2_certain_1 rfl (lv_at hl 1 rfl) ?_
  refine f_cVi (As := [.int x]) (rest := []) ⟨hx, hb, hml, hown, hts⟩ (c_X2_isHeight l dC dI ad cy S x I) (cwV 1 hts gX2_certain_X2_isHeight rfl rfl rfl (by decide +kernel) ⟨Nat.le_of_ble_eq_true rfl, Nat.le_of_ble_eq_true rfl⟩) roB_bl (va_recv hK hP (ci := 3) (q0 := 0) rfl rfl) (roB_at hP hK) rfl hl.1 rfl (Nat.le_of_ble_eq_true rfl) dX2_certain_2 ⟨Nat.zero_le _, Nat.zero_le _⟩ ?_
  refine f_bne (tgt := 11) hx hb dX2_certain_5 (by decide) (fun c_1 => ?_) (fun c_1 => ?_)
  · obtain ⟨h, h1, h2, rfl⟩ := bg_of c_1
    have ht := tn_nI (n := h) (by omega)
    rcases Int.lt_or_le y.toInt 0 with hy | hy
    · have hneg := hy
      refine lv_iload_n hx hb dX2_certain_11 rfl (lv_at hl 2 rfl) ?_
      refine lv_istore_n (lv' := [(3, .int y), (0, .ref (ad 0)), (1, .int (nI h)), (2, .int y)]) hx hb dX2_certain_12 rfl hl (by decide) rfl (fun ls hl => ?_)
      refine lv_iconst (v := (nI 1)) hx hb dX2_certain_13 (by decide) ?_
      refine lv_istore (lv' := [(4, .int (nI 1)), (3, .int y), (0, .ref (ad 0)), (1, .int (nI h)), (2, .int y)]) hx hb dX2_certain_14 hl (by decide) rfl (fun ls hl => ?_)
      refine lv_iload hx hb dX2_certain_16 (lv_at hl 0 rfl) ?_
      refine lv_bipush (v := (nI 10)) hx hb dX2_certain_18 (by decide) ?_
      refine f_ige (tgt := 53) hx hb (nI_toInt (by omega)) (nI_toInt (by omega)) dX2_certain_20 (by decide) (fun c_2 => ?_) (fun c_2 => ?_)
      · exfalso; omega
      · refine lv_iload_n hx hb dX2_certain_23 rfl (lv_at hl 4 rfl) ?_
        refine f_0lt (tgt := 53) hx hb (rfl) dX2_certain_24 (by decide) (fun c_3 => ?_) (fun c_3 => ?_)
        · refine lv_iconst (v := (-1)) hx hb dX2_certain_53 (by decide) ?_
          exact f_ri hx hb hr hlocks (by first | (have e2 : fi 10 (cnT S h y.toInt) = 10 := fi_no (fun j hj => by have e : ¬ ((sm j (cnO S h) : Nat) : Int) = y.toInt := (by omega); simp [cnT, e]); simp only [cnF, ht, e2]; rw [c_1, if_neg (by decide), if_neg (by decide)]) | (have e2 := fi_no (n := 10) (fun j hj => hno j (by omega)); simp only [cnF, ht, hyi, e2]; rw [c_1, if_neg (by decide), if_neg (by decide)])) dX2_certain_54
        · exfalso; omega
    · obtain ⟨i, hi, rfl⟩ := in_nI (n := 2147483648) (x := y) hy (by have := y.toInt_lt; omega)
      have hyi := nI_toInt (n := i) (by omega)
      refine lv_iload_n hx hb dX2_certain_11 rfl (lv_at hl 2 rfl) ?_
      refine lv_istore_n (lv' := [(3, .int (nI i)), (0, .ref (ad 0)), (1, .int (nI h)), (2, .int (nI i))]) hx hb dX2_certain_12 rfl hl (by decide) rfl (fun ls hl => ?_)
      refine lv_iconst (v := (nI 1)) hx hb dX2_certain_13 (by decide) ?_
      refine lv_istore (lv' := [(4, .int (nI 1)), (3, .int (nI i)), (0, .ref (ad 0)), (1, .int (nI h)), (2, .int (nI i))]) hx hb dX2_certain_14 hl (by decide) rfl (fun ls hl => ?_)
      have loop_16 : ∀ (n : Nat) (b : Nat) (k : Nat), 10 - b < n → k + sm b (cnO S h) = i → b ≤ 10 → (∀ j, j < b → cnT S h i j = false) → 1 ≤ b → ∀ ls : Array Slot, lv_has ls 5 [(4, .int (nI b)), (3, .int (nI k)), (0, .ref (ad 0)), (1, .int (nI h)), (2, .int (nI i))] → W pp l ee rm_X2_certain ss mm aa bl me co ss.heap [] 0 0 (MQ bl (vp_Si (fun z_ => z_ = cnF S (nI h) (nI i))) aa ss 0 0 (fun _ => False)) (F0 mm 16 ls []) := by
        intro n
        induction n with
        | zero => intro b k hm; exact absurd hm (Nat.not_lt_zero _)
        | succ n ih_16 =>
          intro b k hm hk hb1 hno hb0 ls hl
          refine lv_iload hx hb dX2_certain_16 (lv_at hl 0 rfl) ?_
          refine lv_bipush (v := (nI 10)) hx hb dX2_certain_18 (by decide) ?_
          refine f_ige (tgt := 53) hx hb (nI_toInt (by omega)) (nI_toInt (by omega)) dX2_certain_20 (by decide) (fun c_4 => ?_) (fun c_4 => ?_)
          · refine lv_iconst (v := (-1)) hx hb dX2_certain_53 (by decide) ?_
            exact f_ri hx hb hr hlocks (by first | (have e2 : fi 10 (cnT S h y.toInt) = 10 := fi_no (fun j hj => by have e : ¬ ((sm j (cnO S h) : Nat) : Int) = y.toInt := (by omega); simp [cnT, e]); simp only [cnF, ht, e2]; rw [c_1, if_neg (by decide), if_neg (by decide)]) | (have e2 := fi_no (n := 10) (fun j hj => hno j (by omega)); simp only [cnF, ht, hyi, e2]; rw [c_1, if_neg (by decide), if_neg (by decide)])) dX2_certain_54
          · refine lv_iload_n hx hb dX2_certain_23 rfl (lv_at hl 4 rfl) ?_
            refine f_0lt (tgt := 53) hx hb (nI_toInt (by omega)) dX2_certain_24 (by decide) (fun c_5 => ?_) (fun c_5 => ?_)
            · exfalso; omega
            · refine lv_aload_n hx hb dX2_certain_27 rfl (lv_at hl 2 rfl) ?_
              refine lv_iload_n hx hb dX2_certain_28 rfl (lv_at hl 3 rfl) ?_
              refine lv_iload hx hb dX2_certain_29 (lv_at hl 0 rfl) ?_
              refine f_cVi (As := [.int (nI h), .int (nI b)]) (rest := []) ⟨hx, hb, hml, hown, hts⟩ (c_X2_isCertain l dC dI ad cy S h b I (by omega) (by omega)) (cwV 2 hts gX2_certain_X2_isCertain rfl rfl rfl (by decide +kernel) ⟨Nat.le_of_ble_eq_true rfl, Nat.le_of_ble_eq_true rfl⟩) roB_bl (va_recv hK hP (ci := 3) (q0 := 0) rfl rfl) (roB_at hP hK) rfl hl.1 rfl (Nat.le_of_ble_eq_true rfl) dX2_certain_31 ⟨Nat.zero_le _, Nat.zero_le _⟩ ?_
              refine f_beq (tgt := 47) hx hb dX2_certain_34 (by decide) (fun c_6 => ?_) (fun c_6 => ?_)
              · have hct : ctF S h b = false := by
                  have e : ex 8 (fun r => mostF S h (wS S h r 1 b)) = false := c_6
                  simp [ctF, e]
                have hz : cnO S h b = 0 := by simp [cnO, hct]
                have hz2 : cnT S h i b = false := by simp [cnT, hct]
                refine lv_iinc (v := (nI (b + 1))) (lv' := [(4, .int (nI (b + 1))), (3, .int (nI k)), (0, .ref (ad 0)), (1, .int (nI h)), (2, .int (nI i))]) hx hb dX2_certain_47 hl (k := 0) rfl (nI_add b 1) (by decide) rfl (fun ls hl => ?_)
                refine lv_goto (tgt := 16) hx hb dX2_certain_50 (by decide) ?_
                exact ih_16 (b + 1) k (by omega) (by simp only [sm, hz]; omega) (by omega) (lt_s hno hz2) (by omega) ls (lv_sub hl [0, 1, 2, 3, 4] rfl)
              · have hct : ctF S h b = true := by
                  have e : ex 8 (fun r => mostF S h (wS S h r 1 b)) = true := c_6
                  simp [ctF, e]; omega
                have hz : cnO S h b = 1 := by simp [cnO, hct]
                refine lv_iload_n hx hb dX2_certain_37 rfl (lv_at hl 1 rfl) ?_
                refine f_0ne (tgt := 44) hx hb (nI_toInt (by omega)) dX2_certain_38 (by decide) (fun c_7 => ?_) (fun c_7 => ?_)
                · have hz2 : cnT S h i b = false := by
                    have e : ¬ ((sm b (cnO S h) : Nat) : Int) = (i : Int) := by omega
                    simp [cnT, e]
                  refine lv_iinc (v := (nI (k - 1))) (lv' := [(3, .int (nI (k - 1))), (4, .int (nI b)), (0, .ref (ad 0)), (1, .int (nI h)), (2, .int (nI i))]) hx hb dX2_certain_44 hl (k := 1) rfl (f_dec (by omega)) (by decide) rfl (fun ls hl => ?_)
                  refine lv_iinc (v := (nI (b + 1))) (lv' := [(4, .int (nI (b + 1))), (3, .int (nI (k - 1))), (0, .ref (ad 0)), (1, .int (nI h)), (2, .int (nI i))]) hx hb dX2_certain_47 hl (k := 1) rfl (nI_add b 1) (by decide) rfl (fun ls hl => ?_)
                  refine lv_goto (tgt := 16) hx hb dX2_certain_50 (by decide) ?_
                  exact ih_16 (b + 1) (k - 1) (by omega) (by simp only [sm, hz]; omega) (by omega) (lt_s hno hz2) (by omega) ls (lv_sub hl [0, 1, 2, 3, 4] rfl)
                · refine lv_iload hx hb dX2_certain_41 (lv_at hl 0 rfl) ?_
                  exact f_ri hx hb hr hlocks (by have e : ((sm b (cnO S h) : Nat) : Int) = (i : Int) := (by omega); have e2 := fi_at (n := 10) hno (by simp [cnT, e, hct]) (by omega); simp only [cnF, ht, hyi, e2]; rw [c_1, if_neg (by decide), if_pos (by omega)]) dX2_certain_43
      exact loop_16 (10 - 1 + 1) 1 i (Nat.lt_succ_self _) (by simp [sm, cnO, ctF]) (by decide) (fun j hj => (by have e : j = 0 := (by omega); subst e; simp [cnT, ctF])) (by decide) ls (lv_sub hl [0, 1, 2, 3, 4] rfl)
  · refine lv_bipush (v := (-102)) hx hb dX2_certain_8 (by decide) ?_
    exact f_ri hx hb hr hlocks (by simp [cnF, c_1]) dX2_certain_10

abbrev rm_X2_broken : Room := { frames := 6, cells := 0, slots := 0, locals := 141 }
set_option maxHeartbeats 4000000 in
set_option maxRecDepth 100000 in
theorem c_X2_broken (l : Launch) (dC : Nat → ClassId) (dI : Nat → Nat → Nat) (ad : Nat → Nat) (cy : Nat → ClassId) (S : St) (x : Int32) (y : Int32) (z : Int32) (u : Int32) (I : Inv S) : RoI l yX2_broken wsX2_broken rm_X2_broken [.ref (ad 0), .int x, .int y, .int z, .int u] (mB dC dI ad cy S) (bnF S x y z u) := by
  refine Ro_start (cc := cX2_broken) (maxL := 8) (ret := (some .int)) (lv := [(0, .ref (ad 0)), (1, .int x), (2, .int y), (3, .int z), (4, .int u)]) (by decide) rfl (Nat.le_of_ble_eq_true rfl) rfl ?_
  intro pp ee ss mm aa bl me co hx hb hr hml hts hown hlocks hnm hB ls hl
  obtain ⟨hP, hK⟩ := hB
  have hin : ∀ w ∈ wsX20, w ∈ wsX2_broken := fun w h => List.mem_cons_of_mem _ (List.mem_append_right _ h)
  have hf_30 := hts (.fieldLink RX2 30 "FaultEvidenceModel" "when" "[I") (by decide +kernel)
  have hf_79 := hts (.fieldLink RX2 79 "FaultEvidenceModel" "votes" "I") (by decide +kernel)
  have hc_91 := hts (.constantLong RX2 91 (2)) (by decide +kernel)
  have I1 := I.n
  refine lv_aload_n hx hb dX2_broken_0 rfl (lv_at hl 0 rfl) ?_
  refine lv_iload_n hx hb dX2_broken_1 rfl (lv_at hl 1 rfl) ?_
  refine f_cVi (As := [.int x]) (rest := []) ⟨hx, hb, hml, hown, hts⟩ (c_X2_isHeight l dC dI ad cy S x I) (cwV 1 hts gX2_broken_X2_isHeight rfl rfl rfl (by decide +kernel) ⟨Nat.le_of_ble_eq_true rfl, Nat.le_of_ble_eq_true rfl⟩) roB_bl (va_recv hK hP (ci := 3) (q0 := 0) rfl rfl) (roB_at hP hK) rfl hl.1 rfl (Nat.le_of_ble_eq_true rfl) dX2_broken_2 ⟨Nat.zero_le _, Nat.zero_le _⟩ ?_
  refine f_beq (tgt := 31) hx hb dX2_broken_5 (by decide) (fun c_1 => ?_) (fun c_1 => ?_)
  · refine lv_bipush (v := (-102)) hx hb dX2_broken_31 (by decide) ?_
    exact f_ri hx hb hr hlocks (by first | (simp [bnF, c_1]; done) | (have e : (isKd y && decide (0 ≤ u.toInt) && decide (u.toInt ≤ 1)) = false := (by rw [← Bool.not_eq_true]; simp only [isKd, Bool.and_eq_true, decide_eq_true_eq]; omega); simp only [bnF, Bool.and_assoc] at e ⊢; rw [e, Bool.and_false, if_pos rfl])) dX2_broken_33
  · refine lv_iload_n hx hb dX2_broken_8 rfl (lv_at hl 2 rfl) ?_
    refine lv_i2l (v := (Int32.toInt64 y)) hx hb dX2_broken_9 rfl ?_
    refine lv_lconst (v := (lN 0)) hx hb dX2_broken_10 (by decide) ?_
    refine lv_ldc2 (v := 2) hx hb hown hc_91 dX2_broken_11 ?_
    refine f_tl (y := (lN 2)) (by decide) ?_
    refine f_cSi (As := [.long (Int32.toInt64 y), .long (lN 0), .long (lN 2)]) (rest := []) ⟨hx, hb, hml, hown, hts⟩ (c_X2_in l (Int32.toInt64 y) (lN 0) (lN 2)) (va_cwS 3 hts gX2_broken_X2_in rfl rfl rfl (by decide +kernel) ⟨Nat.le_of_ble_eq_true rfl, Nat.le_of_ble_eq_true rfl⟩) noB_bl noB_at rfl hl.1 rfl (Nat.le_of_ble_eq_true rfl) dX2_broken_14 ⟨Nat.zero_le _, Nat.zero_le _⟩ ?_
    refine f_beq (tgt := 31) hx hb dX2_broken_17 (by decide) (fun c_2 => ?_) (fun c_2 => ?_)
    · rw [in_i2l _ (by decide) (by decide), ← Bool.not_eq_true] at c_2
      simp only [Bool.and_eq_true, decide_eq_true_eq] at c_2
      refine lv_bipush (v := (-102)) hx hb dX2_broken_31 (by decide) ?_
      exact f_ri hx hb hr hlocks (by first | (simp [bnF, c_1]; done) | (have e : (isKd y && decide (0 ≤ u.toInt) && decide (u.toInt ≤ 1)) = false := (by rw [← Bool.not_eq_true]; simp only [isKd, Bool.and_eq_true, decide_eq_true_eq]; omega); simp only [bnF, Bool.and_assoc] at e ⊢; rw [e, Bool.and_false, if_pos rfl])) dX2_broken_33
    · rw [in_i2l _ (by decide) (by decide)] at c_2
      simp only [Bool.and_eq_true, decide_eq_true_eq] at c_2
      refine lv_iload hx hb dX2_broken_20 (lv_at hl 4 rfl) ?_
      refine lv_i2l (v := (Int32.toInt64 u)) hx hb dX2_broken_22 rfl ?_
      refine lv_lconst (v := (lN 0)) hx hb dX2_broken_23 (by decide) ?_
      refine lv_lconst (v := (lN 1)) hx hb dX2_broken_24 (by decide) ?_
      refine f_cSi (As := [.long (Int32.toInt64 u), .long (lN 0), .long (lN 1)]) (rest := []) ⟨hx, hb, hml, hown, hts⟩ (c_X2_in l (Int32.toInt64 u) (lN 0) (lN 1)) (va_cwS 3 hts gX2_broken_X2_in rfl rfl rfl (by decide +kernel) ⟨Nat.le_of_ble_eq_true rfl, Nat.le_of_ble_eq_true rfl⟩) noB_bl noB_at rfl hl.1 rfl (Nat.le_of_ble_eq_true rfl) dX2_broken_25 ⟨Nat.zero_le _, Nat.zero_le _⟩ ?_
      refine f_bne (tgt := 34) hx hb dX2_broken_28 (by decide) (fun c_3 => ?_) (fun c_3 => ?_)
      · rw [in_i2l _ (by decide) (by decide)] at c_3
        simp only [Bool.and_eq_true, decide_eq_true_eq] at c_3
        obtain ⟨h, h1, h2, rfl⟩ := bg_of c_1
        have hkd : isKd y = true := by simp only [isKd, Bool.and_eq_true, decide_eq_true_eq]; omega
        obtain ⟨q, hq, rfl⟩ := kd_of hkd
        have ht := tn_nI (n := h) (by omega)
        have hu := tn_nI (n := q) (by omega)
        have hcond : (isBg S (nI h) && isKd (nI q) && decide (0 ≤ u.toInt) && decide (u.toInt ≤ 1)) = true := by rw [c_1, hkd]; simp; omega
        rcases Int.lt_or_le z.toInt 0 with hy | hy
        · have hneg := hy
          refine lv_iload_n hx hb dX2_broken_34 rfl (lv_at hl 3 rfl) ?_
          refine lv_istore (lv' := [(5, .int z), (0, .ref (ad 0)), (1, .int (nI h)), (2, .int (nI q)), (3, .int z), (4, .int u)]) hx hb dX2_broken_35 hl (by decide) rfl (fun ls hl => ?_)
          refine lv_iconst (v := (nI 0)) hx hb dX2_broken_37 (by decide) ?_
          refine lv_istore (lv' := [(6, .int (nI 0)), (5, .int z), (0, .ref (ad 0)), (1, .int (nI h)), (2, .int (nI q)), (3, .int z), (4, .int u)]) hx hb dX2_broken_38 hl (by decide) rfl (fun ls hl => ?_)
          refine lv_iload hx hb dX2_broken_40 (lv_at hl 0 rfl) ?_
          refine lv_aload_n hx hb dX2_broken_42 rfl (lv_at hl 2 rfl) ?_
          refine va_get (D := (dC, dI)) (ci := 3) (v := .int (nI (sVn S))) (C := RX2) (T := TX2) (N := 27) hx hb hts hin hown hK hP 0 rfl rfl 7 (by decide) hf_79 (fun _ h9 => h9) rfl dX2_broken_43 ?_
          refine f_ige (tgt := 131) hx hb (nI_toInt (by omega)) (nI_toInt (by omega)) dX2_broken_46 (by decide) (fun c_4 => ?_) (fun c_4 => ?_)
          · refine lv_iconst (v := (-1)) hx hb dX2_broken_131 (by decide) ?_
            exact f_ri hx hb hr hlocks (by first | (simp only [bnF, ht, hu, hcond]; rw [if_neg (by decide), if_pos (by omega)]; done) | (have e3 : bnA S h q i = sVn S := fi_no (fun j hj => hno j (by omega)); simp only [bnF, ht, hu, hzt, e3, hcond]; rw [if_neg (by decide), if_neg (by omega), if_neg (by omega)])) dX2_broken_132
          · refine lv_iload_n hx hb dX2_broken_49 rfl (lv_at hl 5 rfl) ?_
            refine f_0lt (tgt := 131) hx hb (rfl) dX2_broken_50 (by decide) (fun c_5 => ?_) (fun c_5 => ?_)
            · refine lv_iconst (v := (-1)) hx hb dX2_broken_131 (by decide) ?_
              exact f_ri hx hb hr hlocks (by first | (simp only [bnF, ht, hu, hcond]; rw [if_neg (by decide), if_pos (by omega)]; done) | (have e3 : bnA S h q i = sVn S := fi_no (fun j hj => hno j (by omega)); simp only [bnF, ht, hu, hzt, e3, hcond]; rw [if_neg (by decide), if_neg (by omega), if_neg (by omega)])) dX2_broken_132
            · exfalso; omega
        · obtain ⟨i, hi, rfl⟩ := in_nI (n := 2147483648) (x := z) hy (by have := z.toInt_lt; omega)
          have hzi := nI_toInt (n := i) (by omega)
          have hzt := tn_nI (n := i) (by omega)
          refine lv_iload_n hx hb dX2_broken_34 rfl (lv_at hl 3 rfl) ?_
          refine lv_istore (lv' := [(5, .int (nI i)), (0, .ref (ad 0)), (1, .int (nI h)), (2, .int (nI q)), (3, .int (nI i)), (4, .int u)]) hx hb dX2_broken_35 hl (by decide) rfl (fun ls hl => ?_)
          refine lv_iconst (v := (nI 0)) hx hb dX2_broken_37 (by decide) ?_
          refine lv_istore (lv' := [(6, .int (nI 0)), (5, .int (nI i)), (0, .ref (ad 0)), (1, .int (nI h)), (2, .int (nI q)), (3, .int (nI i)), (4, .int u)]) hx hb dX2_broken_38 hl (by decide) rfl (fun ls hl => ?_)
          have loop_40 : ∀ (n : Nat) (a : Nat) (k : Nat), sVn S - a < n → k + sm a (bsT S h q) = i → a ≤ sVn S → (∀ j, j < a → bnT S h q i j = false) → ∀ ls : Array Slot, lv_has ls 8 [(6, .int (nI a)), (5, .int (nI k)), (0, .ref (ad 0)), (1, .int (nI h)), (2, .int (nI q)), (3, .int (nI i)), (4, .int u)] → W pp l ee rm_X2_broken ss mm aa bl me co ss.heap [] 0 0 (MQ bl (vp_Si (fun z_ => z_ = bnF S (nI h) (nI q) (nI i) u)) aa ss 0 0 (fun _ => False)) (F0 mm 40 ls []) := by
            intro n
            induction n with
            | zero => intro a k hm; exact absurd hm (Nat.not_lt_zero _)
            | succ n ih_40 =>
              intro a k hm hk han hno ls hl
              refine lv_iload hx hb dX2_broken_40 (lv_at hl 0 rfl) ?_
              refine lv_aload_n hx hb dX2_broken_42 rfl (lv_at hl 2 rfl) ?_
              refine va_get (D := (dC, dI)) (ci := 3) (v := .int (nI (sVn S))) (C := RX2) (T := TX2) (N := 27) hx hb hts hin hown hK hP 0 rfl rfl 7 (by decide) hf_79 (fun _ h9 => h9) rfl dX2_broken_43 ?_
              refine f_ige (tgt := 131) hx hb (nI_toInt (by omega)) (nI_toInt (by omega)) dX2_broken_46 (by decide) (fun c_6 => ?_) (fun c_6 => ?_)
              · refine lv_iconst (v := (-1)) hx hb dX2_broken_131 (by decide) ?_
                exact f_ri hx hb hr hlocks (by first | (simp only [bnF, ht, hu, hcond]; rw [if_neg (by decide), if_pos (by omega)]; done) | (have e3 : bnA S h q i = sVn S := fi_no (fun j hj => hno j (by omega)); simp only [bnF, ht, hu, hzt, e3, hcond]; rw [if_neg (by decide), if_neg (by omega), if_neg (by omega)])) dX2_broken_132
              · refine lv_iload_n hx hb dX2_broken_49 rfl (lv_at hl 5 rfl) ?_
                refine f_0lt (tgt := 131) hx hb (nI_toInt (by omega)) dX2_broken_50 (by decide) (fun c_7 => ?_) (fun c_7 => ?_)
                · exfalso; omega
                · have hv := I.v (v := a) (by omega)
                  refine lv_iconst (v := (nI 0)) hx hb dX2_broken_53 (by decide) ?_
                  refine lv_istore (lv' := [(7, .int (nI 0)), (6, .int (nI a)), (5, .int (nI k)), (0, .ref (ad 0)), (1, .int (nI h)), (2, .int (nI q)), (3, .int (nI i)), (4, .int u)]) hx hb dX2_broken_54 hl (by decide) rfl (fun ls hl => ?_)
                  have loop_56 : ∀ (n : Nat) (b : Nat) (k : Nat), sVn S - b < n → k + sm a (bsT S h q) + sm b (brT S h q a) = i → b ≤ sVn S → ∀ ls : Array Slot, lv_has ls 8 [(7, .int (nI b)), (6, .int (nI a)), (5, .int (nI k)), (0, .ref (ad 0)), (1, .int (nI h)), (2, .int (nI q)), (3, .int (nI i)), (4, .int u)] → W pp l ee rm_X2_broken ss mm aa bl me co ss.heap [] 0 0 (MQ bl (vp_Si (fun z_ => z_ = bnF S (nI h) (nI q) (nI i) u)) aa ss 0 0 (fun _ => False)) (F0 mm 56 ls []) := by
                    intro n
                    induction n with
                    | zero => intro b k hm; exact absurd hm (Nat.not_lt_zero _)
                    | succ n ih_56 =>
                      intro b k hm hk2 hbn ls hl
                      refine lv_iload hx hb dX2_broken_56 (lv_at hl 0 rfl) ?_
                      refine lv_aload_n hx hb dX2_broken_58 rfl (lv_at hl 3 rfl) ?_
                      refine va_get (D := (dC, dI)) (ci := 3) (v := .int (nI (sVn S))) (C := RX2) (T := TX2) (N := 27) hx hb hts hin hown hK hP 0 rfl rfl 7 (by decide) hf_79 (fun _ h9 => h9) rfl dX2_broken_59 ?_
                      refine f_ige (tgt := 125) hx hb (nI_toInt (by omega)) (nI_toInt (by omega)) dX2_broken_62 (by decide) (fun c_8 => ?_) (fun c_8 => ?_)
                      · have hbe : b = sVn S := by omega
                        have hz : k + sm (a + 1) (bsT S h q) = i := by
                          rw [sm]
                          by_cases hw : sVts S a / 2048 = h
                          · have e := br_sum (q := q) (show a < sVn S by omega) hw hq
                            rw [← hbe] at e
                            simp [bsT, hw]; omega
                          · have e : sm b (brT S h q a) = 0 := sm_zero (fun i _ => br_no hw)
                            simp [bsT, hw]; omega
                        have hz2 : bnT S h q i a = false := by
                          rw [sm] at hz
                          have e : ¬ i < sm a (bsT S h q) + bsT S h q a := by omega
                          simp [bnT, e]
                        refine lv_iinc (v := (nI (a + 1))) (lv' := [(6, .int (nI (a + 1))), (7, .int (nI b)), (5, .int (nI k)), (0, .ref (ad 0)), (1, .int (nI h)), (2, .int (nI q)), (3, .int (nI i)), (4, .int u)]) hx hb dX2_broken_125 hl (k := 1) rfl (nI_add a 1) (by decide) rfl (fun ls hl => ?_)
                        refine lv_goto (tgt := 40) hx hb dX2_broken_128 (by decide) ?_
                        exact ih_40 (a + 1) k (by omega) (hz) (by omega) (lt_s hno hz2) ls (lv_sub hl [0, 2, 3, 4, 5, 6, 7] rfl)
                      · refine lv_aload_n hx hb dX2_broken_65 rfl (lv_at hl 3 rfl) ?_
                        refine va_get (D := (dC, dI)) (ci := 3) (v := .ref (ad 7)) (C := RX2) (T := TX2) (N := 27) hx hb hts hin hown hK hP 0 rfl rfl 9 (by decide) hf_30 (fun _ h9 => h9) rfl dX2_broken_66 ?_
                        refine lv_iload hx hb dX2_broken_69 (lv_at hl 1 rfl) ?_
                        refine f_iald hx hb hK hP 7 6 rfl rfl (k := a) (by omega) (by decide) (v := (nI (sVts S a / 2048))) rfl dX2_broken_71 ?_
                        refine lv_iload_n hx hb dX2_broken_72 rfl (lv_at hl 4 rfl) ?_
                        refine f_ine (tgt := 125) hx hb (nI_toInt (by omega)) (nI_toInt (by omega)) dX2_broken_73 (by decide) (fun c_9 => ?_) (fun c_9 => ?_)
                        · have hw : sVts S a / 2048 ≠ h := by omega
                          have hz : k + sm (a + 1) (bsT S h q) = i := by
                            have e : sm b (brT S h q a) = 0 := sm_zero (fun i _ => br_no hw)
                            rw [sm]; simp [bsT, hw]; omega
                          have hz2 : bnT S h q i a = false := by
                            rw [sm] at hz
                            have e : ¬ i < sm a (bsT S h q) + bsT S h q a := by omega
                            simp [bnT, e]
                          refine lv_iinc (v := (nI (a + 1))) (lv' := [(6, .int (nI (a + 1))), (7, .int (nI b)), (5, .int (nI k)), (0, .ref (ad 0)), (1, .int (nI h)), (2, .int (nI q)), (3, .int (nI i)), (4, .int u)]) hx hb dX2_broken_125 hl (k := 1) rfl (nI_add a 1) (by decide) rfl (fun ls hl => ?_)
                          refine lv_goto (tgt := 40) hx hb dX2_broken_128 (by decide) ?_
                          exact ih_40 (a + 1) k (by omega) (hz) (by omega) (lt_s hno hz2) ls (lv_sub hl [0, 2, 3, 4, 5, 6, 7] rfl)
                        · refine lv_aload_n hx hb dX2_broken_76 rfl (lv_at hl 3 rfl) ?_
                          refine lv_iload_n hx hb dX2_broken_77 rfl (lv_at hl 4 rfl) ?_
                          refine lv_iload_n hx hb dX2_broken_78 rfl (lv_at hl 5 rfl) ?_
                          refine lv_iload hx hb dX2_broken_79 (lv_at hl 1 rfl) ?_
                          refine lv_iload hx hb dX2_broken_81 (lv_at hl 0 rfl) ?_
                          refine f_cVi (As := [.int (nI h), .int (nI q), .int (nI a), .int (nI b)]) (rest := []) ⟨hx, hb, hml, hown, hts⟩ (c_X2_counts l dC dI ad cy S h q a b I (by omega) (by omega) (by omega) (by omega)) (cwV 4 hts gX2_broken_X2_counts rfl rfl rfl (by decide +kernel) ⟨Nat.le_of_ble_eq_true rfl, Nat.le_of_ble_eq_true rfl⟩) roB_bl (va_recv hK hP (ci := 3) (q0 := 0) rfl rfl) (roB_at hP hK) rfl hl.1 rfl (Nat.le_of_ble_eq_true rfl) dX2_broken_83 ⟨Nat.zero_le _, Nat.zero_le _⟩ ?_
                          refine f_beq (tgt := 119) hx hb dX2_broken_86 (by decide) (fun c_10 => ?_) (fun c_10 => ?_)
                          · have hz9 : brT S h q a b = 0 := by simp [brT, c_10]
                            refine lv_iinc (v := (nI (b + 1))) (lv' := [(7, .int (nI (b + 1))), (6, .int (nI a)), (5, .int (nI k)), (0, .ref (ad 0)), (1, .int (nI h)), (2, .int (nI q)), (3, .int (nI i)), (4, .int u)]) hx hb dX2_broken_119 hl (k := 0) rfl (nI_add b 1) (by decide) rfl (fun ls hl => ?_)
                            refine lv_goto (tgt := 56) hx hb dX2_broken_122 (by decide) ?_
                            exact ih_56 (b + 1) k (by omega) (by simp only [sm, hz9]; omega) (by omega) ls (lv_sub hl [0, 1, 2, 3, 4, 5, 6, 7] rfl)
                          · have hz9 : brT S h q a b = 1 := by simp [brT, c_10]
                            refine lv_iload hx hb dX2_broken_89 (lv_at hl 2 rfl) ?_
                            refine f_0ne (tgt := 116) hx hb (nI_toInt (by omega)) dX2_broken_91 (by decide) (fun c_11 => ?_) (fun c_11 => ?_)
                            · refine lv_iinc (v := (nI (k - 1))) (lv' := [(5, .int (nI (k - 1))), (7, .int (nI b)), (6, .int (nI a)), (0, .ref (ad 0)), (1, .int (nI h)), (2, .int (nI q)), (3, .int (nI i)), (4, .int u)]) hx hb dX2_broken_116 hl (k := 2) rfl (f_dec (by omega)) (by decide) rfl (fun ls hl => ?_)
                              refine lv_iinc (v := (nI (b + 1))) (lv' := [(7, .int (nI (b + 1))), (5, .int (nI (k - 1))), (6, .int (nI a)), (0, .ref (ad 0)), (1, .int (nI h)), (2, .int (nI q)), (3, .int (nI i)), (4, .int u)]) hx hb dX2_broken_119 hl (k := 1) rfl (nI_add b 1) (by decide) rfl (fun ls hl => ?_)
                              refine lv_goto (tgt := 56) hx hb dX2_broken_122 (by decide) ?_
                              exact ih_56 (b + 1) (k - 1) (by omega) (by simp only [sm, hz9]; omega) (by omega) ls (lv_sub hl [0, 2, 1, 3, 4, 5, 6, 7] rfl)
                            · have hw : sVts S a / 2048 = h := by omega
                              have hbs : bsT S h q a = cfF S q a := by simp [bsT, hw]
                              have hsum := br_sum (q := q) (show a < sVn S by omega) hw hq
                              have hlt := sm_lt (n := sVn S) (q := b) (f := brT S h q a) (by omega)
                              have hA : bnA S h q i = a := fi_at hno (by simp only [bnT, Bool.and_eq_true, decide_eq_true_eq]; omega) (by omega)
                              refine lv_iload hx hb dX2_broken_94 (lv_at hl 7 rfl) ?_
                              refine f_0ne (tgt := 104) hx hb (rfl) dX2_broken_96 (by decide) (fun c_12 => ?_) (fun c_12 => ?_)
                              · refine lv_iload_n hx hb dX2_broken_104 rfl (lv_at hl 5 rfl) ?_
                                refine lv_iconst (v := (nI 2)) hx hb dX2_broken_105 (by decide) ?_
                                refine f_ine (tgt := 113) hx hb (nI_toInt (by omega)) (nI_toInt (by omega)) dX2_broken_106 (by decide) (fun c_13 => ?_) (fun c_13 => ?_)
                                · have hq2 : q < 2 := by omega
                                  have hpt : fi (sVn S) (ptT S q a (i - sm a (bsT S h q))) = b := fi_at (fun j hj => by
                                    have e1 := br_cf (S := S) (h := h) (q := q) (a := a) (b := j) hw hq2
                                    have e2 : sm j (cfT S q a) = sm j (brT S h q a) := sm_congr (fun i _ => (br_cf hw hq2).symm)
                                    have e3 := sm_lt (n := b) (q := j) (f := brT S h q a) hj
                                    unfold ptT
                                    rw [← e1, e2, Bool.and_eq_false_iff, decide_eq_false_iff_not, decide_eq_false_iff_not]
                                    omega) (by
                                    have e1 := br_cf (S := S) (h := h) (q := q) (a := a) (b := b) hw hq2
                                    have e2 : sm b (cfT S q a) = sm b (brT S h q a) := sm_congr (fun i _ => (br_cf hw hq2).symm)
                                    simp only [ptT, Bool.and_eq_true, decide_eq_true_eq]
                                    omega) (by omega)
                                  refine lv_iload hx hb dX2_broken_113 (lv_at hl 0 rfl) ?_
                                  exact f_ri hx hb hr hlocks (by simp only [bnF, ht, hu, hzt, hA, hcond]; rw [if_neg (by decide), if_neg (by omega), if_pos (by omega)]; first | (rw [if_pos (by omega)]; done) | (rw [if_neg (by omega)]; unfold ptF; first | (rw [if_pos (by omega)]; done) | (rw [if_neg (by omega), hpt, if_pos (by omega)]))) dX2_broken_115
                                · refine lv_iconst (v := (-1)) hx hb dX2_broken_109 (by decide) ?_
                                  refine lv_goto (tgt := 115) hx hb dX2_broken_110 (by decide) ?_
                                  exact f_ri hx hb hr hlocks (by simp only [bnF, ht, hu, hzt, hA, hcond]; rw [if_neg (by decide), if_neg (by omega), if_pos (by omega)]; first | (rw [if_pos (by omega)]; done) | (rw [if_neg (by omega)]; unfold ptF; first | (rw [if_pos (by omega)]; done) | (rw [if_neg (by omega), hpt, if_pos (by omega)]))) dX2_broken_115
                              · refine lv_iload hx hb dX2_broken_99 (lv_at hl 1 rfl) ?_
                                refine lv_goto (tgt := 115) hx hb dX2_broken_101 (by decide) ?_
                                exact f_ri hx hb hr hlocks (by simp only [bnF, ht, hu, hzt, hA, hcond]; rw [if_neg (by decide), if_neg (by omega), if_pos (by omega)]; first | (rw [if_pos (by omega)]; done) | (rw [if_neg (by omega)]; unfold ptF; first | (rw [if_pos (by omega)]; done) | (rw [if_neg (by omega), hpt, if_pos (by omega)]))) dX2_broken_115
                  exact loop_56 (sVn S - 0 + 1) 0 k (Nat.lt_succ_self _) (hk) (Nat.zero_le _) ls (lv_sub hl [0, 1, 2, 3, 4, 5, 6, 7] rfl)
          exact loop_40 (sVn S - 0 + 1) 0 i (Nat.lt_succ_self _) (rfl) (Nat.zero_le _) (fun j hj => absurd hj (Nat.not_lt_zero _)) ls (lv_sub hl [0, 1, 2, 3, 4, 5, 6] rfl)
      · rw [in_i2l _ (by decide) (by decide), ← Bool.not_eq_true] at c_3
        simp only [Bool.and_eq_true, decide_eq_true_eq] at c_3
        refine lv_bipush (v := (-102)) hx hb dX2_broken_31 (by decide) ?_
        exact f_ri hx hb hr hlocks (by first | (simp [bnF, c_1]; done) | (have e : (isKd y && decide (0 ≤ u.toInt) && decide (u.toInt ≤ 1)) = false := (by rw [← Bool.not_eq_true]; simp only [isKd, Bool.and_eq_true, decide_eq_true_eq]; omega); simp only [bnF, Bool.and_assoc] at e ⊢; rw [e, Bool.and_false, if_pos rfl])) dX2_broken_33

abbrev rm_X2_named : Room := { frames := 6, cells := 0, slots := 0, locals := 141 }
set_option maxHeartbeats 4000000 in
set_option maxRecDepth 100000 in
theorem c_X2_named (l : Launch) (dC : Nat → ClassId) (dI : Nat → Nat → Nat) (ad : Nat → Nat) (cy : Nat → ClassId) (S : St) (x : Int32) (I : Inv S) : RoI l yX2_named wsX2_named rm_X2_named [.ref (ad 0), .int x] (mB dC dI ad cy S) (nmF S x) := by
  refine Ro_start (cc := cX2_named) (maxL := 6) (ret := (some .int)) (lv := [(0, .ref (ad 0)), (1, .int x)]) (by decide) rfl (Nat.le_of_ble_eq_true rfl) rfl ?_
  intro pp ee ss mm aa bl me co hx hb hr hml hts hown hlocks hnm hB ls hl
  obtain ⟨hP, hK⟩ := hB
  have hin : ∀ w ∈ wsX20, w ∈ wsX2_named := fun w h => List.mem_cons_of_mem _ (List.mem_append_right _ h)
  have hf_26 := hts (.fieldLink RX2 26 "FaultEvidenceModel" "who" "[I") (by decide +kernel)
  have hf_30 := hts (.fieldLink RX2 30 "FaultEvidenceModel" "when" "[I") (by decide +kernel)
  have hf_79 := hts (.fieldLink RX2 79 "FaultEvidenceModel" "votes" "I") (by decide +kernel)
  have I1 := I.n
  refine lv_aload_n hx hb dX2_named_0 rfl (lv_at hl 0 rfl) ?_
  refine lv_iload_n hx hb dX2_named_1 rfl (lv_at hl 1 rfl) ?_
  refine f_cVi (As := [.int x]) (rest := []) ⟨hx, hb, hml, hown, hts⟩ (c_X2_isHeight l dC dI ad cy S x I) (cwV 1 hts gX2_named_X2_isHeight rfl rfl rfl (by decide +kernel) ⟨Nat.le_of_ble_eq_true rfl, Nat.le_of_ble_eq_true rfl⟩) roB_bl (va_recv hK hP (ci := 3) (q0 := 0) rfl rfl) (roB_at hP hK) rfl hl.1 rfl (Nat.le_of_ble_eq_true rfl) dX2_named_2 ⟨Nat.zero_le _, Nat.zero_le _⟩ ?_
  refine f_bne (tgt := 11) hx hb dX2_named_5 (by decide) (fun c_1 => ?_) (fun c_1 => ?_)
  · obtain ⟨h, h1, h2, rfl⟩ := bg_of c_1
    have ht := tn_nI (n := h) (by omega)
    refine lv_iconst (v := (nI 0)) hx hb dX2_named_11 (by decide) ?_
    refine lv_istore_n (lv' := [(2, .int (nI 0)), (0, .ref (ad 0)), (1, .int (nI h))]) hx hb dX2_named_12 rfl hl (by decide) rfl (fun ls hl => ?_)
    refine lv_iconst (v := (nI 0)) hx hb dX2_named_13 (by decide) ?_
    refine lv_istore_n (lv' := [(3, .int (nI 0)), (2, .int (nI 0)), (0, .ref (ad 0)), (1, .int (nI h))]) hx hb dX2_named_14 rfl hl (by decide) rfl (fun ls hl => ?_)
    have loop_15 : ∀ (n : Nat) (a : Nat) (M : Nat), sVn S - a < n → M = bitS 8 (fun k => ex a (nmU S h k)) → a ≤ sVn S → ∀ ls : Array Slot, lv_has ls 6 [(3, .int (nI a)), (2, .int (nI M)), (0, .ref (ad 0)), (1, .int (nI h))] → W pp l ee rm_X2_named ss mm aa bl me co ss.heap [] 0 0 (MQ bl (vp_Si (fun z_ => z_ = nmF S (nI h))) aa ss 0 0 (fun _ => False)) (F0 mm 15 ls []) := by
      intro n
      induction n with
      | zero => intro a M hm; exact absurd hm (Nat.not_lt_zero _)
      | succ n ih_15 =>
        intro a M hm hM han ls hl
        refine lv_iload_n hx hb dX2_named_15 rfl (lv_at hl 0 rfl) ?_
        refine lv_aload_n hx hb dX2_named_16 rfl (lv_at hl 2 rfl) ?_
        refine va_get (D := (dC, dI)) (ci := 3) (v := .int (nI (sVn S))) (C := RX2) (T := TX2) (N := 27) hx hb hts hin hown hK hP 0 rfl rfl 7 (by decide) hf_79 (fun _ h9 => h9) rfl dX2_named_17 ?_
        refine f_ige (tgt := 113) hx hb (nI_toInt (by omega)) (nI_toInt (by omega)) dX2_named_20 (by decide) (fun c_2 => ?_) (fun c_2 => ?_)
        · refine lv_iload_n hx hb dX2_named_113 rfl (lv_at hl 1 rfl) ?_
          exact f_ri hx hb hr hlocks (by have e : a = sVn S := (by omega); simp only [nmF, ht]; rw [c_1, if_neg (by decide), hM, e, nm_eq I]) dX2_named_114
        · have hv := I.v (v := a) (by omega)
          refine lv_iconst (v := (nI 0)) hx hb dX2_named_23 (by decide) ?_
          refine lv_istore (lv' := [(4, .int (nI 0)), (3, .int (nI a)), (2, .int (nI M)), (0, .ref (ad 0)), (1, .int (nI h))]) hx hb dX2_named_24 hl (by decide) rfl (fun ls hl => ?_)
          have loop_26 : ∀ (n : Nat) (b : Nat) (M : Nat), sVn S - b < n → M = bitS 8 (fun k => ex a (nmU S h k) || (decide ((sVts S a / 256 % 8) = k) && ex b (nmV S h a))) → b ≤ sVn S → ∀ ls : Array Slot, lv_has ls 6 [(4, .int (nI b)), (3, .int (nI a)), (2, .int (nI M)), (0, .ref (ad 0)), (1, .int (nI h))] → W pp l ee rm_X2_named ss mm aa bl me co ss.heap [] 0 0 (MQ bl (vp_Si (fun z_ => z_ = nmF S (nI h))) aa ss 0 0 (fun _ => False)) (F0 mm 26 ls []) := by
            intro n
            induction n with
            | zero => intro b M hm; exact absurd hm (Nat.not_lt_zero _)
            | succ n ih_26 =>
              intro b M hm hM hbn ls hl
              refine lv_iload hx hb dX2_named_26 (lv_at hl 0 rfl) ?_
              refine lv_aload_n hx hb dX2_named_28 rfl (lv_at hl 3 rfl) ?_
              refine va_get (D := (dC, dI)) (ci := 3) (v := .int (nI (sVn S))) (C := RX2) (T := TX2) (N := 27) hx hb hts hin hown hK hP 0 rfl rfl 7 (by decide) hf_79 (fun _ h9 => h9) rfl dX2_named_29 ?_
              refine f_ige (tgt := 107) hx hb (nI_toInt (by omega)) (nI_toInt (by omega)) dX2_named_32 (by decide) (fun c_3 => ?_) (fun c_3 => ?_)
              · have hbe : b = sVn S := by omega
                have hz : M = bitS 8 (fun k => ex (a + 1) (nmU S h k)) := nk_same hM (fun k _ => by
                  rw [ex, hbe]
                  by_cases hw : sVts S a / 2048 = h
                  · simp [nmU, hw]
                  · have e : ex (sVn S) (nmV S h a) = false := ex_no (fun _ _ => nv_no hw)
                    simp [nmU, e])
                refine lv_iinc (v := (nI (a + 1))) (lv' := [(3, .int (nI (a + 1))), (4, .int (nI b)), (2, .int (nI M)), (0, .ref (ad 0)), (1, .int (nI h))]) hx hb dX2_named_107 hl (k := 1) rfl (nI_add a 1) (by decide) rfl (fun ls hl => ?_)
                refine lv_goto (tgt := 15) hx hb dX2_named_110 (by decide) ?_
                exact ih_15 (a + 1) M (by omega) (hz) (by omega) ls (lv_sub hl [0, 2, 3, 4] rfl)
              · refine lv_aload_n hx hb dX2_named_35 rfl (lv_at hl 3 rfl) ?_
                refine va_get (D := (dC, dI)) (ci := 3) (v := .ref (ad 7)) (C := RX2) (T := TX2) (N := 27) hx hb hts hin hown hK hP 0 rfl rfl 9 (by decide) hf_30 (fun _ h9 => h9) rfl dX2_named_36 ?_
                refine lv_iload_n hx hb dX2_named_39 rfl (lv_at hl 1 rfl) ?_
                refine f_iald hx hb hK hP 7 6 rfl rfl (k := a) (by omega) (by decide) (v := (nI (sVts S a / 2048))) rfl dX2_named_40 ?_
                refine lv_iload_n hx hb dX2_named_41 rfl (lv_at hl 4 rfl) ?_
                refine f_ine (tgt := 107) hx hb (nI_toInt (by omega)) (nI_toInt (by omega)) dX2_named_42 (by decide) (fun c_4 => ?_) (fun c_4 => ?_)
                · have hw : sVts S a / 2048 ≠ h := by omega
                  have hz : M = bitS 8 (fun k => ex (a + 1) (nmU S h k)) := nk_same hM (fun k _ => by
                    have e : ex b (nmV S h a) = false := ex_no (fun _ _ => nv_no hw)
                    simp [ex, nmU, hw, e])
                  refine lv_iinc (v := (nI (a + 1))) (lv' := [(3, .int (nI (a + 1))), (4, .int (nI b)), (2, .int (nI M)), (0, .ref (ad 0)), (1, .int (nI h))]) hx hb dX2_named_107 hl (k := 1) rfl (nI_add a 1) (by decide) rfl (fun ls hl => ?_)
                  refine lv_goto (tgt := 15) hx hb dX2_named_110 (by decide) ?_
                  exact ih_15 (a + 1) M (by omega) (hz) (by omega) ls (lv_sub hl [0, 2, 3, 4] rfl)
                · refine lv_iconst (v := (nI 0)) hx hb dX2_named_45 (by decide) ?_
                  refine lv_istore (lv' := [(5, .int (nI 0)), (4, .int (nI b)), (3, .int (nI a)), (2, .int (nI M)), (0, .ref (ad 0)), (1, .int (nI h))]) hx hb dX2_named_46 hl (by decide) rfl (fun ls hl => ?_)
                  have loop_48 : ∀ (n : Nat) (q : Nat) (M : Nat), 3 - q < n → M = bitS 8 (fun k => ex a (nmU S h k) || (decide ((sVts S a / 256 % 8) = k) && (ex b (nmV S h a) || ex q (fun q => ctT S h q a b)))) → q ≤ 3 → ∀ ls : Array Slot, lv_has ls 6 [(5, .int (nI q)), (4, .int (nI b)), (3, .int (nI a)), (2, .int (nI M)), (0, .ref (ad 0)), (1, .int (nI h))] → W pp l ee rm_X2_named ss mm aa bl me co ss.heap [] 0 0 (MQ bl (vp_Si (fun z_ => z_ = nmF S (nI h))) aa ss 0 0 (fun _ => False)) (F0 mm 48 ls []) := by
                    intro n
                    induction n with
                    | zero => intro q M hm; exact absurd hm (Nat.not_lt_zero _)
                    | succ n ih_48 =>
                      intro q M hm hM hq ls hl
                      refine lv_iload hx hb dX2_named_48 (lv_at hl 0 rfl) ?_
                      refine lv_iconst (v := (nI 3)) hx hb dX2_named_50 (by decide) ?_
                      refine f_ige (tgt := 101) hx hb (nI_toInt (by omega)) (nI_toInt (by omega)) dX2_named_51 (by decide) (fun c_5 => ?_) (fun c_5 => ?_)
                      · have hqe : q = 3 := by omega
                        have hz : M = bitS 8 (fun k => ex a (nmU S h k) || (decide ((sVts S a / 256 % 8) = k) && ex (b + 1) (nmV S h a))) := nk_same hM (fun k _ => by
                          rw [hqe]
                          simp [ex, nmV])
                        refine lv_iinc (v := (nI (b + 1))) (lv' := [(4, .int (nI (b + 1))), (5, .int (nI q)), (3, .int (nI a)), (2, .int (nI M)), (0, .ref (ad 0)), (1, .int (nI h))]) hx hb dX2_named_101 hl (k := 1) rfl (nI_add b 1) (by decide) rfl (fun ls hl => ?_)
                        refine lv_goto (tgt := 26) hx hb dX2_named_104 (by decide) ?_
                        exact ih_26 (b + 1) M (by omega) (hz) (by omega) ls (lv_sub hl [0, 2, 3, 4, 5] rfl)
                      · have hp : 2 ^ (sVts S a / 256 % 8) < 2 ^ 8 := Nat.pow_lt_pow_right (by decide) (by omega)
                        have hM2 : M < 256 := by rw [hM]; exact bitS_lt 8 _
                        have hM3 : M / 2 ^ (sVts S a / 256 % 8) ≤ M := Nat.div_le_self _ _
                        refine lv_iload_n hx hb dX2_named_54 rfl (lv_at hl 3 rfl) ?_
                        refine lv_aload_n hx hb dX2_named_55 rfl (lv_at hl 4 rfl) ?_
                        refine va_get (D := (dC, dI)) (ci := 3) (v := .ref (ad 6)) (C := RX2) (T := TX2) (N := 27) hx hb hts hin hown hK hP 0 rfl rfl 8 (by decide) hf_26 (fun _ h9 => h9) rfl dX2_named_56 ?_
                        refine lv_iload_n hx hb dX2_named_59 rfl (lv_at hl 2 rfl) ?_
                        refine f_iald hx hb hK hP 6 5 rfl rfl (k := a) (by omega) (by decide) (v := (nI (sVts S a / 256 % 8))) rfl dX2_named_60 ?_
                        refine lv_ishr hx hb dX2_named_61 ?_
                        refine f_ti (y := (nI (M / 2 ^ (sVts S a / 256 % 8)))) (f_shrv (by omega) (by omega)) ?_
                        refine lv_iconst (v := (nI 1)) hx hb dX2_named_62 (by decide) ?_
                        refine lv_iand hx hb dX2_named_63 ?_
                        refine f_ti (y := (nI ((M / 2 ^ (sVts S a / 256 % 8)) % 2))) (pk_andN (by omega) 1 (by decide)) ?_
                        refine f_0ne (tgt := 101) hx hb (nI_toInt (by omega)) dX2_named_64 (by decide) (fun c_6 => ?_) (fun c_6 => ?_)
                        · have hbit := f_tb2 M (sVts S a / 256 % 8)
                          have hz : M = bitS 8 (fun k => ex a (nmU S h k) || (decide ((sVts S a / 256 % 8) = k) && ex (b + 1) (nmV S h a))) := nk_same hM (fun k hk8 => by
                            by_cases hkk : (sVts S a / 256 % 8) = k
                            · have e : M.testBit k = true := by
                                rw [hkk] at hbit
                                rw [← Bool.not_eq_false]
                                intro e2
                                rw [e2] at hbit
                                simp at hbit
                                rw [hkk] at c_6
                                omega
                              rw [hM, bitS_tb] at e
                              have e2 : (ex a (nmU S h k) || (ex b (nmV S h a) || ex q (fun q => ctT S h q a b))) = true := by simpa [hk8, hkk] using e
                              have e3 : ex q (fun q => ctT S h q a b) = true → nmV S h a b = true := fun e4 => by
                                obtain ⟨y, hy, hf⟩ := ex_iff.mp e4
                                exact ex_yes y (by omega) hf
                              rw [Bool.or_eq_true, Bool.or_eq_true] at e2
                              rcases e2 with e2 | e2 | e2
                              · simp [ex, hkk, e2]
                              · simp [ex, hkk, e2]
                              · simp [ex, hkk, e2, e3 e2]
                            · simp [hkk])
                          refine lv_iinc (v := (nI (b + 1))) (lv' := [(4, .int (nI (b + 1))), (5, .int (nI q)), (3, .int (nI a)), (2, .int (nI M)), (0, .ref (ad 0)), (1, .int (nI h))]) hx hb dX2_named_101 hl (k := 1) rfl (nI_add b 1) (by decide) rfl (fun ls hl => ?_)
                          refine lv_goto (tgt := 26) hx hb dX2_named_104 (by decide) ?_
                          exact ih_26 (b + 1) M (by omega) (hz) (by omega) ls (lv_sub hl [0, 2, 3, 4, 5] rfl)
                        · refine lv_iload_n hx hb dX2_named_67 rfl (lv_at hl 3 rfl) ?_
                          refine lv_aload_n hx hb dX2_named_68 rfl (lv_at hl 4 rfl) ?_
                          refine lv_iload_n hx hb dX2_named_69 rfl (lv_at hl 5 rfl) ?_
                          refine lv_iload hx hb dX2_named_70 (lv_at hl 0 rfl) ?_
                          refine lv_iload_n hx hb dX2_named_72 rfl (lv_at hl 2 rfl) ?_
                          refine lv_iload hx hb dX2_named_73 (lv_at hl 1 rfl) ?_
                          refine f_cVi (As := [.int (nI h), .int (nI q), .int (nI a), .int (nI b)]) (rest := [.int (nI M)]) ⟨hx, hb, hml, hown, hts⟩ (c_X2_counts l dC dI ad cy S h q a b I (by omega) (by omega) (by omega) (by omega)) (cwV 4 hts gX2_named_X2_counts rfl rfl rfl (by decide +kernel) ⟨Nat.le_of_ble_eq_true rfl, Nat.le_of_ble_eq_true rfl⟩) roB_bl (va_recv hK hP (ci := 3) (q0 := 0) rfl rfl) (roB_at hP hK) rfl hl.1 rfl (Nat.le_of_ble_eq_true rfl) dX2_named_75 ⟨Nat.zero_le _, Nat.zero_le _⟩ ?_
                          refine f_beq (tgt := 92) hx hb dX2_named_78 (by decide) (fun c_7 => ?_) (fun c_7 => ?_)
                          · have hz : M ||| 0 = bitS 8 (fun k => ex a (nmU S h k) || (decide ((sVts S a / 256 % 8) = k) && (ex b (nmV S h a) || ex (q + 1) (fun q => ctT S h q a b)))) := by
                              rw [Nat.or_zero]
                              exact nk_same hM (fun k _ => by simp [ex, c_7])
                            refine lv_iconst (v := (nI 0)) hx hb dX2_named_92 (by decide) ?_
                            refine lv_ior hx hb dX2_named_93 ?_
                            refine f_ti (y := (nI (M ||| 0))) (nx_or _ _) ?_
                            refine lv_istore_n (lv' := [(2, .int (nI (M ||| 0))), (5, .int (nI q)), (4, .int (nI b)), (3, .int (nI a)), (0, .ref (ad 0)), (1, .int (nI h))]) hx hb dX2_named_94 rfl hl (by decide) rfl (fun ls hl => ?_)
                            refine lv_iinc (v := (nI (q + 1))) (lv' := [(5, .int (nI (q + 1))), (2, .int (nI (M ||| 0))), (4, .int (nI b)), (3, .int (nI a)), (0, .ref (ad 0)), (1, .int (nI h))]) hx hb dX2_named_95 hl (k := 1) rfl (nI_add q 1) (by decide) rfl (fun ls hl => ?_)
                            refine lv_goto (tgt := 48) hx hb dX2_named_98 (by decide) ?_
                            exact ih_48 (q + 1) (M ||| 0) (by omega) (hz) (by omega) ls (lv_sub hl [0, 2, 3, 1, 4, 5] rfl)
                          · have hz : M ||| 2 ^ (sVts S a / 256 % 8) = bitS 8 (fun k => ex a (nmU S h k) || (decide ((sVts S a / 256 % 8) = k) && (ex b (nmV S h a) || ex (q + 1) (fun q => ctT S h q a b)))) := nk_add hM (by omega) (fun k _ => by
                              by_cases hkk : (sVts S a / 256 % 8) = k
                              · simp [ex, c_7, hkk]
                              · simp [hkk])
                            refine lv_iconst (v := (nI 1)) hx hb dX2_named_81 (by decide) ?_
                            refine lv_aload_n hx hb dX2_named_82 rfl (lv_at hl 4 rfl) ?_
                            refine va_get (D := (dC, dI)) (ci := 3) (v := .ref (ad 6)) (C := RX2) (T := TX2) (N := 27) hx hb hts hin hown hK hP 0 rfl rfl 8 (by decide) hf_26 (fun _ h9 => h9) rfl dX2_named_83 ?_
                            refine lv_iload_n hx hb dX2_named_86 rfl (lv_at hl 2 rfl) ?_
                            refine f_iald hx hb hK hP 6 5 rfl rfl (k := a) (by omega) (by decide) (v := (nI (sVts S a / 256 % 8))) rfl dX2_named_87 ?_
                            refine lv_ishl hx hb dX2_named_88 ?_
                            refine f_ti (y := (nI (2 ^ (sVts S a / 256 % 8)))) (f_shl1 (by omega)) ?_
                            refine lv_goto (tgt := 93) hx hb dX2_named_89 (by decide) ?_
                            refine lv_ior hx hb dX2_named_93 ?_
                            refine f_ti (y := (nI (M ||| (2 ^ (sVts S a / 256 % 8))))) (nx_or _ _) ?_
                            refine lv_istore_n (lv' := [(2, .int (nI (M ||| (2 ^ (sVts S a / 256 % 8))))), (5, .int (nI q)), (4, .int (nI b)), (3, .int (nI a)), (0, .ref (ad 0)), (1, .int (nI h))]) hx hb dX2_named_94 rfl hl (by decide) rfl (fun ls hl => ?_)
                            refine lv_iinc (v := (nI (q + 1))) (lv' := [(5, .int (nI (q + 1))), (2, .int (nI (M ||| (2 ^ (sVts S a / 256 % 8))))), (4, .int (nI b)), (3, .int (nI a)), (0, .ref (ad 0)), (1, .int (nI h))]) hx hb dX2_named_95 hl (k := 1) rfl (nI_add q 1) (by decide) rfl (fun ls hl => ?_)
                            refine lv_goto (tgt := 48) hx hb dX2_named_98 (by decide) ?_
                            exact ih_48 (q + 1) (M ||| (2 ^ (sVts S a / 256 % 8))) (by omega) (hz) (by omega) ls (lv_sub hl [0, 2, 3, 1, 4, 5] rfl)
                  exact loop_48 (3 - 0 + 1) 0 M (Nat.lt_succ_self _) (nk_same hM (fun k _ => by simp [ex])) (by decide) ls (lv_sub hl [0, 1, 2, 3, 4, 5] rfl)
          exact loop_26 (sVn S - 0 + 1) 0 M (Nat.lt_succ_self _) (nk_same hM (fun k _ => by simp [ex])) (Nat.zero_le _) ls (lv_sub hl [0, 1, 2, 3, 4] rfl)
    exact loop_15 (sVn S - 0 + 1) 0 0 (Nat.lt_succ_self _) (rfl) (Nat.zero_le _) ls (lv_sub hl [0, 1, 2, 3] rfl)
  · refine lv_bipush (v := (-102)) hx hb dX2_named_8 (by decide) ?_
    exact f_ri hx hb hr hlocks (by simp [nmF, c_1]) dX2_named_10
