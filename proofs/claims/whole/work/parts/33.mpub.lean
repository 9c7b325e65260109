abbrev rm_X2_refusal : Room := { frames := 1, cells := 0, slots := 0, locals := 25 }
set_option maxHeartbeats 4000000 in
set_option maxRecDepth 100000 in
theorem c_X2_refusal (l : Launch) (dC : Nat → ClassId) (dI : Nat → Nat → Nat) (ad : Nat → Nat) (cy : Nat → ClassId) (S : St) (x : Int32) (y : Int32) (u : Int32) (t : Int32) (b : Int32) (I : Inv S) : RoI l yX2_refusal wsX2_refusal rm_X2_refusal [.ref (ad 0), .int x, .int y, .int u, .int t, .int b] (mB dC dI ad cy S) (vrF S x y u t b) := by
  refine Ro_start (cc := cX2_refusal) (maxL := 6) (ret := (some .int)) (lv := [(0, .ref (ad 0)), (1, .int x), (2, .int y), (3, .int u), (4, .int t), (5, .int b)]) (by decide) rfl (Nat.le_of_ble_eq_true rfl) rfl ?_
  intro pp ee ss mm aa bl me co hx hb hr hml hts hown hlocks hnm hB ls hl
  obtain ⟨hP, hK⟩ := hB
  have hin : ∀ w ∈ wsX20, w ∈ wsX2_refusal := fun w h => List.mem_cons_of_mem _ (List.mem_append_right _ h)
  have hf_20 := hts (.fieldLink RX2 20 "FaultEvidenceModel" "weights" "[J") (by decide +kernel)
  have hf_82 := hts (.fieldLink RX2 82 "FaultEvidenceModel" "height" "I") (by decide +kernel)
  have hc_136 := hts (.constantLong RX2 136 (7)) (by decide +kernel)
  have hc_138 := hts (.constantLong RX2 138 (9)) (by decide +kernel)
  have I1 := I.n
  refine lv_aload_n hx hb dX2_refusal_0 rfl (lv_at hl 0 rfl) ?_
  refine lv_iload_n hx hb dX2_refusal_1 rfl (lv_at hl 1 rfl) ?_
  refine f_cVi (As := [.int x]) (rest := []) ⟨hx, hb, hml, hown, hts⟩ (c_X2_isNode l dC dI ad cy S x I) (cwV 1 hts gX2_refusal_X2_isNode rfl rfl rfl (by decide +kernel) ⟨Nat.le_of_ble_eq_true rfl, Nat.le_of_ble_eq_true rfl⟩) roB_bl (va_recv hK hP (ci := 3) (q0 := 0) rfl rfl) (roB_at hP hK) rfl hl.1 rfl (Nat.le_of_ble_eq_true rfl) dX2_refusal_2 ⟨Nat.zero_le _, Nat.zero_le _⟩ ?_
  refine f_bne (tgt := 11) hx hb dX2_refusal_5 (by decide) (fun c_1 => ?_) (fun c_1 => ?_)
  · refine lv_iload_n hx hb dX2_refusal_11 rfl (lv_at hl 2 rfl) ?_
    refine lv_iconst (v := (nI 1)) hx hb dX2_refusal_12 (by decide) ?_
    refine f_ilt (tgt := 70) hx hb (rfl) (nI_toInt (by omega)) dX2_refusal_13 (by decide) (fun c_2 => ?_) (fun c_2 => ?_)
    · refine lv_bipush (v := (-102)) hx hb dX2_refusal_70 (by decide) ?_
      exact f_ri hx hb hr hlocks (by have e : (isOp S y && isSy u t b) = false := (by rw [← Bool.not_eq_true]; simp only [isOp, isBg, isSy, Bool.and_eq_true, decide_eq_true_eq]; omega); simp [vrF, e, c_1]) dX2_refusal_72
    · refine lv_iload_n hx hb dX2_refusal_16 rfl (lv_at hl 2 rfl) ?_
      refine lv_aload_n hx hb dX2_refusal_17 rfl (lv_at hl 0 rfl) ?_
      refine va_get (D := (dC, dI)) (ci := 3) (v := .int (nI (sHh S))) (C := RX2) (T := TX2) (N := 27) hx hb hts hin hown hK hP 0 rfl rfl 4 (by decide) hf_82 (fun _ h9 => h9) rfl dX2_refusal_18 ?_
      refine f_ieq (tgt := 34) hx hb (rfl) (nI_toInt (by omega)) dX2_refusal_21 (by decide) (fun c_3 => ?_) (fun c_3 => ?_)
      · refine lv_iload_n hx hb dX2_refusal_34 rfl (lv_at hl 3 rfl) ?_
        refine lv_i2l (v := (Int32.toInt64 u)) hx hb dX2_refusal_35 rfl ?_
        refine lv_lconst (v := (lN 0)) hx hb dX2_refusal_36 (by decide) ?_
        refine lv_ldc2 (v := 7) hx hb hown hc_136 dX2_refusal_37 ?_
        refine f_tl (y := (lN 7)) (by decide) ?_
        refine f_cSi (As := [.long (Int32.toInt64 u), .long (lN 0), .long (lN 7)]) (rest := []) ⟨hx, hb, hml, hown, hts⟩ (c_X2_in l (Int32.toInt64 u) (lN 0) (lN 7)) (va_cwS 3 hts gX2_refusal_X2_in rfl rfl rfl (by decide +kernel) ⟨Nat.le_of_ble_eq_true rfl, Nat.le_of_ble_eq_true rfl⟩) noB_bl noB_at rfl hl.1 rfl (Nat.le_of_ble_eq_true rfl) dX2_refusal_40 ⟨Nat.zero_le _, Nat.zero_le _⟩ ?_
        refine f_beq (tgt := 70) hx hb dX2_refusal_43 (by decide) (fun c_4 => ?_) (fun c_4 => ?_)
        · rw [in_i2l _ (by decide) (by decide), ← Bool.not_eq_true] at c_4
          simp only [Bool.and_eq_true, decide_eq_true_eq] at c_4
          refine lv_bipush (v := (-102)) hx hb dX2_refusal_70 (by decide) ?_
          exact f_ri hx hb hr hlocks (by have e : (isOp S y && isSy u t b) = false := (by rw [← Bool.not_eq_true]; simp only [isOp, isBg, isSy, Bool.and_eq_true, decide_eq_true_eq]; omega); simp [vrF, e, c_1]) dX2_refusal_72
        · rw [in_i2l _ (by decide) (by decide)] at c_4
          simp only [Bool.and_eq_true, decide_eq_true_eq] at c_4
          refine lv_iload hx hb dX2_refusal_46 (lv_at hl 4 rfl) ?_
          refine lv_i2l (v := (Int32.toInt64 t)) hx hb dX2_refusal_48 rfl ?_
          refine lv_lconst (v := (lN 0)) hx hb dX2_refusal_49 (by decide) ?_
          refine lv_lconst (v := (lN 1)) hx hb dX2_refusal_50 (by decide) ?_
          refine f_cSi (As := [.long (Int32.toInt64 t), .long (lN 0), .long (lN 1)]) (rest := []) ⟨hx, hb, hml, hown, hts⟩ (c_X2_in l (Int32.toInt64 t) (lN 0) (lN 1)) (va_cwS 3 hts gX2_refusal_X2_in rfl rfl rfl (by decide +kernel) ⟨Nat.le_of_ble_eq_true rfl, Nat.le_of_ble_eq_true rfl⟩) noB_bl noB_at rfl hl.1 rfl (Nat.le_of_ble_eq_true rfl) dX2_refusal_51 ⟨Nat.zero_le _, Nat.zero_le _⟩ ?_
          refine f_beq (tgt := 70) hx hb dX2_refusal_54 (by decide) (fun c_5 => ?_) (fun c_5 => ?_)
          · rw [in_i2l _ (by decide) (by decide), ← Bool.not_eq_true] at c_5
            simp only [Bool.and_eq_true, decide_eq_true_eq] at c_5
            refine lv_bipush (v := (-102)) hx hb dX2_refusal_70 (by decide) ?_
            exact f_ri hx hb hr hlocks (by have e : (isOp S y && isSy u t b) = false := (by rw [← Bool.not_eq_true]; simp only [isOp, isBg, isSy, Bool.and_eq_true, decide_eq_true_eq]; omega); simp [vrF, e, c_1]) dX2_refusal_72
          · rw [in_i2l _ (by decide) (by decide)] at c_5
            simp only [Bool.and_eq_true, decide_eq_true_eq] at c_5
            refine lv_iload hx hb dX2_refusal_57 (lv_at hl 5 rfl) ?_
            refine lv_i2l (v := (Int32.toInt64 b)) hx hb dX2_refusal_59 rfl ?_
            refine lv_lconst (v := (lN 0)) hx hb dX2_refusal_60 (by decide) ?_
            refine lv_ldc2 (v := 9) hx hb hown hc_138 dX2_refusal_61 ?_
            refine f_tl (y := (lN 9)) (by decide) ?_
            refine f_cSi (As := [.long (Int32.toInt64 b), .long (lN 0), .long (lN 9)]) (rest := []) ⟨hx, hb, hml, hown, hts⟩ (c_X2_in l (Int32.toInt64 b) (lN 0) (lN 9)) (va_cwS 3 hts gX2_refusal_X2_in rfl rfl rfl (by decide +kernel) ⟨Nat.le_of_ble_eq_true rfl, Nat.le_of_ble_eq_true rfl⟩) noB_bl noB_at rfl hl.1 rfl (Nat.le_of_ble_eq_true rfl) dX2_refusal_64 ⟨Nat.zero_le _, Nat.zero_le _⟩ ?_
            refine f_bne (tgt := 73) hx hb dX2_refusal_67 (by decide) (fun c_6 => ?_) (fun c_6 => ?_)
            · rw [in_i2l _ (by decide) (by decide)] at c_6
              simp only [Bool.and_eq_true, decide_eq_true_eq] at c_6
              have d1 := c_1
              simp only [isNd, Bool.and_eq_true, decide_eq_true_eq] at d1
              have hop : (isOp S y && isSy u t b) = true := by
                simp only [isOp, isBg, isSy, Bool.and_eq_true, decide_eq_true_eq]; omega
              obtain ⟨k, hk, rfl⟩ := in_nI (n := sNn S) (x := x) (by omega) (by omega)
              obtain ⟨h, hh, rfl⟩ := in_nI (n := sHh S + 1) (x := y) (by omega) (by omega)
              have e1 := nI_toInt (n := k) (by omega)
              have e2 := nI_toInt (n := h) (by omega)
              have I4 := I.w (8 * h + k)
              refine lv_aload_n hx hb dX2_refusal_73 rfl (lv_at hl 0 rfl) ?_
              refine va_get (D := (dC, dI)) (ci := 3) (v := .ref (ad 4)) (C := RX2) (T := TX2) (N := 27) hx hb hts hin hown hK hP 0 rfl rfl 5 (by decide) hf_20 (fun _ h9 => h9) rfl dX2_refusal_74 ?_
              refine lv_bipush (v := (nI 8)) hx hb dX2_refusal_77 (by decide) ?_
              refine lv_iload_n hx hb dX2_refusal_79 rfl (lv_at hl 2 rfl) ?_
              refine lv_imul hx hb dX2_refusal_80 ?_
              refine f_ti (y := (nI (8 * h))) (pk_mul _ _) ?_
              refine lv_iload_n hx hb dX2_refusal_81 rfl (lv_at hl 1 rfl) ?_
              refine lv_iadd hx hb dX2_refusal_82 ?_
              refine f_ti (y := (nI ((8 * h) + k))) (nI_add _ _) ?_
              refine f_lald hx hb hK hP 4 3 rfl rfl (k := ((8 * h) + k)) (by omega) (by decide) (v := (lN (sWts S ((8 * h) + k)))) rfl dX2_refusal_83 ?_
              refine lv_lconst (v := (lN 0)) hx hb dX2_refusal_84 (by decide) ?_
              refine f_lne (tgt := 94) hx hb (pk_lT (by omega)) (pk_lT (by omega)) dX2_refusal_85 dX2_refusal_86 (by decide) (fun c_7 => ?_) (fun c_7 => ?_)
              · refine lv_iconst (v := (nI 0)) hx hb dX2_refusal_94 (by decide) ?_
                exact f_ri hx hb hr hlocks (by simp only [vrF, e1, e2, Int.toNat_natCast, c_1, hop]; rw [if_neg (by decide), if_neg (by decide), show h * 8 + k = 8 * h + k by omega]; first | (rw [if_pos (by omega)]) | (rw [if_neg (by omega)])) dX2_refusal_95
              · refine lv_bipush (v := (-103)) hx hb dX2_refusal_89 (by decide) ?_
                refine lv_goto (tgt := 95) hx hb dX2_refusal_91 (by decide) ?_
                exact f_ri hx hb hr hlocks (by simp only [vrF, e1, e2, Int.toNat_natCast, c_1, hop]; rw [if_neg (by decide), if_neg (by decide), show h * 8 + k = 8 * h + k by omega]; first | (rw [if_pos (by omega)]) | (rw [if_neg (by omega)])) dX2_refusal_95
            · rw [in_i2l _ (by decide) (by decide), ← Bool.not_eq_true] at c_6
              simp only [Bool.and_eq_true, decide_eq_true_eq] at c_6
              refine lv_bipush (v := (-102)) hx hb dX2_refusal_70 (by decide) ?_
              exact f_ri hx hb hr hlocks (by have e : (isOp S y && isSy u t b) = false := (by rw [← Bool.not_eq_true]; simp only [isOp, isBg, isSy, Bool.and_eq_true, decide_eq_true_eq]; omega); simp [vrF, e, c_1]) dX2_refusal_72
      · refine lv_iload_n hx hb dX2_refusal_24 rfl (lv_at hl 2 rfl) ?_
        refine lv_aload_n hx hb dX2_refusal_25 rfl (lv_at hl 0 rfl) ?_
        refine va_get (D := (dC, dI)) (ci := 3) (v := .int (nI (sHh S))) (C := RX2) (T := TX2) (N := 27) hx hb hts hin hown hK hP 0 rfl rfl 4 (by decide) hf_82 (fun _ h9 => h9) rfl dX2_refusal_26 ?_
        refine lv_iconst (v := (nI 1)) hx hb dX2_refusal_29 (by decide) ?_
        refine lv_isub hx hb dX2_refusal_30 ?_
        refine f_ine (tgt := 70) hx hb (rfl) (pk_sub_toInt (by omega) (by omega)) dX2_refusal_31 (by decide) (fun c_8 => ?_) (fun c_8 => ?_)
        · refine lv_bipush (v := (-102)) hx hb dX2_refusal_70 (by decide) ?_
          exact f_ri hx hb hr hlocks (by have e : (isOp S y && isSy u t b) = false := (by rw [← Bool.not_eq_true]; simp only [isOp, isBg, isSy, Bool.and_eq_true, decide_eq_true_eq]; omega); simp [vrF, e, c_1]) dX2_refusal_72
        · refine lv_iload_n hx hb dX2_refusal_34 rfl (lv_at hl 3 rfl) ?_
          refine lv_i2l (v := (Int32.toInt64 u)) hx hb dX2_refusal_35 rfl ?_
          refine lv_lconst (v := (lN 0)) hx hb dX2_refusal_36 (by decide) ?_
          refine lv_ldc2 (v := 7) hx hb hown hc_136 dX2_refusal_37 ?_
          refine f_tl (y := (lN 7)) (by decide) ?_
          refine f_cSi (As := [.long (Int32.toInt64 u), .long (lN 0), .long (lN 7)]) (rest := []) ⟨hx, hb, hml, hown, hts⟩ (c_X2_in l (Int32.toInt64 u) (lN 0) (lN 7)) (va_cwS 3 hts gX2_refusal_X2_in rfl rfl rfl (by decide +kernel) ⟨Nat.le_of_ble_eq_true rfl, Nat.le_of_ble_eq_true rfl⟩) noB_bl noB_at rfl hl.1 rfl (Nat.le_of_ble_eq_true rfl) dX2_refusal_40 ⟨Nat.zero_le _, Nat.zero_le _⟩ ?_
          refine f_beq (tgt := 70) hx hb dX2_refusal_43 (by decide) (fun c_9 => ?_) (fun c_9 => ?_)
          · rw [in_i2l _ (by decide) (by decide), ← Bool.not_eq_true] at c_9
            simp only [Bool.and_eq_true, decide_eq_true_eq] at c_9
            refine lv_bipush (v := (-102)) hx hb dX2_refusal_70 (by decide) ?_
            exact f_ri hx hb hr hlocks (by have e : (isOp S y && isSy u t b) = false := (by rw [← Bool.not_eq_true]; simp only [isOp, isBg, isSy, Bool.and_eq_true, decide_eq_true_eq]; omega); simp [vrF, e, c_1]) dX2_refusal_72
          · rw [in_i2l _ (by decide) (by decide)] at c_9
            simp only [Bool.and_eq_true, decide_eq_true_eq] at c_9
            refine lv_iload hx hb dX2_refusal_46 (lv_at hl 4 rfl) ?_
            refine lv_i2l (v := (Int32.toInt64 t)) hx hb dX2_refusal_48 rfl ?_
            refine lv_lconst (v := (lN 0)) hx hb dX2_refusal_49 (by decide) ?_
            refine lv_lconst (v := (lN 1)) hx hb dX2_refusal_50 (by decide) ?_
            refine f_cSi (As := [.long (Int32.toInt64 t), .long (lN 0), .long (lN 1)]) (rest := []) ⟨hx, hb, hml, hown, hts⟩ (c_X2_in l (Int32.toInt64 t) (lN 0) (lN 1)) (va_cwS 3 hts gX2_refusal_X2_in rfl rfl rfl (by decide +kernel) ⟨Nat.le_of_ble_eq_true rfl, Nat.le_of_ble_eq_true rfl⟩) noB_bl noB_at rfl hl.1 rfl (Nat.le_of_ble_eq_true rfl) dX2_refusal_51 ⟨Nat.zero_le _, Nat.zero_le _⟩ ?_
            refine f_beq (tgt := 70) hx hb dX2_refusal_54 (by decide) (fun c_10 => ?_) (fun c_10 => ?_)
            · rw [in_i2l _ (by decide) (by decide), ← Bool.not_eq_true] at c_10
              simp only [Bool.and_eq_true, decide_eq_true_eq] at c_10
              refine lv_bipush (v := (-102)) hx hb dX2_refusal_70 (by decide) ?_
              exact f_ri hx hb hr hlocks (by have e : (isOp S y && isSy u t b) = false := (by rw [← Bool.not_eq_true]; simp only [isOp, isBg, isSy, Bool.and_eq_true, decide_eq_true_eq]; omega); simp [vrF, e, c_1]) dX2_refusal_72
            · rw [in_i2l _ (by decide) (by decide)] at c_10
              simp only [Bool.and_eq_true, decide_eq_true_eq] at c_10
              refine lv_iload hx hb dX2_refusal_57 (lv_at hl 5 rfl) ?_
              refine lv_i2l (v := (Int32.toInt64 b)) hx hb dX2_refusal_59 rfl ?_
              refine lv_lconst (v := (lN 0)) hx hb dX2_refusal_60 (by decide) ?_
              refine lv_ldc2 (v := 9) hx hb hown hc_138 dX2_refusal_61 ?_
              refine f_tl (y := (lN 9)) (by decide) ?_
              refine f_cSi (As := [.long (Int32.toInt64 b), .long (lN 0), .long (lN 9)]) (rest := []) ⟨hx, hb, hml, hown, hts⟩ (c_X2_in l (Int32.toInt64 b) (lN 0) (lN 9)) (va_cwS 3 hts gX2_refusal_X2_in rfl rfl rfl (by decide +kernel) ⟨Nat.le_of_ble_eq_true rfl, Nat.le_of_ble_eq_true rfl⟩) noB_bl noB_at rfl hl.1 rfl (Nat.le_of_ble_eq_true rfl) dX2_refusal_64 ⟨Nat.zero_le _, Nat.zero_le _⟩ ?_
              refine f_bne (tgt := 73) hx hb dX2_refusal_67 (by decide) (fun c_11 => ?_) (fun c_11 => ?_)
              · rw [in_i2l _ (by decide) (by decide)] at c_11
                simp only [Bool.and_eq_true, decide_eq_true_eq] at c_11
                have d1 := c_1
                simp only [isNd, Bool.and_eq_true, decide_eq_true_eq] at d1
                have hop : (isOp S y && isSy u t b) = true := by
                  simp only [isOp, isBg, isSy, Bool.and_eq_true, decide_eq_true_eq]; omega
                obtain ⟨k, hk, rfl⟩ := in_nI (n := sNn S) (x := x) (by omega) (by omega)
                obtain ⟨h, hh, rfl⟩ := in_nI (n := sHh S + 1) (x := y) (by omega) (by omega)
                have e1 := nI_toInt (n := k) (by omega)
                have e2 := nI_toInt (n := h) (by omega)
                have I4 := I.w (8 * h + k)
                refine lv_aload_n hx hb dX2_refusal_73 rfl (lv_at hl 0 rfl) ?_
                refine va_get (D := (dC, dI)) (ci := 3) (v := .ref (ad 4)) (C := RX2) (T := TX2) (N := 27) hx hb hts hin hown hK hP 0 rfl rfl 5 (by decide) hf_20 (fun _ h9 => h9) rfl dX2_refusal_74 ?_
                refine lv_bipush (v := (nI 8)) hx hb dX2_refusal_77 (by decide) ?_
                refine lv_iload_n hx hb dX2_refusal_79 rfl (lv_at hl 2 rfl) ?_
                refine lv_imul hx hb dX2_refusal_80 ?_
                refine f_ti (y := (nI (8 * h))) (pk_mul _ _) ?_
                refine lv_iload_n hx hb dX2_refusal_81 rfl (lv_at hl 1 rfl) ?_
                refine lv_iadd hx hb dX2_refusal_82 ?_
                refine f_ti (y := (nI ((8 * h) + k))) (nI_add _ _) ?_
                refine f_lald hx hb hK hP 4 3 rfl rfl (k := ((8 * h) + k)) (by omega) (by decide) (v := (lN (sWts S ((8 * h) + k)))) rfl dX2_refusal_83 ?_
                refine lv_lconst (v := (lN 0)) hx hb dX2_refusal_84 (by decide) ?_
                refine f_lne (tgt := 94) hx hb (pk_lT (by omega)) (pk_lT (by omega)) dX2_refusal_85 dX2_refusal_86 (by decide) (fun c_12 => ?_) (fun c_12 => ?_)
                · refine lv_iconst (v := (nI 0)) hx hb dX2_refusal_94 (by decide) ?_
                  exact f_ri hx hb hr hlocks (by simp only [vrF, e1, e2, Int.toNat_natCast, c_1, hop]; rw [if_neg (by decide), if_neg (by decide), show h * 8 + k = 8 * h + k by omega]; first | (rw [if_pos (by omega)]) | (rw [if_neg (by omega)])) dX2_refusal_95
                · refine lv_bipush (v := (-103)) hx hb dX2_refusal_89 (by decide) ?_
                  refine lv_goto (tgt := 95) hx hb dX2_refusal_91 (by decide) ?_
                  exact f_ri hx hb hr hlocks (by simp only [vrF, e1, e2, Int.toNat_natCast, c_1, hop]; rw [if_neg (by decide), if_neg (by decide), show h * 8 + k = 8 * h + k by omega]; first | (rw [if_pos (by omega)]) | (rw [if_neg (by omega)])) dX2_refusal_95
              · rw [in_i2l _ (by decide) (by decide), ← Bool.not_eq_true] at c_11
                simp only [Bool.and_eq_true, decide_eq_true_eq] at c_11
                refine lv_bipush (v := (-102)) hx hb dX2_refusal_70 (by decide) ?_
                exact f_ri hx hb hr hlocks (by have e : (isOp S y && isSy u t b) = false := (by rw [← Bool.not_eq_true]; simp only [isOp, isBg, isSy, Bool.and_eq_true, decide_eq_true_eq]; omega); simp [vrF, e, c_1]) dX2_refusal_72
  · refine lv_bipush (v := (-101)) hx hb dX2_refusal_8 (by decide) ?_
    exact f_ri hx hb hr hlocks (by simp [vrF, c_1]) dX2_refusal_10

abbrev rm_X2_find : Room := { frames := 0, cells := 0, slots := 0, locals := 0 }
set_option maxHeartbeats 4000000 in
set_option maxRecDepth 100000 in
theorem c_X2_find (l : Launch) (dC : Nat → ClassId) (dI : Nat → Nat → Nat) (ad : Nat → Nat) (cy : Nat → ClassId) (S : St) (k : Nat) (h : Nat) (r : Nat) (t : Nat) (b : Nat) (I : Inv S) (hk : k < 8) (hh : h ≤ 40) (hr1 : r < 8) (ht : t < 2) (hb1 : b < 10) : RoI l yX2_find wsX2_find rm_X2_find [.ref (ad 0), .int (nI k), .int (nI h), .int (nI r), .int (nI t), .int (nI b)] (mB dC dI ad cy S) (numF S (vC k h r t b)) := by
  refine Ro_start (cc := cX2_find) (maxL := 7) (ret := (some .int)) (lv := [(0, .ref (ad 0)), (1, .int (nI k)), (2, .int (nI h)), (3, .int (nI r)), (4, .int (nI t)), (5, .int (nI b))]) (by decide) rfl (Nat.le_of_ble_eq_true rfl) rfl ?_
  intro pp ee ss mm aa bl me co hx hb hr hml hts hown hlocks hnm hB ls hl
  obtain ⟨hP, hK⟩ := hB
  have hin : ∀ w ∈ wsX20, w ∈ wsX2_find := fun w h => List.mem_cons_of_mem _ (List.mem_append_right _ h)
  have hf_26 := hts (.fieldLink RX2 26 "FaultEvidenceModel" "who" "[I") (by decide +kernel)
  have hf_30 := hts (.fieldLink RX2 30 "FaultEvidenceModel" "when" "[I") (by decide +kernel)
  have hf_33 := hts (.fieldLink RX2 33 "FaultEvidenceModel" "rounds" "[I") (by decide +kernel)
  have hf_36 := hts (.fieldLink RX2 36 "FaultEvidenceModel" "steps" "[I") (by decide +kernel)
  have hf_39 := hts (.fieldLink RX2 39 "FaultEvidenceModel" "blocks" "[I") (by decide +kernel)
  have hf_79 := hts (.fieldLink RX2 79 "FaultEvidenceModel" "votes" "I") (by decide +kernel)
  have I1 := I.n
  refine lv_iconst (v := (nI 0)) hx hb dX2_find_0 (by decide) ?_
  refine lv_istore (lv' := [(6, .int (nI 0)), (0, .ref (ad 0)), (1, .int (nI k)), (2, .int (nI h)), (3, .int (nI r)), (4, .int (nI t)), (5, .int (nI b))]) hx hb dX2_find_1 hl (by decide) rfl (fun ls hl => ?_)
  have loop_3 : ∀ (n : Nat) (v : Nat), sVn S - v < n → (∀ i, i < v → numT S (vC k h r t b) i = false) → v ≤ sVn S → ∀ ls : Array Slot, lv_has ls 7 [(6, .int (nI v)), (0, .ref (ad 0)), (1, .int (nI k)), (2, .int (nI h)), (3, .int (nI r)), (4, .int (nI t)), (5, .int (nI b))] → W pp l ee rm_X2_find ss mm aa bl me co ss.heap [] 0 0 (MQ bl (vp_Si (fun z_ => z_ = numF S (vC k h r t b))) aa ss 0 0 (fun _ => False)) (F0 mm 3 ls []) := by
    intro n
    induction n with
    | zero => intro v hm; exact absurd hm (Nat.not_lt_zero _)
    | succ n ih_3 =>
      intro v hm hno hvn ls hl
      refine lv_iload hx hb dX2_find_3 (lv_at hl 0 rfl) ?_
      refine lv_aload_n hx hb dX2_find_5 rfl (lv_at hl 1 rfl) ?_
      refine va_get (D := (dC, dI)) (ci := 3) (v := .int (nI (sVn S))) (C := RX2) (T := TX2) (N := 27) hx hb hts hin hown hK hP 0 rfl rfl 7 (by decide) hf_79 (fun _ h9 => h9) rfl dX2_find_6 ?_
      refine f_ige (tgt := 78) hx hb (nI_toInt (by omega)) (nI_toInt (by omega)) dX2_find_9 (by decide) (fun c_1 => ?_) (fun c_1 => ?_)
      · refine lv_iconst (v := (-1)) hx hb dX2_find_78 (by decide) ?_
        exact f_ri hx hb hr hlocks (by unfold numF; rw [fi_no (fun j hj => hno j (by omega)), if_neg (by omega)]) dX2_find_79
      · have hv := I.v (v := v) (by omega)
        refine lv_aload_n hx hb dX2_find_12 rfl (lv_at hl 1 rfl) ?_
        refine va_get (D := (dC, dI)) (ci := 3) (v := .ref (ad 6)) (C := RX2) (T := TX2) (N := 27) hx hb hts hin hown hK hP 0 rfl rfl 8 (by decide) hf_26 (fun _ h9 => h9) rfl dX2_find_13 ?_
        refine lv_iload hx hb dX2_find_16 (lv_at hl 0 rfl) ?_
        refine f_iald hx hb hK hP 6 5 rfl rfl (k := v) (by omega) (by decide) (v := (nI (sVts S v / 256 % 8))) rfl dX2_find_18 ?_
        refine lv_iload_n hx hb dX2_find_19 rfl (lv_at hl 2 rfl) ?_
        refine f_ine (tgt := 72) hx hb (nI_toInt (by omega)) (nI_toInt (by omega)) dX2_find_20 (by decide) (fun c_2 => ?_) (fun c_2 => ?_)
        · refine lv_iinc (v := (nI (v + 1))) (lv' := [(6, .int (nI (v + 1))), (0, .ref (ad 0)), (1, .int (nI k)), (2, .int (nI h)), (3, .int (nI r)), (4, .int (nI t)), (5, .int (nI b))]) hx hb dX2_find_72 hl (k := 0) rfl (nI_add v 1) (by decide) rfl (fun ls hl => ?_)
          refine lv_goto (tgt := 3) hx hb dX2_find_75 (by decide) ?_
          exact ih_3 (v + 1) (by omega) (lt_s hno (by unfold numT vC; rw [decide_eq_false_iff_not]; omega)) (by omega) ls (lv_sub hl [0, 1, 2, 3, 4, 5, 6] rfl)
        · refine lv_aload_n hx hb dX2_find_23 rfl (lv_at hl 1 rfl) ?_
          refine va_get (D := (dC, dI)) (ci := 3) (v := .ref (ad 7)) (C := RX2) (T := TX2) (N := 27) hx hb hts hin hown hK hP 0 rfl rfl 9 (by decide) hf_30 (fun _ h9 => h9) rfl dX2_find_24 ?_
          refine lv_iload hx hb dX2_find_27 (lv_at hl 0 rfl) ?_
          refine f_iald hx hb hK hP 7 6 rfl rfl (k := v) (by omega) (by decide) (v := (nI (sVts S v / 2048))) rfl dX2_find_29 ?_
          refine lv_iload_n hx hb dX2_find_30 rfl (lv_at hl 3 rfl) ?_
          refine f_ine (tgt := 72) hx hb (nI_toInt (by omega)) (nI_toInt (by omega)) dX2_find_31 (by decide) (fun c_3 => ?_) (fun c_3 => ?_)
          · refine lv_iinc (v := (nI (v + 1))) (lv' := [(6, .int (nI (v + 1))), (0, .ref (ad 0)), (1, .int (nI k)), (2, .int (nI h)), (3, .int (nI r)), (4, .int (nI t)), (5, .int (nI b))]) hx hb dX2_find_72 hl (k := 0) rfl (nI_add v 1) (by decide) rfl (fun ls hl => ?_)
            refine lv_goto (tgt := 3) hx hb dX2_find_75 (by decide) ?_
            exact ih_3 (v + 1) (by omega) (lt_s hno (by unfold numT vC; rw [decide_eq_false_iff_not]; omega)) (by omega) ls (lv_sub hl [0, 1, 2, 3, 4, 5, 6] rfl)
          · refine lv_aload_n hx hb dX2_find_34 rfl (lv_at hl 1 rfl) ?_
            refine va_get (D := (dC, dI)) (ci := 3) (v := .ref (ad 8)) (C := RX2) (T := TX2) (N := 27) hx hb hts hin hown hK hP 0 rfl rfl 10 (by decide) hf_33 (fun _ h9 => h9) rfl dX2_find_35 ?_
            refine lv_iload hx hb dX2_find_38 (lv_at hl 0 rfl) ?_
            refine f_iald hx hb hK hP 8 7 rfl rfl (k := v) (by omega) (by decide) (v := (nI (sVts S v / 32 % 8))) rfl dX2_find_40 ?_
            refine lv_iload_n hx hb dX2_find_41 rfl (lv_at hl 4 rfl) ?_
            refine f_ine (tgt := 72) hx hb (nI_toInt (by omega)) (nI_toInt (by omega)) dX2_find_42 (by decide) (fun c_4 => ?_) (fun c_4 => ?_)
            · refine lv_iinc (v := (nI (v + 1))) (lv' := [(6, .int (nI (v + 1))), (0, .ref (ad 0)), (1, .int (nI k)), (2, .int (nI h)), (3, .int (nI r)), (4, .int (nI t)), (5, .int (nI b))]) hx hb dX2_find_72 hl (k := 0) rfl (nI_add v 1) (by decide) rfl (fun ls hl => ?_)
              refine lv_goto (tgt := 3) hx hb dX2_find_75 (by decide) ?_
              exact ih_3 (v + 1) (by omega) (lt_s hno (by unfold numT vC; rw [decide_eq_false_iff_not]; omega)) (by omega) ls (lv_sub hl [0, 1, 2, 3, 4, 5, 6] rfl)
            · refine lv_aload_n hx hb dX2_find_45 rfl (lv_at hl 1 rfl) ?_
              refine va_get (D := (dC, dI)) (ci := 3) (v := .ref (ad 9)) (C := RX2) (T := TX2) (N := 27) hx hb hts hin hown hK hP 0 rfl rfl 11 (by decide) hf_36 (fun _ h9 => h9) rfl dX2_find_46 ?_
              refine lv_iload hx hb dX2_find_49 (lv_at hl 0 rfl) ?_
              refine f_iald hx hb hK hP 9 8 rfl rfl (k := v) (by omega) (by decide) (v := (nI (sVts S v / 16 % 2))) rfl dX2_find_51 ?_
              refine lv_iload hx hb dX2_find_52 (lv_at hl 5 rfl) ?_
              refine f_ine (tgt := 72) hx hb (nI_toInt (by omega)) (nI_toInt (by omega)) dX2_find_54 (by decide) (fun c_5 => ?_) (fun c_5 => ?_)
              · refine lv_iinc (v := (nI (v + 1))) (lv' := [(6, .int (nI (v + 1))), (0, .ref (ad 0)), (1, .int (nI k)), (2, .int (nI h)), (3, .int (nI r)), (4, .int (nI t)), (5, .int (nI b))]) hx hb dX2_find_72 hl (k := 0) rfl (nI_add v 1) (by decide) rfl (fun ls hl => ?_)
                refine lv_goto (tgt := 3) hx hb dX2_find_75 (by decide) ?_
                exact ih_3 (v + 1) (by omega) (lt_s hno (by unfold numT vC; rw [decide_eq_false_iff_not]; omega)) (by omega) ls (lv_sub hl [0, 1, 2, 3, 4, 5, 6] rfl)
              · refine lv_aload_n hx hb dX2_find_57 rfl (lv_at hl 1 rfl) ?_
                refine va_get (D := (dC, dI)) (ci := 3) (v := .ref (ad 10)) (C := RX2) (T := TX2) (N := 27) hx hb hts hin hown hK hP 0 rfl rfl 12 (by decide) hf_39 (fun _ h9 => h9) rfl dX2_find_58 ?_
                refine lv_iload hx hb dX2_find_61 (lv_at hl 0 rfl) ?_
                refine f_iald hx hb hK hP 10 9 rfl rfl (k := v) (by omega) (by decide) (v := (nI (sVts S v % 16))) rfl dX2_find_63 ?_
                refine lv_iload hx hb dX2_find_64 (lv_at hl 6 rfl) ?_
                refine f_ine (tgt := 72) hx hb (nI_toInt (by omega)) (nI_toInt (by omega)) dX2_find_66 (by decide) (fun c_6 => ?_) (fun c_6 => ?_)
                · refine lv_iinc (v := (nI (v + 1))) (lv' := [(6, .int (nI (v + 1))), (0, .ref (ad 0)), (1, .int (nI k)), (2, .int (nI h)), (3, .int (nI r)), (4, .int (nI t)), (5, .int (nI b))]) hx hb dX2_find_72 hl (k := 0) rfl (nI_add v 1) (by decide) rfl (fun ls hl => ?_)
                  refine lv_goto (tgt := 3) hx hb dX2_find_75 (by decide) ?_
                  exact ih_3 (v + 1) (by omega) (lt_s hno (by unfold numT vC; rw [decide_eq_false_iff_not]; omega)) (by omega) ls (lv_sub hl [0, 1, 2, 3, 4, 5, 6] rfl)
                · refine lv_iload hx hb dX2_find_69 (lv_at hl 0 rfl) ?_
                  exact f_ri hx hb hr hlocks (by have e : sVts S v = vC k h r t b := (by unfold vC; omega); unfold numF; rw [fi_at hno (by simp [numT, e]) (by omega), if_pos (by omega)]) dX2_find_71
  exact loop_3 (sVn S - 0 + 1) 0 (Nat.lt_succ_self _) (fun i hi => absurd hi (Nat.not_lt_zero _)) (Nat.zero_le _) ls (lv_sub hl [0, 1, 2, 3, 4, 5, 6] rfl)

abbrev rm_X2_saidBy : Room := { frames := 1, cells := 0, slots := 0, locals := 23 }
set_option maxHeartbeats 4000000 in
set_option maxRecDepth 100000 in
theorem c_X2_saidBy (l : Launch) (dC : Nat → ClassId) (dI : Nat → Nat → Nat) (ad : Nat → Nat) (cy : Nat → ClassId) (S : St) (k : Nat) (h : Nat) (r : Nat) (t : Nat) (I : Inv S) (hk : k < 8) (hh : h ≤ 40) (hr1 : r < 8) (ht : t < 2) : RoI l yX2_saidBy wsX2_saidBy rm_X2_saidBy [.ref (ad 0), .int (nI k), .int (nI h), .int (nI r), .int (nI t)] (mB dC dI ad cy S) (nI (sbF S k h r t)) := by
  refine Ro_start (cc := cX2_saidBy) (maxL := 7) (ret := (some .int)) (lv := [(0, .ref (ad 0)), (1, .int (nI k)), (2, .int (nI h)), (3, .int (nI r)), (4, .int (nI t))]) (by decide) rfl (Nat.le_of_ble_eq_true rfl) rfl ?_
  intro pp ee ss mm aa bl me co hx hb hr hml hts hown hlocks hnm hB ls hl
  obtain ⟨hP, hK⟩ := hB
  have hin : ∀ w ∈ wsX20, w ∈ wsX2_saidBy := fun w h => List.mem_cons_of_mem _ (List.mem_append_right _ h)
  have hf_42 := hts (.fieldLink RX2 42 "FaultEvidenceModel" "saying" "[I") (by decide +kernel)
  have I1 := I.n
  refine lv_iconst (v := (nI 0)) hx hb dX2_saidBy_0 (by decide) ?_
  refine lv_istore (lv' := [(5, .int (nI 0)), (0, .ref (ad 0)), (1, .int (nI k)), (2, .int (nI h)), (3, .int (nI r)), (4, .int (nI t))]) hx hb dX2_saidBy_1 hl (by decide) rfl (fun ls hl => ?_)
  refine lv_iconst (v := (nI 0)) hx hb dX2_saidBy_3 (by decide) ?_
  refine lv_istore (lv' := [(6, .int (nI 0)), (5, .int (nI 0)), (0, .ref (ad 0)), (1, .int (nI k)), (2, .int (nI h)), (3, .int (nI r)), (4, .int (nI t))]) hx hb dX2_saidBy_4 hl (by decide) rfl (fun ls hl => ?_)
  have loop_6 : ∀ (n : Nat) (b : Nat) (m : Nat), 10 - b < n → m = bitS b (fun b => hasV S (vC k h r t b)) → b ≤ 10 → ∀ ls : Array Slot, lv_has ls 7 [(6, .int (nI b)), (5, .int (nI m)), (0, .ref (ad 0)), (1, .int (nI k)), (2, .int (nI h)), (3, .int (nI r)), (4, .int (nI t))] → W pp l ee rm_X2_saidBy ss mm aa bl me co ss.heap [] 0 0 (MQ bl (vp_Si (fun z_ => z_ = nI (sbF S k h r t))) aa ss 0 0 (fun _ => False)) (F0 mm 6 ls []) := by
    intro n
    induction n with
    | zero => intro b m hm; exact absurd hm (Nat.not_lt_zero _)
    | succ n ih_6 =>
      intro b m hm hm1 hb1 ls hl
      refine lv_iload hx hb dX2_saidBy_6 (lv_at hl 0 rfl) ?_
      refine lv_bipush (v := (nI 10)) hx hb dX2_saidBy_8 (by decide) ?_
      refine f_ige (tgt := 45) hx hb (nI_toInt (by omega)) (nI_toInt (by omega)) dX2_saidBy_10 (by decide) (fun c_1 => ?_) (fun c_1 => ?_)
      · refine lv_iload hx hb dX2_saidBy_45 (lv_at hl 1 rfl) ?_
        exact f_ri hx hb hr hlocks (by have e : b = 10 := (by omega); rw [hm1, e]; rfl) dX2_saidBy_47
      · refine lv_iload hx hb dX2_saidBy_13 (lv_at hl 1 rfl) ?_
        refine lv_aload_n hx hb dX2_saidBy_15 rfl (lv_at hl 2 rfl) ?_
        refine va_get (D := (dC, dI)) (ci := 3) (v := .ref (ad 11)) (C := RX2) (T := TX2) (N := 27) hx hb hts hin hown hK hP 0 rfl rfl 13 (by decide) hf_42 (fun _ h9 => h9) rfl dX2_saidBy_16 ?_
        refine lv_iload_n hx hb dX2_saidBy_19 rfl (lv_at hl 4 rfl) ?_
        refine lv_iload_n hx hb dX2_saidBy_20 rfl (lv_at hl 5 rfl) ?_
        refine lv_iload hx hb dX2_saidBy_21 (lv_at hl 6 rfl) ?_
        refine lv_iload hx hb dX2_saidBy_23 (lv_at hl 0 rfl) ?_
        refine f_cSi (As := [.int (nI h), .int (nI r), .int (nI t), .int (nI b)]) (rest := [.ref (ad 11), .int (nI m)]) ⟨hx, hb, hml, hown, hts⟩ (c_X2_place l h r t b) (va_cwS 4 hts gX2_saidBy_X2_place rfl rfl rfl (by decide +kernel) ⟨Nat.le_of_ble_eq_true rfl, Nat.le_of_ble_eq_true rfl⟩) noB_bl noB_at rfl hl.1 rfl (Nat.le_of_ble_eq_true rfl) dX2_saidBy_25 ⟨Nat.zero_le _, Nat.zero_le _⟩ ?_
        refine f_iald hx hb hK hP 11 10 rfl rfl (k := (((8 * h + r) * 2 + t) * 10 + b)) (by omega) (by decide) (v := (nI (syF S (((8 * h + r) * 2 + t) * 10 + b)))) rfl dX2_saidBy_28 ?_
        have hy := sy_lt S (((8 * h + r) * 2 + t) * 10 + b)
        have hyd : syF S (((8 * h + r) * 2 + t) * 10 + b) / 2 ^ k ≤ syF S (((8 * h + r) * 2 + t) * 10 + b) := Nat.div_le_self _ _
        refine lv_iload_n hx hb dX2_saidBy_29 rfl (lv_at hl 3 rfl) ?_
        refine lv_ishr hx hb dX2_saidBy_30 ?_
        refine f_ti (y := (nI (syF S (((8 * h + r) * 2 + t) * 10 + b) / 2 ^ k))) (f_shrv (by omega) (by omega)) ?_
        refine lv_iconst (v := (nI 1)) hx hb dX2_saidBy_31 (by decide) ?_
        refine lv_iand hx hb dX2_saidBy_32 ?_
        refine f_ti (y := (nI ((syF S (((8 * h + r) * 2 + t) * 10 + b) / 2 ^ k) % 2))) (pk_andN (by omega) 1 (by decide)) ?_
        refine lv_iload hx hb dX2_saidBy_33 (lv_at hl 0 rfl) ?_
        refine lv_ishl hx hb dX2_saidBy_35 ?_
        refine f_ti (y := (nI ((syF S (((8 * h + r) * 2 + t) * 10 + b) / 2 ^ k % 2) * 2 ^ b))) (f_shlv (by omega) (by omega)) ?_
        have hm2 : m < 2 ^ b := by rw [hm1]; exact bitS_lt b _
        have hz : (syF S (((8 * h + r) * 2 + t) * 10 + b) / 2 ^ k % 2) * 2 ^ b = if hasV S (vC k h r t b) = true then 2 ^ b else 0 := by
          rw [f_tb2, sy_at S hr1 ht (by omega), bitS_tb]
          by_cases hv : hasV S (vC k h r t b) = true
          · simp [hv, hk]
          · simp [hv]
        refine lv_ior hx hb dX2_saidBy_36 ?_
        refine f_ti (y := (nI (m + (syF S (((8 * h + r) * 2 + t) * 10 + b) / 2 ^ k % 2) * 2 ^ b))) (f_or2 hm2) ?_
        refine lv_istore (lv' := [(5, .int (nI (m + (syF S (((8 * h + r) * 2 + t) * 10 + b) / 2 ^ k % 2) * 2 ^ b))), (6, .int (nI b)), (0, .ref (ad 0)), (1, .int (nI k)), (2, .int (nI h)), (3, .int (nI r)), (4, .int (nI t))]) hx hb dX2_saidBy_37 hl (by decide) rfl (fun ls hl => ?_)
        refine lv_iinc (v := (nI (b + 1))) (lv' := [(6, .int (nI (b + 1))), (5, .int (nI (m + (syF S (((8 * h + r) * 2 + t) * 10 + b) / 2 ^ k % 2) * 2 ^ b))), (0, .ref (ad 0)), (1, .int (nI k)), (2, .int (nI h)), (3, .int (nI r)), (4, .int (nI t))]) hx hb dX2_saidBy_39 hl (k := 1) rfl (nI_add b 1) (by decide) rfl (fun ls hl => ?_)
        refine lv_goto (tgt := 6) hx hb dX2_saidBy_42 (by decide) ?_
        exact ih_6 (b + 1) (m + (syF S (((8 * h + r) * 2 + t) * 10 + b) / 2 ^ k % 2) * 2 ^ b) (by omega) (by rw [bitS_succ, ← hm1, hz]) (by omega) ls (lv_sub hl [0, 1, 2, 3, 4, 5, 6] rfl)
  exact loop_6 (10 - 0 + 1) 0 0 (Nat.lt_succ_self _) (rfl) (by decide) ls (lv_sub hl [0, 1, 2, 3, 4, 5, 6] rfl)

abbrev rm_X2_said : Room := { frames := 1, cells := 0, slots := 0, locals := 21 }
set_option maxHeartbeats 4000000 in
set_option maxRecDepth 100000 in
theorem c_X2_said (l : Launch) (dC : Nat → ClassId) (dI : Nat → Nat → Nat) (ad : Nat → Nat) (cy : Nat → ClassId) (S : St) (x : Int32) (y : Int32) (I : Inv S) : RoI l yX2_said wsX2_said rm_X2_said [.ref (ad 0), .int x, .int y] (mB dC dI ad cy S) (sdF S x y) := by
  refine Ro_start (cc := cX2_said) (maxL := 3) (ret := (some .int)) (lv := [(0, .ref (ad 0)), (1, .int x), (2, .int y)]) (by decide) rfl (Nat.le_of_ble_eq_true rfl) rfl ?_
  intro pp ee ss mm aa bl me co hx hb hr hml hts hown hlocks hnm hB ls hl
  obtain ⟨hP, hK⟩ := hB
  have hin : ∀ w ∈ wsX20, w ∈ wsX2_said := fun w h => List.mem_cons_of_mem _ (List.mem_append_right _ h)
  have hf_26 := hts (.fieldLink RX2 26 "FaultEvidenceModel" "who" "[I") (by decide +kernel)
  have hf_30 := hts (.fieldLink RX2 30 "FaultEvidenceModel" "when" "[I") (by decide +kernel)
  have hf_33 := hts (.fieldLink RX2 33 "FaultEvidenceModel" "rounds" "[I") (by decide +kernel)
  have hf_36 := hts (.fieldLink RX2 36 "FaultEvidenceModel" "steps" "[I") (by decide +kernel)
  have hf_39 := hts (.fieldLink RX2 39 "FaultEvidenceModel" "blocks" "[I") (by decide +kernel)
  have I1 := I.n
  refine lv_aload_n hx hb dX2_said_0 rfl (lv_at hl 0 rfl) ?_
  refine lv_iload_n hx hb dX2_said_1 rfl (lv_at hl 1 rfl) ?_
  refine f_cVi (As := [.int x]) (rest := []) ⟨hx, hb, hml, hown, hts⟩ (c_X2_isVote l dC dI ad cy S x I) (cwV 1 hts gX2_said_X2_isVote rfl rfl rfl (by decide +kernel) ⟨Nat.le_of_ble_eq_true rfl, Nat.le_of_ble_eq_true rfl⟩) roB_bl (va_recv hK hP (ci := 3) (q0 := 0) rfl rfl) (roB_at hP hK) rfl hl.1 rfl (Nat.le_of_ble_eq_true rfl) dX2_said_2 ⟨Nat.zero_le _, Nat.zero_le _⟩ ?_
  refine f_bne (tgt := 11) hx hb dX2_said_5 (by decide) (fun c_1 => ?_) (fun c_1 => ?_)
  · obtain ⟨v, hv, rfl⟩ := vt_of c_1
    have hw := I.v hv
    have ht := tn_nI (n := v) (by omega)
    have c0 := c_1
    refine lv_iload_n hx hb dX2_said_11 rfl (lv_at hl 2 rfl) ?_
    by_cases c_2 : Int32.toInt y = 0
    · refine lv_tableIn (tgt := 48) hx hb dX2_said_12 (by omega) (by omega) (off := 36) (by rw [c_2]; rfl) (by decide) ?_
      refine lv_aload_n hx hb dX2_said_48 rfl (lv_at hl 0 rfl) ?_
      refine va_get (D := (dC, dI)) (ci := 3) (v := .ref (ad 6)) (C := RX2) (T := TX2) (N := 27) hx hb hts hin hown hK hP 0 rfl rfl 8 (by decide) hf_26 (fun _ h9 => h9) rfl dX2_said_49 ?_
      refine lv_iload_n hx hb dX2_said_52 rfl (lv_at hl 1 rfl) ?_
      refine f_iald hx hb hK hP 6 5 rfl rfl (k := v) (by omega) (by decide) (v := (nI (sVts S v / 256 % 8))) rfl dX2_said_53 ?_
      exact f_ri hx hb hr hlocks (by simp [sdF, ht, *]) dX2_said_54
    by_cases c_3 : Int32.toInt y = 1
    · refine lv_tableIn (tgt := 55) hx hb dX2_said_12 (by omega) (by omega) (off := 43) (by rw [c_3]; rfl) (by decide) ?_
      refine lv_aload_n hx hb dX2_said_55 rfl (lv_at hl 0 rfl) ?_
      refine va_get (D := (dC, dI)) (ci := 3) (v := .ref (ad 7)) (C := RX2) (T := TX2) (N := 27) hx hb hts hin hown hK hP 0 rfl rfl 9 (by decide) hf_30 (fun _ h9 => h9) rfl dX2_said_56 ?_
      refine lv_iload_n hx hb dX2_said_59 rfl (lv_at hl 1 rfl) ?_
      refine f_iald hx hb hK hP 7 6 rfl rfl (k := v) (by omega) (by decide) (v := (nI (sVts S v / 2048))) rfl dX2_said_60 ?_
      exact f_ri hx hb hr hlocks (by simp [sdF, ht, *]) dX2_said_61
    by_cases c_4 : Int32.toInt y = 2
    · refine lv_tableIn (tgt := 62) hx hb dX2_said_12 (by omega) (by omega) (off := 50) (by rw [c_4]; rfl) (by decide) ?_
      refine lv_aload_n hx hb dX2_said_62 rfl (lv_at hl 0 rfl) ?_
      refine va_get (D := (dC, dI)) (ci := 3) (v := .ref (ad 8)) (C := RX2) (T := TX2) (N := 27) hx hb hts hin hown hK hP 0 rfl rfl 10 (by decide) hf_33 (fun _ h9 => h9) rfl dX2_said_63 ?_
      refine lv_iload_n hx hb dX2_said_66 rfl (lv_at hl 1 rfl) ?_
      refine f_iald hx hb hK hP 8 7 rfl rfl (k := v) (by omega) (by decide) (v := (nI (sVts S v / 32 % 8))) rfl dX2_said_67 ?_
      exact f_ri hx hb hr hlocks (by simp [sdF, ht, *]) dX2_said_68
    by_cases c_5 : Int32.toInt y = 3
    · refine lv_tableIn (tgt := 69) hx hb dX2_said_12 (by omega) (by omega) (off := 57) (by rw [c_5]; rfl) (by decide) ?_
      refine lv_aload_n hx hb dX2_said_69 rfl (lv_at hl 0 rfl) ?_
      refine va_get (D := (dC, dI)) (ci := 3) (v := .ref (ad 9)) (C := RX2) (T := TX2) (N := 27) hx hb hts hin hown hK hP 0 rfl rfl 11 (by decide) hf_36 (fun _ h9 => h9) rfl dX2_said_70 ?_
      refine lv_iload_n hx hb dX2_said_73 rfl (lv_at hl 1 rfl) ?_
      refine f_iald hx hb hK hP 9 8 rfl rfl (k := v) (by omega) (by decide) (v := (nI (sVts S v / 16 % 2))) rfl dX2_said_74 ?_
      exact f_ri hx hb hr hlocks (by simp [sdF, ht, *]) dX2_said_75
    by_cases c_6 : Int32.toInt y = 4
    · refine lv_tableIn (tgt := 76) hx hb dX2_said_12 (by omega) (by omega) (off := 64) (by rw [c_6]; rfl) (by decide) ?_
      refine lv_aload_n hx hb dX2_said_76 rfl (lv_at hl 0 rfl) ?_
      refine va_get (D := (dC, dI)) (ci := 3) (v := .ref (ad 10)) (C := RX2) (T := TX2) (N := 27) hx hb hts hin hown hK hP 0 rfl rfl 12 (by decide) hf_39 (fun _ h9 => h9) rfl dX2_said_77 ?_
      refine lv_iload_n hx hb dX2_said_80 rfl (lv_at hl 1 rfl) ?_
      refine f_iald hx hb hK hP 10 9 rfl rfl (k := v) (by omega) (by decide) (v := (nI (sVts S v % 16))) rfl dX2_said_81 ?_
      exact f_ri hx hb hr hlocks (by simp [sdF, ht, *]) dX2_said_82
    refine lv_tableOut (tgt := 83) hx hb dX2_said_12 (by omega) (by decide) ?_
    refine lv_bipush (v := (-102)) hx hb dX2_said_83 (by decide) ?_
    exact f_ri hx hb hr hlocks (by simp [sdF, ht, *]) dX2_said_85
  · refine lv_bipush (v := (-101)) hx hb dX2_said_8 (by decide) ?_
    exact f_ri hx hb hr hlocks (by simp [sdF, c_1]) dX2_said_10

abbrev rm_X2_weight : Room := { frames := 1, cells := 0, slots := 0, locals := 21 }
set_option maxHeartbeats 4000000 in
set_option maxRecDepth 100000 in
theorem c_X2_weight (l : Launch) (dC : Nat → ClassId) (dI : Nat → Nat → Nat) (ad : Nat → Nat) (cy : Nat → ClassId) (S : St) (x : Int32) (y : Int32) (I : Inv S) : RoL l yX2_weight wsX2_weight rm_X2_weight [.ref (ad 0), .int x, .int y] (mB dC dI ad cy S) (wtF S x y) := by
  refine Ro_start (cc := cX2_weight) (maxL := 3) (ret := (some .long)) (lv := [(0, .ref (ad 0)), (1, .int x), (2, .int y)]) (by decide) rfl (Nat.le_of_ble_eq_true rfl) rfl ?_
  intro pp ee ss mm aa bl me co hx hb hr hml hts hown hlocks hnm hB ls hl
  obtain ⟨hP, hK⟩ := hB
  have hin : ∀ w ∈ wsX20, w ∈ wsX2_weight := fun w h => List.mem_cons_of_mem _ (List.mem_append_right _ h)
  have hf_20 := hts (.fieldLink RX2 20 "FaultEvidenceModel" "weights" "[J") (by decide +kernel)
  have hf_23 := hts (.fieldLink RX2 23 "FaultEvidenceModel" "totals" "[J") (by decide +kernel)
  have hc_124 := hts (.constantLong RX2 124 (-101)) (by decide +kernel)
  have hc_126 := hts (.constantLong RX2 126 (-102)) (by decide +kernel)
  have I1 := I.n
  refine lv_iload_n hx hb dX2_weight_0 rfl (lv_at hl 2 rfl) ?_
  refine lv_iconst (v := (-1)) hx hb dX2_weight_1 (by decide) ?_
  refine f_ieq (tgt := 17) hx hb (rfl) ((by decide : ((-1) : Int32).toInt = -1)) dX2_weight_2 (by decide) (fun c_1 => ?_) (fun c_1 => ?_)
  · have hnn : isNN S y = true := by simp [isNN]; omega
    refine lv_aload_n hx hb dX2_weight_17 rfl (lv_at hl 0 rfl) ?_
    refine lv_iload_n hx hb dX2_weight_18 rfl (lv_at hl 1 rfl) ?_
    refine f_cVi (As := [.int x]) (rest := []) ⟨hx, hb, hml, hown, hts⟩ (c_X2_isHeight l dC dI ad cy S x I) (cwV 1 hts gX2_weight_X2_isHeight rfl rfl rfl (by decide +kernel) ⟨Nat.le_of_ble_eq_true rfl, Nat.le_of_ble_eq_true rfl⟩) roB_bl (va_recv hK hP (ci := 3) (q0 := 0) rfl rfl) (roB_at hP hK) rfl hl.1 rfl (Nat.le_of_ble_eq_true rfl) dX2_weight_19 ⟨Nat.zero_le _, Nat.zero_le _⟩ ?_
    refine f_bne (tgt := 29) hx hb dX2_weight_22 (by decide) (fun c_2 => ?_) (fun c_2 => ?_)
    · obtain ⟨h, h1, h2, rfl⟩ := bg_of c_2
      have ht := tn_nI (n := h) (by omega)
      refine lv_iload_n hx hb dX2_weight_29 rfl (lv_at hl 2 rfl) ?_
      refine lv_iconst (v := (-1)) hx hb dX2_weight_30 (by decide) ?_
      refine f_ine (tgt := 43) hx hb (rfl) ((by decide : ((-1) : Int32).toInt = -1)) dX2_weight_31 (by decide) (fun c_3 => ?_) (fun c_3 => ?_)
      · obtain ⟨k, hk, rfl⟩ : ∃ k : Nat, k < sNn S ∧ y = nI k := by
          have d := hnn
          simp only [isNN, Bool.or_eq_true, decide_eq_true_eq] at d
          exact nd_of (d.resolve_left (by omega))
        have hu := tn_nI (n := k) (by omega)
        have hu2 := nI_toInt (n := k) (by omega)
        refine lv_aload_n hx hb dX2_weight_43 rfl (lv_at hl 0 rfl) ?_
        refine va_get (D := (dC, dI)) (ci := 3) (v := .ref (ad 4)) (C := RX2) (T := TX2) (N := 27) hx hb hts hin hown hK hP 0 rfl rfl 5 (by decide) hf_20 (fun _ h9 => h9) rfl dX2_weight_44 ?_
        refine lv_bipush (v := (nI 8)) hx hb dX2_weight_47 (by decide) ?_
        refine lv_iload_n hx hb dX2_weight_49 rfl (lv_at hl 1 rfl) ?_
        refine lv_imul hx hb dX2_weight_50 ?_
        refine f_ti (y := (nI (8 * h))) (pk_mul _ _) ?_
        refine lv_iload_n hx hb dX2_weight_51 rfl (lv_at hl 2 rfl) ?_
        refine lv_iadd hx hb dX2_weight_52 ?_
        refine f_ti (y := (nI ((8 * h) + k))) (nI_add _ _) ?_
        refine f_lald hx hb hK hP 4 3 rfl rfl (k := ((8 * h) + k)) (by omega) (by decide) (v := (lN (sWts S ((8 * h) + k)))) rfl dX2_weight_53 ?_
        exact f_rl hx hb hr hlocks (by first | (exfalso; omega) | skip; simp only [wtF, hnn, c_2]; first | (rw [if_neg (by decide), if_neg (by decide), if_pos (by omega), ht]) | (rw [if_neg (by decide), if_neg (by decide), if_neg (by omega), ht, hu, Nat.mul_comm])) dX2_weight_54
      · refine lv_aload_n hx hb dX2_weight_34 rfl (lv_at hl 0 rfl) ?_
        refine va_get (D := (dC, dI)) (ci := 3) (v := .ref (ad 5)) (C := RX2) (T := TX2) (N := 27) hx hb hts hin hown hK hP 0 rfl rfl 6 (by decide) hf_23 (fun _ h9 => h9) rfl dX2_weight_35 ?_
        refine lv_iload_n hx hb dX2_weight_38 rfl (lv_at hl 1 rfl) ?_
        refine f_lald hx hb hK hP 5 4 rfl rfl (k := h) (by omega) (by decide) (v := (lN (sTot S h))) rfl dX2_weight_39 ?_
        refine lv_goto (tgt := 54) hx hb dX2_weight_40 (by decide) ?_
        exact f_rl hx hb hr hlocks (by first | (exfalso; omega) | skip; simp only [wtF, hnn, c_2]; first | (rw [if_neg (by decide), if_neg (by decide), if_pos (by omega), ht]) | (rw [if_neg (by decide), if_neg (by decide), if_neg (by omega), ht, hu, Nat.mul_comm])) dX2_weight_54
    · refine lv_ldc2 (v := -102) hx hb hown hc_126 dX2_weight_25 ?_
      exact f_rl hx hb hr hlocks (by simp [wtF, hnn, c_2]) dX2_weight_28
  · refine lv_aload_n hx hb dX2_weight_5 rfl (lv_at hl 0 rfl) ?_
    refine lv_iload_n hx hb dX2_weight_6 rfl (lv_at hl 2 rfl) ?_
    refine f_cVi (As := [.int y]) (rest := []) ⟨hx, hb, hml, hown, hts⟩ (c_X2_isNode l dC dI ad cy S y I) (cwV 1 hts gX2_weight_X2_isNode rfl rfl rfl (by decide +kernel) ⟨Nat.le_of_ble_eq_true rfl, Nat.le_of_ble_eq_true rfl⟩) roB_bl (va_recv hK hP (ci := 3) (q0 := 0) rfl rfl) (roB_at hP hK) rfl hl.1 rfl (Nat.le_of_ble_eq_true rfl) dX2_weight_7 ⟨Nat.zero_le _, Nat.zero_le _⟩ ?_
    refine f_bne (tgt := 17) hx hb dX2_weight_10 (by decide) (fun c_4 => ?_) (fun c_4 => ?_)
    · have hnn : isNN S y = true := by simp [isNN, c_4]
      refine lv_aload_n hx hb dX2_weight_17 rfl (lv_at hl 0 rfl) ?_
      refine lv_iload_n hx hb dX2_weight_18 rfl (lv_at hl 1 rfl) ?_
      refine f_cVi (As := [.int x]) (rest := []) ⟨hx, hb, hml, hown, hts⟩ (c_X2_isHeight l dC dI ad cy S x I) (cwV 1 hts gX2_weight_X2_isHeight rfl rfl rfl (by decide +kernel) ⟨Nat.le_of_ble_eq_true rfl, Nat.le_of_ble_eq_true rfl⟩) roB_bl (va_recv hK hP (ci := 3) (q0 := 0) rfl rfl) (roB_at hP hK) rfl hl.1 rfl (Nat.le_of_ble_eq_true rfl) dX2_weight_19 ⟨Nat.zero_le _, Nat.zero_le _⟩ ?_
      refine f_bne (tgt := 29) hx hb dX2_weight_22 (by decide) (fun c_5 => ?_) (fun c_5 => ?_)
      · obtain ⟨h, h1, h2, rfl⟩ := bg_of c_5
        have ht := tn_nI (n := h) (by omega)
        refine lv_iload_n hx hb dX2_weight_29 rfl (lv_at hl 2 rfl) ?_
        refine lv_iconst (v := (-1)) hx hb dX2_weight_30 (by decide) ?_
        refine f_ine (tgt := 43) hx hb (rfl) ((by decide : ((-1) : Int32).toInt = -1)) dX2_weight_31 (by decide) (fun c_6 => ?_) (fun c_6 => ?_)
        · obtain ⟨k, hk, rfl⟩ : ∃ k : Nat, k < sNn S ∧ y = nI k := by
            have d := hnn
            simp only [isNN, Bool.or_eq_true, decide_eq_true_eq] at d
            exact nd_of (d.resolve_left (by omega))
          have hu := tn_nI (n := k) (by omega)
          have hu2 := nI_toInt (n := k) (by omega)
          refine lv_aload_n hx hb dX2_weight_43 rfl (lv_at hl 0 rfl) ?_
          refine va_get (D := (dC, dI)) (ci := 3) (v := .ref (ad 4)) (C := RX2) (T := TX2) (N := 27) hx hb hts hin hown hK hP 0 rfl rfl 5 (by decide) hf_20 (fun _ h9 => h9) rfl dX2_weight_44 ?_
          refine lv_bipush (v := (nI 8)) hx hb dX2_weight_47 (by decide) ?_
          refine lv_iload_n hx hb dX2_weight_49 rfl (lv_at hl 1 rfl) ?_
          refine lv_imul hx hb dX2_weight_50 ?_
          refine f_ti (y := (nI (8 * h))) (pk_mul _ _) ?_
          refine lv_iload_n hx hb dX2_weight_51 rfl (lv_at hl 2 rfl) ?_
          refine lv_iadd hx hb dX2_weight_52 ?_
          refine f_ti (y := (nI ((8 * h) + k))) (nI_add _ _) ?_
          refine f_lald hx hb hK hP 4 3 rfl rfl (k := ((8 * h) + k)) (by omega) (by decide) (v := (lN (sWts S ((8 * h) + k)))) rfl dX2_weight_53 ?_
          exact f_rl hx hb hr hlocks (by first | (exfalso; omega) | skip; simp only [wtF, hnn, c_4, c_5]; first | (rw [if_neg (by decide), if_neg (by decide), if_pos (by omega), ht]) | (rw [if_neg (by decide), if_neg (by decide), if_neg (by omega), ht, hu, Nat.mul_comm])) dX2_weight_54
        · refine lv_aload_n hx hb dX2_weight_34 rfl (lv_at hl 0 rfl) ?_
          refine va_get (D := (dC, dI)) (ci := 3) (v := .ref (ad 5)) (C := RX2) (T := TX2) (N := 27) hx hb hts hin hown hK hP 0 rfl rfl 6 (by decide) hf_23 (fun _ h9 => h9) rfl dX2_weight_35 ?_
          refine lv_iload_n hx hb dX2_weight_38 rfl (lv_at hl 1 rfl) ?_
          refine f_lald hx hb hK hP 5 4 rfl rfl (k := h) (by omega) (by decide) (v := (lN (sTot S h))) rfl dX2_weight_39 ?_
          refine lv_goto (tgt := 54) hx hb dX2_weight_40 (by decide) ?_
          exact f_rl hx hb hr hlocks (by first | (exfalso; omega) | skip; simp only [wtF, hnn, c_4, c_5]; first | (rw [if_neg (by decide), if_neg (by decide), if_pos (by omega), ht]) | (rw [if_neg (by decide), if_neg (by decide), if_neg (by omega), ht, hu, Nat.mul_comm])) dX2_weight_54
      · refine lv_ldc2 (v := -102) hx hb hown hc_126 dX2_weight_25 ?_
        exact f_rl hx hb hr hlocks (by simp [wtF, hnn, c_4, c_5]) dX2_weight_28
    · refine lv_ldc2 (v := -101) hx hb hown hc_124 dX2_weight_13 ?_
      exact f_rl hx hb hr hlocks (by have e : ¬ y.toInt = -1 := (by omega); simp [wtF, isNN, e, c_4]) dX2_weight_16

abbrev rm_X2_backed : Room := { frames := 1, cells := 0, slots := 0, locals := 25 }
set_option maxHeartbeats 4000000 in
set_option maxRecDepth 100000 in
theorem c_X2_backed (l : Launch) (dC : Nat → ClassId) (dI : Nat → Nat → Nat) (ad : Nat → Nat) (cy : Nat → ClassId) (S : St) (x : Int32) (u : Int32) (t : Int32) (b : Int32) (I : Inv S) : RoL l yX2_backed wsX2_backed rm_X2_backed [.ref (ad 0), .int x, .int u, .int t, .int b] (mB dC dI ad cy S) (bdF S x u t b) := by
  refine Ro_start (cc := cX2_backed) (maxL := 5) (ret := (some .long)) (lv := [(0, .ref (ad 0)), (1, .int x), (2, .int u), (3, .int t), (4, .int b)]) (by decide) rfl (Nat.le_of_ble_eq_true rfl) rfl ?_
  intro pp ee ss mm aa bl me co hx hb hr hml hts hown hlocks hnm hB ls hl
  obtain ⟨hP, hK⟩ := hB
  have hin : ∀ w ∈ wsX20, w ∈ wsX2_backed := fun w h => List.mem_cons_of_mem _ (List.mem_append_right _ h)
  have hf_42 := hts (.fieldLink RX2 42 "FaultEvidenceModel" "saying" "[I") (by decide +kernel)
  have hc_126 := hts (.constantLong RX2 126 (-102)) (by decide +kernel)
  have hc_136 := hts (.constantLong RX2 136 (7)) (by decide +kernel)
  have hc_138 := hts (.constantLong RX2 138 (9)) (by decide +kernel)
  have I1 := I.n
  refine lv_aload_n hx hb dX2_backed_0 rfl (lv_at hl 0 rfl) ?_
  refine lv_iload_n hx hb dX2_backed_1 rfl (lv_at hl 1 rfl) ?_
  refine f_cVi (As := [.int x]) (rest := []) ⟨hx, hb, hml, hown, hts⟩ (c_X2_isHeight l dC dI ad cy S x I) (cwV 1 hts gX2_backed_X2_isHeight rfl rfl rfl (by decide +kernel) ⟨Nat.le_of_ble_eq_true rfl, Nat.le_of_ble_eq_true rfl⟩) roB_bl (va_recv hK hP (ci := 3) (q0 := 0) rfl rfl) (roB_at hP hK) rfl hl.1 rfl (Nat.le_of_ble_eq_true rfl) dX2_backed_2 ⟨Nat.zero_le _, Nat.zero_le _⟩ ?_
  refine f_beq (tgt := 43) hx hb dX2_backed_5 (by decide) (fun c_1 => ?_) (fun c_1 => ?_)
  · refine lv_ldc2 (v := -102) hx hb hown hc_126 dX2_backed_43 ?_
    exact f_rl hx hb hr hlocks (by first | (simp [bdF, c_1]; done) | (have e : isSy u t b = false := (by rw [← Bool.not_eq_true]; simp only [isSy, Bool.and_eq_true, decide_eq_true_eq]; omega); simp [bdF, e])) dX2_backed_46
  · refine lv_iload_n hx hb dX2_backed_8 rfl (lv_at hl 2 rfl) ?_
    refine lv_i2l (v := (Int32.toInt64 u)) hx hb dX2_backed_9 rfl ?_
    refine lv_lconst (v := (lN 0)) hx hb dX2_backed_10 (by decide) ?_
    refine lv_ldc2 (v := 7) hx hb hown hc_136 dX2_backed_11 ?_
    refine f_tl (y := (lN 7)) (by decide) ?_
    refine f_cSi (As := [.long (Int32.toInt64 u), .long (lN 0), .long (lN 7)]) (rest := []) ⟨hx, hb, hml, hown, hts⟩ (c_X2_in l (Int32.toInt64 u) (lN 0) (lN 7)) (va_cwS 3 hts gX2_backed_X2_in rfl rfl rfl (by decide +kernel) ⟨Nat.le_of_ble_eq_true rfl, Nat.le_of_ble_eq_true rfl⟩) noB_bl noB_at rfl hl.1 rfl (Nat.le_of_ble_eq_true rfl) dX2_backed_14 ⟨Nat.zero_le _, Nat.zero_le _⟩ ?_
    refine f_beq (tgt := 43) hx hb dX2_backed_17 (by decide) (fun c_2 => ?_) (fun c_2 => ?_)
    · rw [in_i2l _ (by decide) (by decide), ← Bool.not_eq_true] at c_2
      simp only [Bool.and_eq_true, decide_eq_true_eq] at c_2
      refine lv_ldc2 (v := -102) hx hb hown hc_126 dX2_backed_43 ?_
      exact f_rl hx hb hr hlocks (by first | (simp [bdF, c_1]; done) | (have e : isSy u t b = false := (by rw [← Bool.not_eq_true]; simp only [isSy, Bool.and_eq_true, decide_eq_true_eq]; omega); simp [bdF, e])) dX2_backed_46
    · rw [in_i2l _ (by decide) (by decide)] at c_2
      simp only [Bool.and_eq_true, decide_eq_true_eq] at c_2
      refine lv_iload_n hx hb dX2_backed_20 rfl (lv_at hl 3 rfl) ?_
      refine lv_i2l (v := (Int32.toInt64 t)) hx hb dX2_backed_21 rfl ?_
      refine lv_lconst (v := (lN 0)) hx hb dX2_backed_22 (by decide) ?_
      refine lv_lconst (v := (lN 1)) hx hb dX2_backed_23 (by decide) ?_
      refine f_cSi (As := [.long (Int32.toInt64 t), .long (lN 0), .long (lN 1)]) (rest := []) ⟨hx, hb, hml, hown, hts⟩ (c_X2_in l (Int32.toInt64 t) (lN 0) (lN 1)) (va_cwS 3 hts gX2_backed_X2_in rfl rfl rfl (by decide +kernel) ⟨Nat.le_of_ble_eq_true rfl, Nat.le_of_ble_eq_true rfl⟩) noB_bl noB_at rfl hl.1 rfl (Nat.le_of_ble_eq_true rfl) dX2_backed_24 ⟨Nat.zero_le _, Nat.zero_le _⟩ ?_
      refine f_beq (tgt := 43) hx hb dX2_backed_27 (by decide) (fun c_3 => ?_) (fun c_3 => ?_)
      · rw [in_i2l _ (by decide) (by decide), ← Bool.not_eq_true] at c_3
        simp only [Bool.and_eq_true, decide_eq_true_eq] at c_3
        refine lv_ldc2 (v := -102) hx hb hown hc_126 dX2_backed_43 ?_
        exact f_rl hx hb hr hlocks (by first | (simp [bdF, c_1]; done) | (have e : isSy u t b = false := (by rw [← Bool.not_eq_true]; simp only [isSy, Bool.and_eq_true, decide_eq_true_eq]; omega); simp [bdF, e])) dX2_backed_46
      · rw [in_i2l _ (by decide) (by decide)] at c_3
        simp only [Bool.and_eq_true, decide_eq_true_eq] at c_3
        refine lv_iload hx hb dX2_backed_30 (lv_at hl 4 rfl) ?_
        refine lv_i2l (v := (Int32.toInt64 b)) hx hb dX2_backed_32 rfl ?_
        refine lv_lconst (v := (lN 0)) hx hb dX2_backed_33 (by decide) ?_
        refine lv_ldc2 (v := 9) hx hb hown hc_138 dX2_backed_34 ?_
        refine f_tl (y := (lN 9)) (by decide) ?_
        refine f_cSi (As := [.long (Int32.toInt64 b), .long (lN 0), .long (lN 9)]) (rest := []) ⟨hx, hb, hml, hown, hts⟩ (c_X2_in l (Int32.toInt64 b) (lN 0) (lN 9)) (va_cwS 3 hts gX2_backed_X2_in rfl rfl rfl (by decide +kernel) ⟨Nat.le_of_ble_eq_true rfl, Nat.le_of_ble_eq_true rfl⟩) noB_bl noB_at rfl hl.1 rfl (Nat.le_of_ble_eq_true rfl) dX2_backed_37 ⟨Nat.zero_le _, Nat.zero_le _⟩ ?_
        refine f_bne (tgt := 47) hx hb dX2_backed_40 (by decide) (fun c_4 => ?_) (fun c_4 => ?_)
        · rw [in_i2l _ (by decide) (by decide)] at c_4
          simp only [Bool.and_eq_true, decide_eq_true_eq] at c_4
          obtain ⟨h, h1, h2, rfl⟩ := bg_of c_1
          have hsy : isSy u t b = true := by simp only [isSy, Bool.and_eq_true, decide_eq_true_eq]; omega
          obtain ⟨i, j, z, hi, hj, hz, rfl, rfl, rfl⟩ := sy_of hsy
          refine lv_aload_n hx hb dX2_backed_47 rfl (lv_at hl 0 rfl) ?_
          refine lv_iload_n hx hb dX2_backed_48 rfl (lv_at hl 1 rfl) ?_
          refine lv_aload_n hx hb dX2_backed_49 rfl (lv_at hl 0 rfl) ?_
          refine va_get (D := (dC, dI)) (ci := 3) (v := .ref (ad 11)) (C := RX2) (T := TX2) (N := 27) hx hb hts hin hown hK hP 0 rfl rfl 13 (by decide) hf_42 (fun _ h9 => h9) rfl dX2_backed_50 ?_
          refine lv_iload_n hx hb dX2_backed_53 rfl (lv_at hl 1 rfl) ?_
          refine lv_iload_n hx hb dX2_backed_54 rfl (lv_at hl 2 rfl) ?_
          refine lv_iload_n hx hb dX2_backed_55 rfl (lv_at hl 3 rfl) ?_
          refine lv_iload hx hb dX2_backed_56 (lv_at hl 4 rfl) ?_
          refine f_cSi (As := [.int (nI h), .int (nI i), .int (nI j), .int (nI z)]) (rest := [.ref (ad 11), .int (nI h), .ref (ad 0)]) ⟨hx, hb, hml, hown, hts⟩ (c_X2_place l h i j z) (va_cwS 4 hts gX2_backed_X2_place rfl rfl rfl (by decide +kernel) ⟨Nat.le_of_ble_eq_true rfl, Nat.le_of_ble_eq_true rfl⟩) noB_bl noB_at rfl hl.1 rfl (Nat.le_of_ble_eq_true rfl) dX2_backed_58 ⟨Nat.zero_le _, Nat.zero_le _⟩ ?_
          refine f_iald hx hb hK hP 11 10 rfl rfl (k := (((8 * h + i) * 2 + j) * 10 + z)) (by omega) (by decide) (v := (nI (syF S (((8 * h + i) * 2 + j) * 10 + z)))) rfl dX2_backed_61 ?_
          have hy := sy_lt S (((8 * h + i) * 2 + j) * 10 + z)
          refine f_cVl (As := [.int (nI h), .int (nI (syF S (((8 * h + i) * 2 + j) * 10 + z)))]) (rest := []) ⟨hx, hb, hml, hown, hts⟩ (c_X2_weightOf l dC dI ad cy S h (syF S (((8 * h + i) * 2 + j) * 10 + z)) I (by omega) (by omega)) (cwV 2 hts gX2_backed_X2_weightOf rfl rfl rfl (by decide +kernel) ⟨Nat.le_of_ble_eq_true rfl, Nat.le_of_ble_eq_true rfl⟩) roB_bl (va_recv hK hP (ci := 3) (q0 := 0) rfl rfl) (roB_at hP hK) rfl hl.1 rfl (Nat.le_of_ble_eq_true rfl) dX2_backed_62 ⟨Nat.zero_le _, Nat.zero_le _⟩ ?_
          exact f_rl hx hb hr hlocks (by simp only [bdF, c_1, hsy]; rw [tn_nI (by omega), tn_nI (by omega), tn_nI (by omega), tn_nI (by omega), wf_eq I (by decide) hi hj (by omega), wo_at S hi hj hz]; rfl) dX2_backed_65
        · rw [in_i2l _ (by decide) (by decide), ← Bool.not_eq_true] at c_4
          simp only [Bool.and_eq_true, decide_eq_true_eq] at c_4
          refine lv_ldc2 (v := -102) hx hb hown hc_126 dX2_backed_43 ?_
          exact f_rl hx hb hr hlocks (by first | (simp [bdF, c_1]; done) | (have e : isSy u t b = false := (by rw [← Bool.not_eq_true]; simp only [isSy, Bool.and_eq_true, decide_eq_true_eq]; omega); simp [bdF, e])) dX2_backed_46

abbrev rm_X2_counts : Room := { frames := 5, cells := 0, slots := 0, locals := 117 }
set_option maxHeartbeats 4000000 in
set_option maxRecDepth 100000 in
theorem c_X2_counts (l : Launch) (dC : Nat → ClassId) (dI : Nat → Nat → Nat) (ad : Nat → Nat) (cy : Nat → ClassId) (S : St) (h : Nat) (q : Nat) (a : Nat) (b : Nat) (I : Inv S) (hh : h ≤ 40) (hq : q < 3) (ha : a < sVn S) (hb1 : b < sVn S) : RoI l yX2_counts wsX2_counts rm_X2_counts [.ref (ad 0), .int (nI h), .int (nI q), .int (nI a), .int (nI b)] (mB dC dI ad cy S) (bI (ctT S h q a b)) := by
  refine Ro_start (cc := cX2_counts) (maxL := 5) (ret := (some .boolean)) (lv := [(0, .ref (ad 0)), (1, .int (nI h)), (2, .int (nI q)), (3, .int (nI a)), (4, .int (nI b))]) (by decide) rfl (Nat.le_of_ble_eq_true rfl) rfl ?_
  intro pp ee ss mm aa bl me co hx hb hr hml hts hown hlocks hnm hB ls hl
  obtain ⟨hP, hK⟩ := hB
  have hin : ∀ w ∈ wsX20, w ∈ wsX2_counts := fun w h => List.mem_cons_of_mem _ (List.mem_append_right _ h)
  have hf_30 := hts (.fieldLink RX2 30 "FaultEvidenceModel" "when" "[I") (by decide +kernel)
  have I1 := I.n
  have v1 := I.v ha
  have v2 := I.v hb1
  refine lv_aload_n hx hb dX2_counts_0 rfl (lv_at hl 0 rfl) ?_
  refine va_get (D := (dC, dI)) (ci := 3) (v := .ref (ad 7)) (C := RX2) (T := TX2) (N := 27) hx hb hts hin hown hK hP 0 rfl rfl 9 (by decide) hf_30 (fun _ h9 => h9) rfl dX2_counts_1 ?_
  refine lv_iload_n hx hb dX2_counts_4 rfl (lv_at hl 3 rfl) ?_
  refine f_iald hx hb hK hP 7 6 rfl rfl (k := a) (by omega) (by decide) (v := (nI (sVts S a / 2048))) rfl dX2_counts_5 ?_
  refine lv_iload_n hx hb dX2_counts_6 rfl (lv_at hl 1 rfl) ?_
  refine f_ine (tgt := 46) hx hb (nI_toInt (by omega)) (nI_toInt (by omega)) dX2_counts_7 (by decide) (fun c_1 => ?_) (fun c_1 => ?_)
  · refine lv_iconst (v := (nI 0)) hx hb dX2_counts_46 (by decide) ?_
    exact f_r0 hx hb hr hlocks (by rw [← Bool.not_eq_true]; simp [ctT] <;> omega) dX2_counts_47
  · refine lv_aload_n hx hb dX2_counts_10 rfl (lv_at hl 0 rfl) ?_
    refine va_get (D := (dC, dI)) (ci := 3) (v := .ref (ad 7)) (C := RX2) (T := TX2) (N := 27) hx hb hts hin hown hK hP 0 rfl rfl 9 (by decide) hf_30 (fun _ h9 => h9) rfl dX2_counts_11 ?_
    refine lv_iload hx hb dX2_counts_14 (lv_at hl 4 rfl) ?_
    refine f_iald hx hb hK hP 7 6 rfl rfl (k := b) (by omega) (by decide) (v := (nI (sVts S b / 2048))) rfl dX2_counts_16 ?_
    refine lv_iload_n hx hb dX2_counts_17 rfl (lv_at hl 1 rfl) ?_
    refine f_ine (tgt := 46) hx hb (nI_toInt (by omega)) (nI_toInt (by omega)) dX2_counts_18 (by decide) (fun c_2 => ?_) (fun c_2 => ?_)
    · refine lv_iconst (v := (nI 0)) hx hb dX2_counts_46 (by decide) ?_
      exact f_r0 hx hb hr hlocks (by rw [← Bool.not_eq_true]; simp [ctT] <;> omega) dX2_counts_47
    · refine lv_iload_n hx hb dX2_counts_21 rfl (lv_at hl 2 rfl) ?_
      refine f_0ne (tgt := 31) hx hb (nI_toInt (by omega)) dX2_counts_22 (by decide) (fun c_3 => ?_) (fun c_3 => ?_)
      · refine lv_aload_n hx hb dX2_counts_31 rfl (lv_at hl 0 rfl) ?_
        refine lv_iload_n hx hb dX2_counts_32 rfl (lv_at hl 2 rfl) ?_
        refine lv_iload_n hx hb dX2_counts_33 rfl (lv_at hl 3 rfl) ?_
        refine lv_iload hx hb dX2_counts_34 (lv_at hl 4 rfl) ?_
        refine f_cVi (As := [.int (nI q), .int (nI a), .int (nI b)]) (rest := []) ⟨hx, hb, hml, hown, hts⟩ (c_X2_isBreak l dC dI ad cy S q a b I (by omega) (by omega) (by omega)) (cwV 3 hts gX2_counts_X2_isBreak rfl rfl rfl (by decide +kernel) ⟨Nat.le_of_ble_eq_true rfl, Nat.le_of_ble_eq_true rfl⟩) roB_bl (va_recv hK hP (ci := 3) (q0 := 0) rfl rfl) (roB_at hP hK) rfl hl.1 rfl (Nat.le_of_ble_eq_true rfl) dX2_counts_36 ⟨Nat.zero_le _, Nat.zero_le _⟩ ?_
        refine f_beq (tgt := 46) hx hb dX2_counts_39 (by decide) (fun c_4 => ?_) (fun c_4 => ?_)
        · refine lv_iconst (v := (nI 0)) hx hb dX2_counts_46 (by decide) ?_
          exact f_r0 hx hb hr hlocks (by rw [← Bool.not_eq_true]; simp [ctT, c_4] <;> omega) dX2_counts_47
        · refine lv_iconst (v := (nI 1)) hx hb dX2_counts_42 (by decide) ?_
          refine lv_goto (tgt := 47) hx hb dX2_counts_43 (by decide) ?_
          exact f_r1 hx hb hr hlocks (by simp [ctT, c_4] <;> omega) dX2_counts_47
      · refine lv_iload_n hx hb dX2_counts_25 rfl (lv_at hl 3 rfl) ?_
        refine lv_iload hx hb dX2_counts_26 (lv_at hl 4 rfl) ?_
        refine f_ige (tgt := 46) hx hb (nI_toInt (by omega)) (nI_toInt (by omega)) dX2_counts_28 (by decide) (fun c_5 => ?_) (fun c_5 => ?_)
        · refine lv_iconst (v := (nI 0)) hx hb dX2_counts_46 (by decide) ?_
          exact f_r0 hx hb hr hlocks (by rw [← Bool.not_eq_true]; simp [ctT] <;> omega) dX2_counts_47
        · refine lv_aload_n hx hb dX2_counts_31 rfl (lv_at hl 0 rfl) ?_
          refine lv_iload_n hx hb dX2_counts_32 rfl (lv_at hl 2 rfl) ?_
          refine lv_iload_n hx hb dX2_counts_33 rfl (lv_at hl 3 rfl) ?_
          refine lv_iload hx hb dX2_counts_34 (lv_at hl 4 rfl) ?_
          refine f_cVi (As := [.int (nI q), .int (nI a), .int (nI b)]) (rest := []) ⟨hx, hb, hml, hown, hts⟩ (c_X2_isBreak l dC dI ad cy S q a b I (by omega) (by omega) (by omega)) (cwV 3 hts gX2_counts_X2_isBreak rfl rfl rfl (by decide +kernel) ⟨Nat.le_of_ble_eq_true rfl, Nat.le_of_ble_eq_true rfl⟩) roB_bl (va_recv hK hP (ci := 3) (q0 := 0) rfl rfl) (roB_at hP hK) rfl hl.1 rfl (Nat.le_of_ble_eq_true rfl) dX2_counts_36 ⟨Nat.zero_le _, Nat.zero_le _⟩ ?_
          refine f_beq (tgt := 46) hx hb dX2_counts_39 (by decide) (fun c_6 => ?_) (fun c_6 => ?_)
          · refine lv_iconst (v := (nI 0)) hx hb dX2_counts_46 (by decide) ?_
            exact f_r0 hx hb hr hlocks (by rw [← Bool.not_eq_true]; simp [ctT, c_6] <;> omega) dX2_counts_47
          · refine lv_iconst (v := (nI 1)) hx hb dX2_counts_42 (by decide) ?_
            refine lv_goto (tgt := 47) hx hb dX2_counts_43 (by decide) ?_
            exact f_r1 hx hb hr hlocks (by simp [ctT, c_6] <;> omega) dX2_counts_47

abbrev rm_X2_breaks : Room := { frames := 6, cells := 0, slots := 0, locals := 141 }
set_option maxHeartbeats 4000000 in
set_option maxRecDepth 100000 in
theorem c_X2_breaks (l : Launch) (dC : Nat → ClassId) (dI : Nat → Nat → Nat) (ad : Nat → Nat) (cy : Nat → ClassId) (S : St) (x : Int32) (y : Int32) (I : Inv S) : RoI l yX2_breaks wsX2_breaks rm_X2_breaks [.ref (ad 0), .int x, .int y] (mB dC dI ad cy S) (bsF S x y) := by
  refine Ro_start (cc := cX2_breaks) (maxL := 6) (ret := (some .int)) (lv := [(0, .ref (ad 0)), (1, .int x), (2, .int y)]) (by decide) rfl (Nat.le_of_ble_eq_true rfl) rfl ?_
  intro pp ee ss mm aa bl me co hx hb hr hml hts hown hlocks hnm hB ls hl
  obtain ⟨hP, hK⟩ := hB
  have hin : ∀ w ∈ wsX20, w ∈ wsX2_breaks := fun w h => List.mem_cons_of_mem _ (List.mem_append_right _ h)
  have hf_30 := hts (.fieldLink RX2 30 "FaultEvidenceModel" "when" "[I") (by decide +kernel)
  have hf_79 := hts (.fieldLink RX2 79 "FaultEvidenceModel" "votes" "I") (by decide +kernel)
  have hc_91 := hts (.constantLong RX2 91 (2)) (by decide +kernel)
  have I1 := I.n
  refine lv_aload_n hx hb dX2_breaks_0 rfl (lv_at hl 0 rfl) ?_
  refine lv_iload_n hx hb dX2_breaks_1 rfl (lv_at hl 1 rfl) ?_
  refine f_cVi (As := [.int x]) (rest := []) ⟨hx, hb, hml, hown, hts⟩ (c_X2_isHeight l dC dI ad cy S x I) (cwV 1 hts gX2_breaks_X2_isHeight rfl rfl rfl (by decide +kernel) ⟨Nat.le_of_ble_eq_true rfl, Nat.le_of_ble_eq_true rfl⟩) roB_bl (va_recv hK hP (ci := 3) (q0 := 0) rfl rfl) (roB_at hP hK) rfl hl.1 rfl (Nat.le_of_ble_eq_true rfl) dX2_breaks_2 ⟨Nat.zero_le _, Nat.zero_le _⟩ ?_
  refine f_beq (tgt := 20) hx hb dX2_breaks_5 (by decide) (fun c_1 => ?_) (fun c_1 => ?_)
  · refine lv_bipush (v := (-102)) hx hb dX2_breaks_20 (by decide) ?_
    exact f_ri hx hb hr hlocks (by first | (simp [bsF, c_1]; done) | (have e : isKd y = false := (by rw [← Bool.not_eq_true]; simp only [isKd, Bool.and_eq_true, decide_eq_true_eq]; omega); simp [bsF, e])) dX2_breaks_22
  · refine lv_iload_n hx hb dX2_breaks_8 rfl (lv_at hl 2 rfl) ?_
    refine lv_i2l (v := (Int32.toInt64 y)) hx hb dX2_breaks_9 rfl ?_
    refine lv_lconst (v := (lN 0)) hx hb dX2_breaks_10 (by decide) ?_
    refine lv_ldc2 (v := 2) hx hb hown hc_91 dX2_breaks_11 ?_
    refine f_tl (y := (lN 2)) (by decide) ?_
    refine f_cSi (As := [.long (Int32.toInt64 y), .long (lN 0), .long (lN 2)]) (rest := []) ⟨hx, hb, hml, hown, hts⟩ (c_X2_in l (Int32.toInt64 y) (lN 0) (lN 2)) (va_cwS 3 hts gX2_breaks_X2_in rfl rfl rfl (by decide +kernel) ⟨Nat.le_of_ble_eq_true rfl, Nat.le_of_ble_eq_true rfl⟩) noB_bl noB_at rfl hl.1 rfl (Nat.le_of_ble_eq_true rfl) dX2_breaks_14 ⟨Nat.zero_le _, Nat.zero_le _⟩ ?_
    refine f_bne (tgt := 23) hx hb dX2_breaks_17 (by decide) (fun c_2 => ?_) (fun c_2 => ?_)
    · rw [in_i2l _ (by decide) (by decide)] at c_2
      simp only [Bool.and_eq_true, decide_eq_true_eq] at c_2
      obtain ⟨h, h1, h2, rfl⟩ := bg_of c_1
      have hkd : isKd y = true := by simp only [isKd, Bool.and_eq_true, decide_eq_true_eq]; omega
      obtain ⟨q, hq, rfl⟩ := kd_of hkd
      have ht := tn_nI (n := h) (by omega)
      have hu := tn_nI (n := q) (by omega)
      refine lv_iconst (v := (nI 0)) hx hb dX2_breaks_23 (by decide) ?_
      refine lv_istore_n (lv' := [(3, .int (nI 0)), (0, .ref (ad 0)), (1, .int (nI h)), (2, .int (nI q))]) hx hb dX2_breaks_24 rfl hl (by decide) rfl (fun ls hl => ?_)
      refine lv_iconst (v := (nI 0)) hx hb dX2_breaks_25 (by decide) ?_
      refine lv_istore (lv' := [(4, .int (nI 0)), (3, .int (nI 0)), (0, .ref (ad 0)), (1, .int (nI h)), (2, .int (nI q))]) hx hb dX2_breaks_26 hl (by decide) rfl (fun ls hl => ?_)
      have loop_28 : ∀ (n : Nat) (a : Nat) (k : Nat), sVn S - a < n → k = sm a (bsT S h q) → a ≤ sVn S → ∀ ls : Array Slot, lv_has ls 6 [(4, .int (nI a)), (3, .int (nI k)), (0, .ref (ad 0)), (1, .int (nI h)), (2, .int (nI q))] → W pp l ee rm_X2_breaks ss mm aa bl me co ss.heap [] 0 0 (MQ bl (vp_Si (fun z_ => z_ = bsF S (nI h) (nI q))) aa ss 0 0 (fun _ => False)) (F0 mm 28 ls []) := by
        intro n
        induction n with
        | zero => intro a k hm; exact absurd hm (Nat.not_lt_zero _)
        | succ n ih_28 =>
          intro a k hm hk han ls hl
          refine lv_iload hx hb dX2_breaks_28 (lv_at hl 0 rfl) ?_
          refine lv_aload_n hx hb dX2_breaks_30 rfl (lv_at hl 2 rfl) ?_
          refine va_get (D := (dC, dI)) (ci := 3) (v := .int (nI (sVn S))) (C := RX2) (T := TX2) (N := 27) hx hb hts hin hown hK hP 0 rfl rfl 7 (by decide) hf_79 (fun _ h9 => h9) rfl dX2_breaks_31 ?_
          refine f_ige (tgt := 93) hx hb (nI_toInt (by omega)) (nI_toInt (by omega)) dX2_breaks_34 (by decide) (fun c_3 => ?_) (fun c_3 => ?_)
          · refine lv_iload_n hx hb dX2_breaks_93 rfl (lv_at hl 1 rfl) ?_
            exact f_ri hx hb hr hlocks (by have e : a = sVn S := (by omega); simp only [bsF, ht, hu, c_1, hkd]; rw [hk, e]; rfl) dX2_breaks_94
          · have hv := I.v (v := a) (by omega)
            refine lv_iconst (v := (nI 0)) hx hb dX2_breaks_37 (by decide) ?_
            refine lv_istore (lv' := [(5, .int (nI 0)), (4, .int (nI a)), (3, .int (nI k)), (0, .ref (ad 0)), (1, .int (nI h)), (2, .int (nI q))]) hx hb dX2_breaks_38 hl (by decide) rfl (fun ls hl => ?_)
            have loop_40 : ∀ (n : Nat) (b : Nat) (k : Nat), sVn S - b < n → k = sm a (bsT S h q) + sm b (brT S h q a) → b ≤ sVn S → ∀ ls : Array Slot, lv_has ls 6 [(5, .int (nI b)), (4, .int (nI a)), (3, .int (nI k)), (0, .ref (ad 0)), (1, .int (nI h)), (2, .int (nI q))] → W pp l ee rm_X2_breaks ss mm aa bl me co ss.heap [] 0 0 (MQ bl (vp_Si (fun z_ => z_ = bsF S (nI h) (nI q))) aa ss 0 0 (fun _ => False)) (F0 mm 40 ls []) := by
              intro n
              induction n with
              | zero => intro b k hm; exact absurd hm (Nat.not_lt_zero _)
              | succ n ih_40 =>
                intro b k hm hk2 hbn ls hl
                refine lv_iload hx hb dX2_breaks_40 (lv_at hl 0 rfl) ?_
                refine lv_aload_n hx hb dX2_breaks_42 rfl (lv_at hl 3 rfl) ?_
                refine va_get (D := (dC, dI)) (ci := 3) (v := .int (nI (sVn S))) (C := RX2) (T := TX2) (N := 27) hx hb hts hin hown hK hP 0 rfl rfl 7 (by decide) hf_79 (fun _ h9 => h9) rfl dX2_breaks_43 ?_
                refine f_ige (tgt := 87) hx hb (nI_toInt (by omega)) (nI_toInt (by omega)) dX2_breaks_46 (by decide) (fun c_4 => ?_) (fun c_4 => ?_)
                · have hbe : b = sVn S := by omega
                  have hz : k = sm (a + 1) (bsT S h q) := by
                    rw [sm, hk2, hbe]
                    by_cases hw : sVts S a / 2048 = h
                    · rw [br_sum (by omega) hw hq]; simp [bsT, hw]
                    · rw [sm_zero (fun i _ => br_no hw)]; simp [bsT, hw]
                  refine lv_iinc (v := (nI (a + 1))) (lv' := [(4, .int (nI (a + 1))), (5, .int (nI b)), (3, .int (nI k)), (0, .ref (ad 0)), (1, .int (nI h)), (2, .int (nI q))]) hx hb dX2_breaks_87 hl (k := 1) rfl (nI_add a 1) (by decide) rfl (fun ls hl => ?_)
                  refine lv_goto (tgt := 28) hx hb dX2_breaks_90 (by decide) ?_
                  exact ih_28 (a + 1) k (by omega) (hz) (by omega) ls (lv_sub hl [0, 2, 3, 4, 5] rfl)
                · refine lv_aload_n hx hb dX2_breaks_49 rfl (lv_at hl 3 rfl) ?_
                  refine va_get (D := (dC, dI)) (ci := 3) (v := .ref (ad 7)) (C := RX2) (T := TX2) (N := 27) hx hb hts hin hown hK hP 0 rfl rfl 9 (by decide) hf_30 (fun _ h9 => h9) rfl dX2_breaks_50 ?_
                  refine lv_iload hx hb dX2_breaks_53 (lv_at hl 1 rfl) ?_
                  refine f_iald hx hb hK hP 7 6 rfl rfl (k := a) (by omega) (by decide) (v := (nI (sVts S a / 2048))) rfl dX2_breaks_55 ?_
                  refine lv_iload_n hx hb dX2_breaks_56 rfl (lv_at hl 4 rfl) ?_
                  refine f_ine (tgt := 87) hx hb (nI_toInt (by omega)) (nI_toInt (by omega)) dX2_breaks_57 (by decide) (fun c_5 => ?_) (fun c_5 => ?_)
                  · have hw : sVts S a / 2048 ≠ h := by omega
                    have hz : k = sm (a + 1) (bsT S h q) := by
                      rw [sm, hk2, sm_zero (fun i _ => br_no hw)]; simp [bsT, hw]
                    refine lv_iinc (v := (nI (a + 1))) (lv' := [(4, .int (nI (a + 1))), (5, .int (nI b)), (3, .int (nI k)), (0, .ref (ad 0)), (1, .int (nI h)), (2, .int (nI q))]) hx hb dX2_breaks_87 hl (k := 1) rfl (nI_add a 1) (by decide) rfl (fun ls hl => ?_)
                    refine lv_goto (tgt := 28) hx hb dX2_breaks_90 (by decide) ?_
                    exact ih_28 (a + 1) k (by omega) (hz) (by omega) ls (lv_sub hl [0, 2, 3, 4, 5] rfl)
                  · refine lv_iload_n hx hb dX2_breaks_60 rfl (lv_at hl 2 rfl) ?_
                    refine lv_aload_n hx hb dX2_breaks_61 rfl (lv_at hl 3 rfl) ?_
                    refine lv_iload_n hx hb dX2_breaks_62 rfl (lv_at hl 4 rfl) ?_
                    refine lv_iload_n hx hb dX2_breaks_63 rfl (lv_at hl 5 rfl) ?_
                    refine lv_iload hx hb dX2_breaks_64 (lv_at hl 1 rfl) ?_
                    refine lv_iload hx hb dX2_breaks_66 (lv_at hl 0 rfl) ?_
                    refine f_cVi (As := [.int (nI h), .int (nI q), .int (nI a), .int (nI b)]) (rest := [.int (nI k)]) ⟨hx, hb, hml, hown, hts⟩ (c_X2_counts l dC dI ad cy S h q a b I (by omega) (by omega) (by omega) (by omega)) (cwV 4 hts gX2_breaks_X2_counts rfl rfl rfl (by decide +kernel) ⟨Nat.le_of_ble_eq_true rfl, Nat.le_of_ble_eq_true rfl⟩) roB_bl (va_recv hK hP (ci := 3) (q0 := 0) rfl rfl) (roB_at hP hK) rfl hl.1 rfl (Nat.le_of_ble_eq_true rfl) dX2_breaks_68 ⟨Nat.zero_le _, Nat.zero_le _⟩ ?_
                    refine f_beq (tgt := 78) hx hb dX2_breaks_71 (by decide) (fun c_6 => ?_) (fun c_6 => ?_)
                    · have hz9 : brT S h q a b = 0 := by simp [brT, c_6]
                      refine lv_iconst (v := (nI 0)) hx hb dX2_breaks_78 (by decide) ?_
                      refine lv_iadd hx hb dX2_breaks_79 ?_
                      refine f_ti (y := (nI (k + 0))) (nI_add _ _) ?_
                      refine lv_istore_n (lv' := [(3, .int (nI (k + 0))), (5, .int (nI b)), (4, .int (nI a)), (0, .ref (ad 0)), (1, .int (nI h)), (2, .int (nI q))]) hx hb dX2_breaks_80 rfl hl (by decide) rfl (fun ls hl => ?_)
                      refine lv_iinc (v := (nI (b + 1))) (lv' := [(5, .int (nI (b + 1))), (3, .int (nI (k + 0))), (4, .int (nI a)), (0, .ref (ad 0)), (1, .int (nI h)), (2, .int (nI q))]) hx hb dX2_breaks_81 hl (k := 1) rfl (nI_add b 1) (by decide) rfl (fun ls hl => ?_)
                      refine lv_goto (tgt := 40) hx hb dX2_breaks_84 (by decide) ?_
                      exact ih_40 (b + 1) (k + 0) (by omega) (by simp only [sm, hz9]; omega) (by omega) ls (lv_sub hl [0, 2, 1, 3, 4, 5] rfl)
                    · have hz9 : brT S h q a b = 1 := by simp [brT, c_6]
                      refine lv_iconst (v := (nI 1)) hx hb dX2_breaks_74 (by decide) ?_
                      refine lv_goto (tgt := 79) hx hb dX2_breaks_75 (by decide) ?_
                      refine lv_iadd hx hb dX2_breaks_79 ?_
                      refine f_ti (y := (nI (k + 1))) (nI_add _ _) ?_
                      refine lv_istore_n (lv' := [(3, .int (nI (k + 1))), (5, .int (nI b)), (4, .int (nI a)), (0, .ref (ad 0)), (1, .int (nI h)), (2, .int (nI q))]) hx hb dX2_breaks_80 rfl hl (by decide) rfl (fun ls hl => ?_)
                      refine lv_iinc (v := (nI (b + 1))) (lv' := [(5, .int (nI (b + 1))), (3, .int (nI (k + 1))), (4, .int (nI a)), (0, .ref (ad 0)), (1, .int (nI h)), (2, .int (nI q))]) hx hb dX2_breaks_81 hl (k := 1) rfl (nI_add b 1) (by decide) rfl (fun ls hl => ?_)
                      refine lv_goto (tgt := 40) hx hb dX2_breaks_84 (by decide) ?_
                      exact ih_40 (b + 1) (k + 1) (by omega) (by simp only [sm, hz9]; omega) (by omega) ls (lv_sub hl [0, 2, 1, 3, 4, 5] rfl)
            exact loop_40 (sVn S - 0 + 1) 0 k (Nat.lt_succ_self _) (by rw [hk]; rfl) (Nat.zero_le _) ls (lv_sub hl [0, 1, 2, 3, 4, 5] rfl)
      exact loop_28 (sVn S - 0 + 1) 0 0 (Nat.lt_succ_self _) (rfl) (Nat.zero_le _) ls (lv_sub hl [0, 1, 2, 3, 4] rfl)
    · rw [in_i2l _ (by decide) (by decide), ← Bool.not_eq_true] at c_2
      simp only [Bool.and_eq_true, decide_eq_true_eq] at c_2
      refine lv_bipush (v := (-102)) hx hb dX2_breaks_20 (by decide) ?_
      exact f_ri hx hb hr hlocks (by first | (simp [bsF, c_1]; done) | (have e : isKd y = false := (by rw [← Bool.not_eq_true]; simp only [isKd, Bool.and_eq_true, decide_eq_true_eq]; omega); simp [bsF, e])) dX2_breaks_22

abbrev rm_X2_about : Room := { frames := 0, cells := 0, slots := 0, locals := 0 }
set_option maxHeartbeats 4000000 in
set_option maxRecDepth 100000 in
theorem c_X2_about (l : Launch) (dC : Nat → ClassId) (dI : Nat → Nat → Nat) (ad : Nat → Nat) (cy : Nat → ClassId) (S : St) (x : Int32) (I : Inv S) (hT : sTn S ≤ 512) : RoL l yX2_about wsX2_about rm_X2_about [.ref (ad 0), .int x] (mB dC dI ad cy S) (abF S x) := by
  refine Ro_start (cc := cX2_about) (maxL := 2) (ret := (some .long)) (lv := [(0, .ref (ad 0)), (1, .int x)]) (by decide) rfl (Nat.le_of_ble_eq_true rfl) rfl ?_
  intro pp ee ss mm aa bl me co hx hb hr hml hts hown hlocks hnm hB ls hl
  obtain ⟨hP, hK⟩ := hB
  have hin : ∀ w ∈ wsX20, w ∈ wsX2_about := fun w h => List.mem_cons_of_mem _ (List.mem_append_right _ h)
  have hf_45 := hts (.fieldLink RX2 45 "FaultEvidenceModel" "rates" "[I") (by decide +kernel)
  have hf_48 := hts (.fieldLink RX2 48 "FaultEvidenceModel" "span" "I") (by decide +kernel)
  have hf_76 := hts (.fieldLink RX2 76 "FaultEvidenceModel" "nodes" "I") (by decide +kernel)
  have hf_79 := hts (.fieldLink RX2 79 "FaultEvidenceModel" "votes" "I") (by decide +kernel)
  have hf_82 := hts (.fieldLink RX2 82 "FaultEvidenceModel" "height" "I") (by decide +kernel)
  have hf_132 := hts (.fieldLink RX2 132 "FaultEvidenceModel" "least" "J") (by decide +kernel)
  have hf_166 := hts (.fieldLink RX2 166 "FaultEvidenceModel" "burnt" "J") (by decide +kernel)
  have hf_169 := hts (.fieldLink RX2 169 "FaultEvidenceModel" "takenMany" "I") (by decide +kernel)
  have hc_126 := hts (.constantLong RX2 126 (-102)) (by decide +kernel)
  have I1 := I.n
  have I2 := I.r
  have I3 : ∀ j, rtF S j ≤ 1000 := fun j => by unfold rtF; split; exact I2.1 j (by assumption); exact Nat.zero_le _
  refine lv_iload_n hx hb dX2_about_0 rfl (lv_at hl 1 rfl) ?_
  by_cases c_1 : Int32.toInt x = 0
  · refine lv_tableIn (tgt := 56) hx hb dX2_about_1 (by omega) (by omega) (off := 55) (by rw [c_1]; rfl) (by decide) ?_
    refine lv_aload_n hx hb dX2_about_56 rfl (lv_at hl 0 rfl) ?_
    refine va_get (D := (dC, dI)) (ci := 3) (v := .int (nI (sHh S))) (C := RX2) (T := TX2) (N := 27) hx hb hts hin hown hK hP 0 rfl rfl 4 (by decide) hf_82 (fun _ h9 => h9) rfl dX2_about_57 ?_
    refine lv_i2l (v := (lN (sHh S))) hx hb dX2_about_60 (nI_l (by omega)) ?_
    exact f_rl hx hb hr hlocks (by unfold abF; (repeat' split) <;> first | rfl | contradiction | (exfalso; omega)) dX2_about_61
  by_cases c_2 : Int32.toInt x = 1
  · refine lv_tableIn (tgt := 62) hx hb dX2_about_1 (by omega) (by omega) (off := 61) (by rw [c_2]; rfl) (by decide) ?_
    refine lv_aload_n hx hb dX2_about_62 rfl (lv_at hl 0 rfl) ?_
    refine va_get (D := (dC, dI)) (ci := 3) (v := .int (nI (sNn S))) (C := RX2) (T := TX2) (N := 27) hx hb hts hin hown hK hP 0 rfl rfl 0 (by decide) hf_76 (fun _ h9 => h9) rfl dX2_about_63 ?_
    refine lv_i2l (v := (lN (sNn S))) hx hb dX2_about_66 (nI_l (by omega)) ?_
    exact f_rl hx hb hr hlocks (by unfold abF; (repeat' split) <;> first | rfl | contradiction | (exfalso; omega)) dX2_about_67
  by_cases c_3 : Int32.toInt x = 2
  · refine lv_tableIn (tgt := 68) hx hb dX2_about_1 (by omega) (by omega) (off := 67) (by rw [c_3]; rfl) (by decide) ?_
    refine lv_aload_n hx hb dX2_about_68 rfl (lv_at hl 0 rfl) ?_
    refine va_get (D := (dC, dI)) (ci := 3) (v := .int (nI (sVn S))) (C := RX2) (T := TX2) (N := 27) hx hb hts hin hown hK hP 0 rfl rfl 7 (by decide) hf_79 (fun _ h9 => h9) rfl dX2_about_69 ?_
    refine lv_i2l (v := (lN (sVn S))) hx hb dX2_about_72 (nI_l (by omega)) ?_
    exact f_rl hx hb hr hlocks (by unfold abF; (repeat' split) <;> first | rfl | contradiction | (exfalso; omega)) dX2_about_73
  by_cases c_4 : Int32.toInt x = 3
  · refine lv_tableIn (tgt := 74) hx hb dX2_about_1 (by omega) (by omega) (off := 73) (by rw [c_4]; rfl) (by decide) ?_
    refine lv_aload_n hx hb dX2_about_74 rfl (lv_at hl 0 rfl) ?_
    refine va_get (D := (dC, dI)) (ci := 3) (v := .int (nI (sTn S))) (C := RX2) (T := TX2) (N := 27) hx hb hts hin hown hK hP 0 rfl rfl 18 (by decide) hf_169 (fun _ h9 => h9) rfl dX2_about_75 ?_
    refine lv_i2l (v := (lN (sTn S))) hx hb dX2_about_78 (nI_l (by omega)) ?_
    exact f_rl hx hb hr hlocks (by unfold abF; (repeat' split) <;> first | rfl | contradiction | (exfalso; omega)) dX2_about_79
  by_cases c_5 : Int32.toInt x = 4
  · refine lv_tableIn (tgt := 80) hx hb dX2_about_1 (by omega) (by omega) (off := 79) (by rw [c_5]; rfl) (by decide) ?_
    refine lv_aload_n hx hb dX2_about_80 rfl (lv_at hl 0 rfl) ?_
    refine va_get (D := (dC, dI)) (ci := 3) (v := .long (lN (sBrn S))) (C := RX2) (T := TX2) (N := 27) hx hb hts hin hown hK hP 0 rfl rfl 17 (by decide) hf_166 (fun _ h9 => h9) rfl dX2_about_81 ?_
    exact f_rl hx hb hr hlocks (by unfold abF; (repeat' split) <;> first | rfl | contradiction | (exfalso; omega)) dX2_about_84
  by_cases c_6 : Int32.toInt x = 5
  · refine lv_tableIn (tgt := 96) hx hb dX2_about_1 (by omega) (by omega) (off := 95) (by rw [c_6]; rfl) (by decide) ?_
    refine lv_iload_n hx hb dX2_about_96 rfl (lv_at hl 1 rfl) ?_
    refine lv_iconst (v := (nI 5)) hx hb dX2_about_97 (by decide) ?_
    refine f_ilt (tgt := 119) hx hb (rfl) (nI_toInt (by omega)) dX2_about_98 (by decide) (fun c_7 => ?_) (fun c_7 => ?_)
    · refine lv_ldc2 (v := -102) hx hb hown hc_126 dX2_about_119 ?_
      exact f_rl hx hb hr hlocks (by unfold abF; (repeat' split) <;> first | rfl | contradiction | (exfalso; omega) | (rw [tn_nI (by omega), rtF, if_pos (by omega)]; rfl)) dX2_about_122
    · refine lv_iload_n hx hb dX2_about_101 rfl (lv_at hl 1 rfl) ?_
      refine lv_bipush (v := (nI 7)) hx hb dX2_about_102 (by decide) ?_
      refine f_igt (tgt := 119) hx hb (rfl) (nI_toInt (by omega)) dX2_about_104 (by decide) (fun c_8 => ?_) (fun c_8 => ?_)
      · refine lv_ldc2 (v := -102) hx hb hown hc_126 dX2_about_119 ?_
        exact f_rl hx hb hr hlocks (by unfold abF; (repeat' split) <;> first | rfl | contradiction | (exfalso; omega) | (rw [tn_nI (by omega), rtF, if_pos (by omega)]; rfl)) dX2_about_122
      · obtain ⟨i, hi, rfl⟩ := in_nI (n := 8) (x := x) (by omega) (by omega)
        have hxi := nI_toInt (n := i) (by omega)
        obtain ⟨j, rfl⟩ : ∃ j, i = j + 5 := ⟨i - 5, by omega⟩
        have I4 := I3 j
        refine lv_aload_n hx hb dX2_about_107 rfl (lv_at hl 0 rfl) ?_
        refine va_get (D := (dC, dI)) (ci := 3) (v := .ref (ad 12)) (C := RX2) (T := TX2) (N := 27) hx hb hts hin hown hK hP 0 rfl rfl 14 (by decide) hf_45 (fun _ h9 => h9) rfl dX2_about_108 ?_
        refine lv_iload_n hx hb dX2_about_111 rfl (lv_at hl 1 rfl) ?_
        refine lv_iconst (v := (nI 5)) hx hb dX2_about_112 (by decide) ?_
        refine lv_isub hx hb dX2_about_113 ?_
        refine f_ti (y := (nI j)) (by rw [pk_sub (by omega)]; congr 1) ?_
        refine f_iald hx hb hK hP 12 11 rfl rfl (k := j) (by omega) (by decide) (v := (nI (rtF S j))) rfl dX2_about_114 ?_
        refine lv_i2l (v := (lN (rtF S j))) hx hb dX2_about_115 (nI_l (by omega)) ?_
        refine lv_goto (tgt := 122) hx hb dX2_about_116 (by decide) ?_
        exact f_rl hx hb hr hlocks (by unfold abF; (repeat' split) <;> first | rfl | contradiction | (exfalso; omega) | (rw [tn_nI (by omega), rtF, if_pos (by omega)]; rfl)) dX2_about_122
  by_cases c_9 : Int32.toInt x = 6
  · refine lv_tableIn (tgt := 96) hx hb dX2_about_1 (by omega) (by omega) (off := 95) (by rw [c_9]; rfl) (by decide) ?_
    refine lv_iload_n hx hb dX2_about_96 rfl (lv_at hl 1 rfl) ?_
    refine lv_iconst (v := (nI 5)) hx hb dX2_about_97 (by decide) ?_
    refine f_ilt (tgt := 119) hx hb (rfl) (nI_toInt (by omega)) dX2_about_98 (by decide) (fun c_10 => ?_) (fun c_10 => ?_)
    · refine lv_ldc2 (v := -102) hx hb hown hc_126 dX2_about_119 ?_
      exact f_rl hx hb hr hlocks (by unfold abF; (repeat' split) <;> first | rfl | contradiction | (exfalso; omega) | (rw [tn_nI (by omega), rtF, if_pos (by omega)]; rfl)) dX2_about_122
    · refine lv_iload_n hx hb dX2_about_101 rfl (lv_at hl 1 rfl) ?_
      refine lv_bipush (v := (nI 7)) hx hb dX2_about_102 (by decide) ?_
      refine f_igt (tgt := 119) hx hb (rfl) (nI_toInt (by omega)) dX2_about_104 (by decide) (fun c_11 => ?_) (fun c_11 => ?_)
      · refine lv_ldc2 (v := -102) hx hb hown hc_126 dX2_about_119 ?_
        exact f_rl hx hb hr hlocks (by unfold abF; (repeat' split) <;> first | rfl | contradiction | (exfalso; omega) | (rw [tn_nI (by omega), rtF, if_pos (by omega)]; rfl)) dX2_about_122
      · obtain ⟨i, hi, rfl⟩ := in_nI (n := 8) (x := x) (by omega) (by omega)
        have hxi := nI_toInt (n := i) (by omega)
        obtain ⟨j, rfl⟩ : ∃ j, i = j + 5 := ⟨i - 5, by omega⟩
        have I4 := I3 j
        refine lv_aload_n hx hb dX2_about_107 rfl (lv_at hl 0 rfl) ?_
        refine va_get (D := (dC, dI)) (ci := 3) (v := .ref (ad 12)) (C := RX2) (T := TX2) (N := 27) hx hb hts hin hown hK hP 0 rfl rfl 14 (by decide) hf_45 (fun _ h9 => h9) rfl dX2_about_108 ?_
        refine lv_iload_n hx hb dX2_about_111 rfl (lv_at hl 1 rfl) ?_
        refine lv_iconst (v := (nI 5)) hx hb dX2_about_112 (by decide) ?_
        refine lv_isub hx hb dX2_about_113 ?_
        refine f_ti (y := (nI j)) (by rw [pk_sub (by omega)]; congr 1) ?_
        refine f_iald hx hb hK hP 12 11 rfl rfl (k := j) (by omega) (by decide) (v := (nI (rtF S j))) rfl dX2_about_114 ?_
        refine lv_i2l (v := (lN (rtF S j))) hx hb dX2_about_115 (nI_l (by omega)) ?_
        refine lv_goto (tgt := 122) hx hb dX2_about_116 (by decide) ?_
        exact f_rl hx hb hr hlocks (by unfold abF; (repeat' split) <;> first | rfl | contradiction | (exfalso; omega) | (rw [tn_nI (by omega), rtF, if_pos (by omega)]; rfl)) dX2_about_122
  by_cases c_12 : Int32.toInt x = 7
  · refine lv_tableIn (tgt := 96) hx hb dX2_about_1 (by omega) (by omega) (off := 95) (by rw [c_12]; rfl) (by decide) ?_
    refine lv_iload_n hx hb dX2_about_96 rfl (lv_at hl 1 rfl) ?_
    refine lv_iconst (v := (nI 5)) hx hb dX2_about_97 (by decide) ?_
    refine f_ilt (tgt := 119) hx hb (rfl) (nI_toInt (by omega)) dX2_about_98 (by decide) (fun c_13 => ?_) (fun c_13 => ?_)
    · refine lv_ldc2 (v := -102) hx hb hown hc_126 dX2_about_119 ?_
      exact f_rl hx hb hr hlocks (by unfold abF; (repeat' split) <;> first | rfl | contradiction | (exfalso; omega) | (rw [tn_nI (by omega), rtF, if_pos (by omega)]; rfl)) dX2_about_122
    · refine lv_iload_n hx hb dX2_about_101 rfl (lv_at hl 1 rfl) ?_
      refine lv_bipush (v := (nI 7)) hx hb dX2_about_102 (by decide) ?_
      refine f_igt (tgt := 119) hx hb (rfl) (nI_toInt (by omega)) dX2_about_104 (by decide) (fun c_14 => ?_) (fun c_14 => ?_)
      · refine lv_ldc2 (v := -102) hx hb hown hc_126 dX2_about_119 ?_
        exact f_rl hx hb hr hlocks (by unfold abF; (repeat' split) <;> first | rfl | contradiction | (exfalso; omega) | (rw [tn_nI (by omega), rtF, if_pos (by omega)]; rfl)) dX2_about_122
      · obtain ⟨i, hi, rfl⟩ := in_nI (n := 8) (x := x) (by omega) (by omega)
        have hxi := nI_toInt (n := i) (by omega)
        obtain ⟨j, rfl⟩ : ∃ j, i = j + 5 := ⟨i - 5, by omega⟩
        have I4 := I3 j
        refine lv_aload_n hx hb dX2_about_107 rfl (lv_at hl 0 rfl) ?_
        refine va_get (D := (dC, dI)) (ci := 3) (v := .ref (ad 12)) (C := RX2) (T := TX2) (N := 27) hx hb hts hin hown hK hP 0 rfl rfl 14 (by decide) hf_45 (fun _ h9 => h9) rfl dX2_about_108 ?_
        refine lv_iload_n hx hb dX2_about_111 rfl (lv_at hl 1 rfl) ?_
        refine lv_iconst (v := (nI 5)) hx hb dX2_about_112 (by decide) ?_
        refine lv_isub hx hb dX2_about_113 ?_
        refine f_ti (y := (nI j)) (by rw [pk_sub (by omega)]; congr 1) ?_
        refine f_iald hx hb hK hP 12 11 rfl rfl (k := j) (by omega) (by decide) (v := (nI (rtF S j))) rfl dX2_about_114 ?_
        refine lv_i2l (v := (lN (rtF S j))) hx hb dX2_about_115 (nI_l (by omega)) ?_
        refine lv_goto (tgt := 122) hx hb dX2_about_116 (by decide) ?_
        exact f_rl hx hb hr hlocks (by unfold abF; (repeat' split) <;> first | rfl | contradiction | (exfalso; omega) | (rw [tn_nI (by omega), rtF, if_pos (by omega)]; rfl)) dX2_about_122
  by_cases c_15 : Int32.toInt x = 8
  · refine lv_tableIn (tgt := 85) hx hb dX2_about_1 (by omega) (by omega) (off := 84) (by rw [c_15]; rfl) (by decide) ?_
    refine lv_aload_n hx hb dX2_about_85 rfl (lv_at hl 0 rfl) ?_
    refine va_get (D := (dC, dI)) (ci := 3) (v := .int (nI (sRul S 3))) (C := RX2) (T := TX2) (N := 27) hx hb hts hin hown hK hP 0 rfl rfl 15 (by decide) hf_48 (fun _ h9 => h9) rfl dX2_about_86 ?_
    refine lv_i2l (v := (lN (sRul S 3))) hx hb dX2_about_89 (nI_l (by omega)) ?_
    exact f_rl hx hb hr hlocks (by unfold abF; (repeat' split) <;> first | rfl | contradiction | (exfalso; omega)) dX2_about_90
  by_cases c_16 : Int32.toInt x = 9
  · refine lv_tableIn (tgt := 91) hx hb dX2_about_1 (by omega) (by omega) (off := 90) (by rw [c_16]; rfl) (by decide) ?_
    refine lv_aload_n hx hb dX2_about_91 rfl (lv_at hl 0 rfl) ?_
    refine va_get (D := (dC, dI)) (ci := 3) (v := .long (lN (sRul S 4))) (C := RX2) (T := TX2) (N := 27) hx hb hts hin hown hK hP 0 rfl rfl 16 (by decide) hf_132 (fun _ h9 => h9) rfl dX2_about_92 ?_
    exact f_rl hx hb hr hlocks (by unfold abF; (repeat' split) <;> first | rfl | contradiction | (exfalso; omega)) dX2_about_95
  refine lv_tableOut (tgt := 96) hx hb dX2_about_1 (by omega) (by decide) ?_
  refine lv_iload_n hx hb dX2_about_96 rfl (lv_at hl 1 rfl) ?_
  refine lv_iconst (v := (nI 5)) hx hb dX2_about_97 (by decide) ?_
  refine f_ilt (tgt := 119) hx hb (rfl) (nI_toInt (by omega)) dX2_about_98 (by decide) (fun c_17 => ?_) (fun c_17 => ?_)
  · refine lv_ldc2 (v := -102) hx hb hown hc_126 dX2_about_119 ?_
    exact f_rl hx hb hr hlocks (by unfold abF; (repeat' split) <;> first | rfl | contradiction | (exfalso; omega) | (rw [tn_nI (by omega), rtF, if_pos (by omega)]; rfl)) dX2_about_122
  · refine lv_iload_n hx hb dX2_about_101 rfl (lv_at hl 1 rfl) ?_
    refine lv_bipush (v := (nI 7)) hx hb dX2_about_102 (by decide) ?_
    refine f_igt (tgt := 119) hx hb (rfl) (nI_toInt (by omega)) dX2_about_104 (by decide) (fun c_18 => ?_) (fun c_18 => ?_)
    · refine lv_ldc2 (v := -102) hx hb hown hc_126 dX2_about_119 ?_
      exact f_rl hx hb hr hlocks (by unfold abF; (repeat' split) <;> first | rfl | contradiction | (exfalso; omega) | (rw [tn_nI (by omega), rtF, if_pos (by omega)]; rfl)) dX2_about_122
    · obtain ⟨i, hi, rfl⟩ := in_nI (n := 8) (x := x) (by omega) (by omega)
      have hxi := nI_toInt (n := i) (by omega)
      obtain ⟨j, rfl⟩ : ∃ j, i = j + 5 := ⟨i - 5, by omega⟩
      have I4 := I3 j
      refine lv_aload_n hx hb dX2_about_107 rfl (lv_at hl 0 rfl) ?_
      refine va_get (D := (dC, dI)) (ci := 3) (v := .ref (ad 12)) (C := RX2) (T := TX2) (N := 27) hx hb hts hin hown hK hP 0 rfl rfl 14 (by decide) hf_45 (fun _ h9 => h9) rfl dX2_about_108 ?_
      refine lv_iload_n hx hb dX2_about_111 rfl (lv_at hl 1 rfl) ?_
      refine lv_iconst (v := (nI 5)) hx hb dX2_about_112 (by decide) ?_
      refine lv_isub hx hb dX2_about_113 ?_
      refine f_ti (y := (nI j)) (by rw [pk_sub (by omega)]; congr 1) ?_
      refine f_iald hx hb hK hP 12 11 rfl rfl (k := j) (by omega) (by decide) (v := (nI (rtF S j))) rfl dX2_about_114 ?_
      refine lv_i2l (v := (lN (rtF S j))) hx hb dX2_about_115 (nI_l (by omega)) ?_
      refine lv_goto (tgt := 122) hx hb dX2_about_116 (by decide) ?_
      exact f_rl hx hb hr hlocks (by unfold abF; (repeat' split) <;> first | rfl | contradiction | (exfalso; omega) | (rw [tn_nI (by omega), rtF, if_pos (by omega)]; rfl)) dX2_about_122

abbrev rm_X2_holds : Room := { frames := 1, cells := 0, slots := 0, locals := 21 }
set_option maxHeartbeats 4000000 in
set_option maxRecDepth 100000 in
theorem c_X2_holds (l : Launch) (dC : Nat → ClassId) (dI : Nat → Nat → Nat) (ad : Nat → Nat) (cy : Nat → ClassId) (S : St) (x : Int32) (y : Int32) (I : Inv S) (hT : sTn S ≤ 512) : RoL l yX2_holds wsX2_holds rm_X2_holds [.ref (ad 0), .int x, .int y] (mB dC dI ad cy S) (hoF S x y) := by
  refine Ro_start (cc := cX2_holds) (maxL := 5) (ret := (some .long)) (lv := [(0, .ref (ad 0)), (1, .int x), (2, .int y)]) (by decide) rfl (Nat.le_of_ble_eq_true rfl) rfl ?_
  intro pp ee ss mm aa bl me co hx hb hr hml hts hown hlocks hnm hB ls hl
  obtain ⟨hP, hK⟩ := hB
  have hin : ∀ w ∈ wsX20, w ∈ wsX2_holds := fun w h => List.mem_cons_of_mem _ (List.mem_append_right _ h)
  have hf_7 := hts (.fieldLink RX2 7 "FaultEvidenceModel" "stakes" "[J") (by decide +kernel)
  have hf_13 := hts (.fieldLink RX2 13 "FaultEvidenceModel" "purses" "[J") (by decide +kernel)
  have hf_16 := hts (.fieldLink RX2 16 "FaultEvidenceModel" "isOut" "[Z") (by decide +kernel)
  have hf_26 := hts (.fieldLink RX2 26 "FaultEvidenceModel" "who" "[I") (by decide +kernel)
  have hf_55 := hts (.fieldLink RX2 55 "FaultEvidenceModel" "takenA" "[I") (by decide +kernel)
  have hf_169 := hts (.fieldLink RX2 169 "FaultEvidenceModel" "takenMany" "I") (by decide +kernel)
  have hc_124 := hts (.constantLong RX2 124 (-101)) (by decide +kernel)
  have hc_126 := hts (.constantLong RX2 126 (-102)) (by decide +kernel)
  have I1 := I.n
  refine lv_aload_n hx hb dX2_holds_0 rfl (lv_at hl 0 rfl) ?_
  refine lv_iload_n hx hb dX2_holds_1 rfl (lv_at hl 1 rfl) ?_
  refine f_cVi (As := [.int x]) (rest := []) ⟨hx, hb, hml, hown, hts⟩ (c_X2_isNode l dC dI ad cy S x I) (cwV 1 hts gX2_holds_X2_isNode rfl rfl rfl (by decide +kernel) ⟨Nat.le_of_ble_eq_true rfl, Nat.le_of_ble_eq_true rfl⟩) roB_bl (va_recv hK hP (ci := 3) (q0 := 0) rfl rfl) (roB_at hP hK) rfl hl.1 rfl (Nat.le_of_ble_eq_true rfl) dX2_holds_2 ⟨Nat.zero_le _, Nat.zero_le _⟩ ?_
  refine f_bne (tgt := 12) hx hb dX2_holds_5 (by decide) (fun c_1 => ?_) (fun c_1 => ?_)
  · obtain ⟨k, hk, rfl⟩ := nd_of c_1
    have ht := tn_nI (n := k) (by omega)
    refine lv_iload_n hx hb dX2_holds_12 rfl (lv_at hl 2 rfl) ?_
    refine f_0ne (tgt := 23) hx hb (rfl) dX2_holds_13 (by decide) (fun c_2 => ?_) (fun c_2 => ?_)
    · refine lv_iload_n hx hb dX2_holds_23 rfl (lv_at hl 2 rfl) ?_
      refine lv_iconst (v := (nI 1)) hx hb dX2_holds_24 (by decide) ?_
      refine f_ine (tgt := 35) hx hb (rfl) (nI_toInt (by omega)) dX2_holds_25 (by decide) (fun c_3 => ?_) (fun c_3 => ?_)
      · refine lv_iload_n hx hb dX2_holds_35 rfl (lv_at hl 2 rfl) ?_
        refine lv_iconst (v := (nI 2)) hx hb dX2_holds_36 (by decide) ?_
        refine f_ine (tgt := 55) hx hb (rfl) (nI_toInt (by omega)) dX2_holds_37 (by decide) (fun c_4 => ?_) (fun c_4 => ?_)
        · refine lv_iload_n hx hb dX2_holds_55 rfl (lv_at hl 2 rfl) ?_
          refine lv_iconst (v := (nI 3)) hx hb dX2_holds_56 (by decide) ?_
          refine f_ieq (tgt := 64) hx hb (rfl) (nI_toInt (by omega)) dX2_holds_57 (by decide) (fun c_5 => ?_) (fun c_5 => ?_)
          · refine lv_iconst (v := (nI 0)) hx hb dX2_holds_64 (by decide) ?_
            refine lv_istore_n (lv' := [(3, .int (nI 0)), (0, .ref (ad 0)), (1, .int (nI k)), (2, .int y)]) hx hb dX2_holds_65 rfl hl (by decide) rfl (fun ls hl => ?_)
            refine lv_iconst (v := (nI 0)) hx hb dX2_holds_66 (by decide) ?_
            refine lv_istore (lv' := [(4, .int (nI 0)), (3, .int (nI 0)), (0, .ref (ad 0)), (1, .int (nI k)), (2, .int y)]) hx hb dX2_holds_67 hl (by decide) rfl (fun ls hl => ?_)
            have loop_69 : ∀ (n : Nat) (i : Nat) (g : Nat), sTn S - i < n → g = sm i (hoT S k) → i ≤ sTn S → g ≤ i → ∀ ls : Array Slot, lv_has ls 5 [(4, .int (nI i)), (3, .int (nI g)), (0, .ref (ad 0)), (1, .int (nI k)), (2, .int y)] → W pp l ee rm_X2_holds ss mm aa bl me co ss.heap [] 0 0 (MQ bl (vp_Sl (fun z_ => z_ = hoF S (nI k) y)) aa ss 0 0 (fun _ => False)) (F0 mm 69 ls []) := by
              intro n
              induction n with
              | zero => intro i g hm; exact absurd hm (Nat.not_lt_zero _)
              | succ n ih_69 =>
                intro i g hm hg hin1 hgi ls hl
                refine lv_iload hx hb dX2_holds_69 (lv_at hl 0 rfl) ?_
                refine lv_aload_n hx hb dX2_holds_71 rfl (lv_at hl 2 rfl) ?_
                refine va_get (D := (dC, dI)) (ci := 3) (v := .int (nI (sTn S))) (C := RX2) (T := TX2) (N := 27) hx hb hts hin hown hK hP 0 rfl rfl 18 (by decide) hf_169 (fun _ h9 => h9) rfl dX2_holds_72 ?_
                refine f_ige (tgt := 108) hx hb (nI_toInt (by omega)) (nI_toInt (by omega)) dX2_holds_75 (by decide) (fun c_6 => ?_) (fun c_6 => ?_)
                · refine lv_iload_n hx hb dX2_holds_108 rfl (lv_at hl 1 rfl) ?_
                  refine lv_i2l (v := (lN g)) hx hb dX2_holds_109 (nI_l (by omega)) ?_
                  exact f_rl hx hb hr hlocks (by have e : lN g = lN (sm (sTn S) (hoT S k)) := (by rw [hg, show i = sTn S by omega]); rw [e]; simp only [hoF, ht, c_1]; (repeat' split) <;> first | rfl | contradiction | (exfalso; omega)) dX2_holds_110
                · have hta := I.k (i := i) (by omega)
                  have hv := I.v hta.2.1
                  refine lv_iload_n hx hb dX2_holds_78 rfl (lv_at hl 1 rfl) ?_
                  refine lv_aload_n hx hb dX2_holds_79 rfl (lv_at hl 2 rfl) ?_
                  refine va_get (D := (dC, dI)) (ci := 3) (v := .ref (ad 6)) (C := RX2) (T := TX2) (N := 27) hx hb hts hin hown hK hP 0 rfl rfl 8 (by decide) hf_26 (fun _ h9 => h9) rfl dX2_holds_80 ?_
                  refine lv_aload_n hx hb dX2_holds_83 rfl (lv_at hl 2 rfl) ?_
                  refine va_get (D := (dC, dI)) (ci := 3) (v := .ref (ad 14)) (C := RX2) (T := TX2) (N := 27) hx hb hts hin hown hK hP 0 rfl rfl 20 (by decide) hf_55 (fun _ h9 => h9) rfl dX2_holds_84 ?_
                  refine lv_iload hx hb dX2_holds_87 (lv_at hl 0 rfl) ?_
                  refine f_iald hx hb hK hP 14 13 rfl rfl (k := i) (by omega) (by decide) (v := (nI (sTa S i))) rfl dX2_holds_89 ?_
                  refine f_iald hx hb hK hP 6 5 rfl rfl (k := (sTa S i)) (by omega) (by decide) (v := (nI (sVts S (sTa S i) / 256 % 8))) rfl dX2_holds_90 ?_
                  refine lv_iload_n hx hb dX2_holds_91 rfl (lv_at hl 3 rfl) ?_
                  refine f_ine (tgt := 99) hx hb (nI_toInt (by omega)) (nI_toInt (by omega)) dX2_holds_92 (by decide) (fun c_7 => ?_) (fun c_7 => ?_)
                  · refine lv_iconst (v := (nI 0)) hx hb dX2_holds_99 (by decide) ?_
                    refine lv_iadd hx hb dX2_holds_100 ?_
                    refine f_ti (y := (nI (g + 0))) (nI_add _ _) ?_
                    refine lv_istore_n (lv' := [(3, .int (nI (g + 0))), (4, .int (nI i)), (0, .ref (ad 0)), (1, .int (nI k)), (2, .int y)]) hx hb dX2_holds_101 rfl hl (by decide) rfl (fun ls hl => ?_)
                    refine lv_iinc (v := (nI (i + 1))) (lv' := [(4, .int (nI (i + 1))), (3, .int (nI (g + 0))), (0, .ref (ad 0)), (1, .int (nI k)), (2, .int y)]) hx hb dX2_holds_102 hl (k := 1) rfl (nI_add i 1) (by decide) rfl (fun ls hl => ?_)
                    refine lv_goto (tgt := 69) hx hb dX2_holds_105 (by decide) ?_
                    exact ih_69 (i + 1) (g + 0) (by omega) (by simp only [sm, ← hg]; unfold hoT; split <;> omega) (by omega) (by omega) ls (lv_sub hl [0, 1, 2, 3, 4] rfl)
                  · refine lv_iconst (v := (nI 1)) hx hb dX2_holds_95 (by decide) ?_
                    refine lv_goto (tgt := 100) hx hb dX2_holds_96 (by decide) ?_
                    refine lv_iadd hx hb dX2_holds_100 ?_
                    refine f_ti (y := (nI (g + 1))) (nI_add _ _) ?_
                    refine lv_istore_n (lv' := [(3, .int (nI (g + 1))), (4, .int (nI i)), (0, .ref (ad 0)), (1, .int (nI k)), (2, .int y)]) hx hb dX2_holds_101 rfl hl (by decide) rfl (fun ls hl => ?_)
                    refine lv_iinc (v := (nI (i + 1))) (lv' := [(4, .int (nI (i + 1))), (3, .int (nI (g + 1))), (0, .ref (ad 0)), (1, .int (nI k)), (2, .int y)]) hx hb dX2_holds_102 hl (k := 1) rfl (nI_add i 1) (by decide) rfl (fun ls hl => ?_)
                    refine lv_goto (tgt := 69) hx hb dX2_holds_105 (by decide) ?_
                    exact ih_69 (i + 1) (g + 1) (by omega) (by simp only [sm, ← hg]; unfold hoT; split <;> omega) (by omega) (by omega) ls (lv_sub hl [0, 1, 2, 3, 4] rfl)
            exact loop_69 (sTn S - 0 + 1) 0 0 (Nat.lt_succ_self _) (rfl) (Nat.zero_le _) (Nat.le_refl _) ls (lv_sub hl [0, 1, 2, 3, 4] rfl)
          · refine lv_ldc2 (v := -102) hx hb hown hc_126 dX2_holds_60 ?_
            exact f_rl hx hb hr hlocks (by simp only [hoF, ht, c_1]; (repeat' split) <;> first | rfl | contradiction | (exfalso; omega)) dX2_holds_63
        · refine lv_aload_n hx hb dX2_holds_40 rfl (lv_at hl 0 rfl) ?_
          refine va_get (D := (dC, dI)) (ci := 3) (v := .ref (ad 3)) (C := RX2) (T := TX2) (N := 27) hx hb hts hin hown hK hP 0 rfl rfl 3 (by decide) hf_16 (fun _ h9 => h9) rfl dX2_holds_41 ?_
          refine lv_iload_n hx hb dX2_holds_44 rfl (lv_at hl 1 rfl) ?_
          refine f_zald hx hb hK hP 3 2 rfl rfl (k := k) (by omega) (by decide) (v := (bI (sOut S k))) rfl dX2_holds_45 ?_
          refine f_beq (tgt := 53) hx hb dX2_holds_46 (by decide) (fun c_8 => ?_) (fun c_8 => ?_)
          · refine lv_lconst (v := (lN 0)) hx hb dX2_holds_53 (by decide) ?_
            exact f_rl hx hb hr hlocks (by simp only [hoF, ht, c_1, c_8]; (repeat' split) <;> first | rfl | contradiction | (exfalso; omega)) dX2_holds_54
          · refine lv_lconst (v := (lN 1)) hx hb dX2_holds_49 (by decide) ?_
            refine lv_goto (tgt := 54) hx hb dX2_holds_50 (by decide) ?_
            exact f_rl hx hb hr hlocks (by simp only [hoF, ht, c_1, c_8]; (repeat' split) <;> first | rfl | contradiction | (exfalso; omega)) dX2_holds_54
      · refine lv_aload_n hx hb dX2_holds_28 rfl (lv_at hl 0 rfl) ?_
        refine va_get (D := (dC, dI)) (ci := 3) (v := .ref (ad 2)) (C := RX2) (T := TX2) (N := 27) hx hb hts hin hown hK hP 0 rfl rfl 2 (by decide) hf_13 (fun _ h9 => h9) rfl dX2_holds_29 ?_
        refine lv_iload_n hx hb dX2_holds_32 rfl (lv_at hl 1 rfl) ?_
        refine f_lald hx hb hK hP 2 1 rfl rfl (k := k) (by omega) (by decide) (v := (lN (sPrs S k))) rfl dX2_holds_33 ?_
        exact f_rl hx hb hr hlocks (by simp only [hoF, ht, c_1]; (repeat' split) <;> first | rfl | contradiction | (exfalso; omega)) dX2_holds_34
    · refine lv_aload_n hx hb dX2_holds_16 rfl (lv_at hl 0 rfl) ?_
      refine va_get (D := (dC, dI)) (ci := 3) (v := .ref (ad 1)) (C := RX2) (T := TX2) (N := 27) hx hb hts hin hown hK hP 0 rfl rfl 1 (by decide) hf_7 (fun _ h9 => h9) rfl dX2_holds_17 ?_
      refine lv_iload_n hx hb dX2_holds_20 rfl (lv_at hl 1 rfl) ?_
      refine f_lald hx hb hK hP 1 0 rfl rfl (k := k) (by omega) (by decide) (v := (lN (sStk S k))) rfl dX2_holds_21 ?_
      exact f_rl hx hb hr hlocks (by simp only [hoF, ht, c_1]; (repeat' split) <;> first | rfl | contradiction | (exfalso; omega)) dX2_holds_22
  · refine lv_ldc2 (v := -101) hx hb hown hc_124 dX2_holds_8 ?_
    exact f_rl hx hb hr hlocks (by simp [hoF, c_1]) dX2_holds_11

abbrev rm_X2_taken : Room := { frames := 0, cells := 0, slots := 0, locals := 0 }
set_option maxHeartbeats 4000000 in
set_option maxRecDepth 100000 in
theorem c_X2_taken (l : Launch) (dC : Nat → ClassId) (dI : Nat → Nat → Nat) (ad : Nat → Nat) (cy : Nat → ClassId) (S : St) (x : Int32) (y : Int32) (I : Inv S) (hT : sTn S ≤ 512) : RoL l yX2_taken wsX2_taken rm_X2_taken [.ref (ad 0), .int x, .int y] (mB dC dI ad cy S) (tkF S x y) := by
  refine Ro_start (cc := cX2_taken) (maxL := 3) (ret := (some .long)) (lv := [(0, .ref (ad 0)), (1, .int x), (2, .int y)]) (by decide) rfl (Nat.le_of_ble_eq_true rfl) rfl ?_
  intro pp ee ss mm aa bl me co hx hb hr hml hts hown hlocks hnm hB ls hl
  obtain ⟨hP, hK⟩ := hB
  have hin : ∀ w ∈ wsX20, w ∈ wsX2_taken := fun w h => List.mem_cons_of_mem _ (List.mem_append_right _ h)
  have hf_52 := hts (.fieldLink RX2 52 "FaultEvidenceModel" "takenKind" "[I") (by decide +kernel)
  have hf_55 := hts (.fieldLink RX2 55 "FaultEvidenceModel" "takenA" "[I") (by decide +kernel)
  have hf_58 := hts (.fieldLink RX2 58 "FaultEvidenceModel" "takenB" "[I") (by decide +kernel)
  have hf_61 := hts (.fieldLink RX2 61 "FaultEvidenceModel" "takenBy" "[I") (by decide +kernel)
  have hf_64 := hts (.fieldLink RX2 64 "FaultEvidenceModel" "takenAt" "[I") (by decide +kernel)
  have hf_67 := hts (.fieldLink RX2 67 "FaultEvidenceModel" "takenCost" "[J") (by decide +kernel)
  have hf_70 := hts (.fieldLink RX2 70 "FaultEvidenceModel" "takenShare" "[J") (by decide +kernel)
  have hf_169 := hts (.fieldLink RX2 169 "FaultEvidenceModel" "takenMany" "I") (by decide +kernel)
  have hc_124 := hts (.constantLong RX2 124 (-101)) (by decide +kernel)
  have hc_126 := hts (.constantLong RX2 126 (-102)) (by decide +kernel)
  have I1 := I.n
  refine lv_iload_n hx hb dX2_taken_0 rfl (lv_at hl 1 rfl) ?_
  refine f_0lt (tgt := 12) hx hb (rfl) dX2_taken_1 (by decide) (fun c_1 => ?_) (fun c_1 => ?_)
  · refine lv_ldc2 (v := -101) hx hb hown hc_124 dX2_taken_12 ?_
    exact f_rl hx hb hr hlocks (by unfold tkF; rw [if_pos (by omega)]) dX2_taken_15
  · refine lv_iload_n hx hb dX2_taken_4 rfl (lv_at hl 1 rfl) ?_
    refine lv_aload_n hx hb dX2_taken_5 rfl (lv_at hl 0 rfl) ?_
    refine va_get (D := (dC, dI)) (ci := 3) (v := .int (nI (sTn S))) (C := RX2) (T := TX2) (N := 27) hx hb hts hin hown hK hP 0 rfl rfl 18 (by decide) hf_169 (fun _ h9 => h9) rfl dX2_taken_6 ?_
    refine f_ilt (tgt := 16) hx hb (rfl) (nI_toInt (by omega)) dX2_taken_9 (by decide) (fun c_2 => ?_) (fun c_2 => ?_)
    · obtain ⟨i, hi, rfl⟩ := in_nI (n := sTn S) (x := x) (by omega) (by omega)
      have ht := tn_nI (n := i) (by omega)
      have hxi := nI_toInt (n := i) (by omega)
      have hk := I.k hi
      refine lv_iload_n hx hb dX2_taken_16 rfl (lv_at hl 2 rfl) ?_
      by_cases c_3 : Int32.toInt y = 0
      · refine lv_tableIn (tgt := 60) hx hb dX2_taken_17 (by omega) (by omega) (off := 43) (by rw [c_3]; rfl) (by decide) ?_
        refine lv_aload_n hx hb dX2_taken_60 rfl (lv_at hl 0 rfl) ?_
        refine va_get (D := (dC, dI)) (ci := 3) (v := .ref (ad 13)) (C := RX2) (T := TX2) (N := 27) hx hb hts hin hown hK hP 0 rfl rfl 19 (by decide) hf_52 (fun _ h9 => h9) rfl dX2_taken_61 ?_
        refine lv_iload_n hx hb dX2_taken_64 rfl (lv_at hl 1 rfl) ?_
        refine f_iald hx hb hK hP 13 12 rfl rfl (k := i) (by omega) (by decide) (v := (nI (sTk S i))) rfl dX2_taken_65 ?_
        refine lv_i2l (v := (lN (sTk S i))) hx hb dX2_taken_66 (nI_l (by omega)) ?_
        exact f_rl hx hb hr hlocks (by simp only [tkF, ht]; (repeat' split) <;> first | rfl | contradiction | (exfalso; omega)) dX2_taken_67
      by_cases c_4 : Int32.toInt y = 1
      · refine lv_tableIn (tgt := 68) hx hb dX2_taken_17 (by omega) (by omega) (off := 51) (by rw [c_4]; rfl) (by decide) ?_
        refine lv_aload_n hx hb dX2_taken_68 rfl (lv_at hl 0 rfl) ?_
        refine va_get (D := (dC, dI)) (ci := 3) (v := .ref (ad 14)) (C := RX2) (T := TX2) (N := 27) hx hb hts hin hown hK hP 0 rfl rfl 20 (by decide) hf_55 (fun _ h9 => h9) rfl dX2_taken_69 ?_
        refine lv_iload_n hx hb dX2_taken_72 rfl (lv_at hl 1 rfl) ?_
        refine f_iald hx hb hK hP 14 13 rfl rfl (k := i) (by omega) (by decide) (v := (nI (sTa S i))) rfl dX2_taken_73 ?_
        refine lv_i2l (v := (lN (sTa S i))) hx hb dX2_taken_74 (nI_l (by omega)) ?_
        exact f_rl hx hb hr hlocks (by simp only [tkF, ht]; (repeat' split) <;> first | rfl | contradiction | (exfalso; omega)) dX2_taken_75
      by_cases c_5 : Int32.toInt y = 2
      · refine lv_tableIn (tgt := 76) hx hb dX2_taken_17 (by omega) (by omega) (off := 59) (by rw [c_5]; rfl) (by decide) ?_
        refine lv_aload_n hx hb dX2_taken_76 rfl (lv_at hl 0 rfl) ?_
        refine va_get (D := (dC, dI)) (ci := 3) (v := .ref (ad 15)) (C := RX2) (T := TX2) (N := 27) hx hb hts hin hown hK hP 0 rfl rfl 21 (by decide) hf_58 (fun _ h9 => h9) rfl dX2_taken_77 ?_
        refine lv_iload_n hx hb dX2_taken_80 rfl (lv_at hl 1 rfl) ?_
        refine f_iald hx hb hK hP 15 14 rfl rfl (k := i) (by omega) (by decide) (v := (sTb S i)) rfl dX2_taken_81 ?_
        refine lv_i2l (v := (Int32.toInt64 (sTb S i))) hx hb dX2_taken_82 rfl ?_
        exact f_rl hx hb hr hlocks (by simp only [tkF, ht]; (repeat' split) <;> first | rfl | contradiction | (exfalso; omega)) dX2_taken_83
      by_cases c_6 : Int32.toInt y = 3
      · refine lv_tableIn (tgt := 84) hx hb dX2_taken_17 (by omega) (by omega) (off := 67) (by rw [c_6]; rfl) (by decide) ?_
        refine lv_aload_n hx hb dX2_taken_84 rfl (lv_at hl 0 rfl) ?_
        refine va_get (D := (dC, dI)) (ci := 3) (v := .ref (ad 16)) (C := RX2) (T := TX2) (N := 27) hx hb hts hin hown hK hP 0 rfl rfl 22 (by decide) hf_61 (fun _ h9 => h9) rfl dX2_taken_85 ?_
        refine lv_iload_n hx hb dX2_taken_88 rfl (lv_at hl 1 rfl) ?_
        refine f_iald hx hb hK hP 16 15 rfl rfl (k := i) (by omega) (by decide) (v := (sTy S i)) rfl dX2_taken_89 ?_
        refine lv_i2l (v := (Int32.toInt64 (sTy S i))) hx hb dX2_taken_90 rfl ?_
        exact f_rl hx hb hr hlocks (by simp only [tkF, ht]; (repeat' split) <;> first | rfl | contradiction | (exfalso; omega)) dX2_taken_91
      by_cases c_7 : Int32.toInt y = 4
      · refine lv_tableIn (tgt := 92) hx hb dX2_taken_17 (by omega) (by omega) (off := 75) (by rw [c_7]; rfl) (by decide) ?_
        refine lv_aload_n hx hb dX2_taken_92 rfl (lv_at hl 0 rfl) ?_
        refine va_get (D := (dC, dI)) (ci := 3) (v := .ref (ad 17)) (C := RX2) (T := TX2) (N := 27) hx hb hts hin hown hK hP 0 rfl rfl 23 (by decide) hf_64 (fun _ h9 => h9) rfl dX2_taken_93 ?_
        refine lv_iload_n hx hb dX2_taken_96 rfl (lv_at hl 1 rfl) ?_
        refine f_iald hx hb hK hP 17 16 rfl rfl (k := i) (by omega) (by decide) (v := (nI (sTt S i))) rfl dX2_taken_97 ?_
        refine lv_i2l (v := (lN (sTt S i))) hx hb dX2_taken_98 (nI_l (by omega)) ?_
        exact f_rl hx hb hr hlocks (by simp only [tkF, ht]; (repeat' split) <;> first | rfl | contradiction | (exfalso; omega)) dX2_taken_99
      by_cases c_8 : Int32.toInt y = 5
      · refine lv_tableIn (tgt := 100) hx hb dX2_taken_17 (by omega) (by omega) (off := 83) (by rw [c_8]; rfl) (by decide) ?_
        refine lv_aload_n hx hb dX2_taken_100 rfl (lv_at hl 0 rfl) ?_
        refine va_get (D := (dC, dI)) (ci := 3) (v := .ref (ad 18)) (C := RX2) (T := TX2) (N := 27) hx hb hts hin hown hK hP 0 rfl rfl 24 (by decide) hf_67 (fun _ h9 => h9) rfl dX2_taken_101 ?_
        refine lv_iload_n hx hb dX2_taken_104 rfl (lv_at hl 1 rfl) ?_
        refine f_lald hx hb hK hP 18 17 rfl rfl (k := i) (by omega) (by decide) (v := (lN (sTc S i))) rfl dX2_taken_105 ?_
        exact f_rl hx hb hr hlocks (by simp only [tkF, ht]; (repeat' split) <;> first | rfl | contradiction | (exfalso; omega)) dX2_taken_106
      by_cases c_9 : Int32.toInt y = 6
      · refine lv_tableIn (tgt := 107) hx hb dX2_taken_17 (by omega) (by omega) (off := 90) (by rw [c_9]; rfl) (by decide) ?_
        refine lv_aload_n hx hb dX2_taken_107 rfl (lv_at hl 0 rfl) ?_
        refine va_get (D := (dC, dI)) (ci := 3) (v := .ref (ad 19)) (C := RX2) (T := TX2) (N := 27) hx hb hts hin hown hK hP 0 rfl rfl 25 (by decide) hf_70 (fun _ h9 => h9) rfl dX2_taken_108 ?_
        refine lv_iload_n hx hb dX2_taken_111 rfl (lv_at hl 1 rfl) ?_
        refine f_lald hx hb hK hP 19 18 rfl rfl (k := i) (by omega) (by decide) (v := (lN (sTs S i))) rfl dX2_taken_112 ?_
        exact f_rl hx hb hr hlocks (by simp only [tkF, ht]; (repeat' split) <;> first | rfl | contradiction | (exfalso; omega)) dX2_taken_113
      refine lv_tableOut (tgt := 114) hx hb dX2_taken_17 (by omega) (by decide) ?_
      refine lv_ldc2 (v := -102) hx hb hown hc_126 dX2_taken_114 ?_
      exact f_rl hx hb hr hlocks (by simp only [tkF, ht]; (repeat' split) <;> first | rfl | contradiction | (exfalso; omega)) dX2_taken_117
    · refine lv_ldc2 (v := -101) hx hb hown hc_124 dX2_taken_12 ?_
      exact f_rl hx hb hr hlocks (by unfold tkF; rw [if_pos (by omega)]) dX2_taken_15
