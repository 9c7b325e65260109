abbrev rm_X1_weightForY : Room := { frames := 1, cells := 0, slots := 0, locals := 21 }
set_option maxHeartbeats 4000000 in
set_option maxRecDepth 100000 in
theorem c_X1_weightForY (l9 : Launch) (dC : Nat → ClassId) (dI : Nat → Nat → Nat) (ad : Nat → Nat) (cy : Nat → ClassId) (S : St) (u8 u9 : Nat → Nat) (c9 : Nat) (I : Inv S) (hc : c9 < 83968) : RoL l9 yX1_weightFor wsX1_weightFor rm_X1_weightForY [.ref (ad 0), .int (nI c9)] (xBY dC dI ad cy S u8 u9) (lN (wfF S c9)) := by
  refine Ro_start (cc := cX1_weightFor) (maxL := 7) (ret := (some .long)) (lv := [(0, .ref (ad 0)), (1, .int (nI c9))]) (by decide) rfl (Nat.le_of_ble_eq_true rfl) rfl ?_
  intro pp ee ss mm aa bl me co hx hb hr hml hts hown hlocks hnm hB ls hl
  obtain ⟨hP, hK⟩ := hB
  have hin : ∀ w9 ∈ wsX10, w9 ∈ wsX1_weightFor := fun w9 h9 => List.mem_cons_of_mem _ (List.mem_append_right _ h9)
  have hf_38 := hts (.fieldLink RX1 38 "FaultEvidence" "weights" "[J") (by decide +kernel)
  have hf_44 := hts (.fieldLink RX1 44 "FaultEvidence" "votes" "[I") (by decide +kernel)
  have hf_48 := hts (.fieldLink RX1 48 "FaultEvidence" "voteCount" "I") (by decide +kernel)
  have I1 := I.n
  refine lv_iload_n hx hb dX1_weightFor_0 rfl (lv_at hl 1 rfl) ?_
  refine lv_sipush (v := (-1793)) hx hb dX1_weightFor_1 (by decide) ?_
  refine lv_iand hx hb dX1_weightFor_4 ?_
  refine f_ti (y := (nI (c9 - c9 / 256 % 8 * 256))) (f_nm c9 hc) ?_
  refine lv_istore_n (lv' := [(2, .int (nI (c9 - c9 / 256 % 8 * 256))), (0, .ref (ad 0)), (1, .int (nI c9))]) hx hb dX1_weightFor_5 rfl hl (by decide) rfl (fun ls hl => ?_)
  refine lv_iload_n hx hb dX1_weightFor_6 rfl (lv_at hl 2 rfl) ?_
  refine f_cSi (As := [.int (nI c9)]) (rest := []) ⟨hx, hb, hml, hown, hts⟩ (c_X1_heightOf l9 c9 (by omega)) (va_cwS 1 hts gX1_weightFor_X1_heightOf rfl rfl rfl (by decide +kernel) ⟨Nat.le_of_ble_eq_true rfl, Nat.le_of_ble_eq_true rfl⟩) noB_bl noB_at rfl hl.1 rfl (Nat.le_of_ble_eq_true rfl) dX1_weightFor_7 ⟨Nat.zero_le _, Nat.zero_le _⟩ ?_
  refine lv_istore_n (lv' := [(3, .int (nI (c9 / 2048))), (2, .int (nI (c9 - c9 / 256 % 8 * 256))), (0, .ref (ad 0)), (1, .int (nI c9))]) hx hb dX1_weightFor_10 rfl hl (by decide) rfl (fun ls hl => ?_)
  refine lv_lconst (v := (lN 0)) hx hb dX1_weightFor_11 (by decide) ?_
  refine lv_lstore (lv' := [(4, .long (lN 0)), (3, .int (nI (c9 / 2048))), (2, .int (nI (c9 - c9 / 256 % 8 * 256))), (0, .ref (ad 0)), (1, .int (nI c9))]) hx hb dX1_weightFor_12 hl (by decide) rfl (fun ls hl => ?_)
  refine lv_iconst (v := (nI 0)) hx hb dX1_weightFor_14 (by decide) ?_
  refine lv_istore (lv' := [(6, .int (nI 0)), (4, .long (lN 0)), (3, .int (nI (c9 / 2048))), (2, .int (nI (c9 - c9 / 256 % 8 * 256))), (0, .ref (ad 0)), (1, .int (nI c9))]) hx hb dX1_weightFor_15 hl (by decide) rfl (fun ls hl => ?_)
  have loop_17 : ∀ (n9 : Nat) (v9 : Nat) (w9 : Nat), sVn S - v9 < n9 → w9 = sm v9 (wfT S c9) → v9 ≤ sVn S → ∀ ls : Array Slot, lv_has ls 7 [(6, .int (nI v9)), (4, .long (lN w9)), (3, .int (nI (c9 / 2048))), (2, .int (nI (c9 - c9 / 256 % 8 * 256))), (0, .ref (ad 0)), (1, .int (nI c9))] → W pp l9 ee rm_X1_weightForY ss mm aa bl me co ss.heap [] 0 0 (MQ bl (vp_Sl (fun z_ => z_ = lN (wfF S c9))) aa ss 0 0 (fun _ => False)) (F0 mm 17 ls []) := by
    intro n9
    induction n9 with
    | zero => intro v9 w9 hm; exact absurd hm (Nat.not_lt_zero _)
    | succ n9 ih_17 =>
      intro v9 w9 hm hw hvn ls hl
      refine lv_iload hx hb dX1_weightFor_17 (lv_at hl 0 rfl) ?_
      refine lv_aload_n hx hb dX1_weightFor_19 rfl (lv_at hl 4 rfl) ?_
      refine va_get (D := (dC, dI)) (ci := 2) (v := .int (nI (sVn S))) (C := RX1) (T := TX1) (N := 14) hx hb hts hin hown hK hP 0 rfl rfl 9 (by decide) hf_48 (fun _ h9 => h9) rfl dX1_weightFor_20 ?_
      refine f_ige (tgt := 71) hx hb (nI_toInt (by omega)) (nI_toInt (by omega)) dX1_weightFor_23 (by decide) (fun c_1 => ?_) (fun c_1 => ?_)
      · refine lv_lload hx hb dX1_weightFor_71 (lv_at hl 1 rfl) ?_
        exact f_rl hx hb hr hlocks (by have e9 : v9 = sVn S := (by omega); rw [hw, e9]; rfl) dX1_weightFor_73
      · have hv := I.v (v := v9) (by omega)
        refine lv_aload_n hx hb dX1_weightFor_26 rfl (lv_at hl 4 rfl) ?_
        refine va_get (D := (dC, dI)) (ci := 2) (v := .ref (ad 7)) (C := RX1) (T := TX1) (N := 14) hx hb hts hin hown hK hP 0 rfl rfl 8 (by decide) hf_44 (fun _ h9 => h9) rfl dX1_weightFor_27 ?_
        refine lv_iload hx hb dX1_weightFor_30 (lv_at hl 0 rfl) ?_
        refine f_iald hx hb hK hP 7 6 rfl rfl (k := v9) (by omega) (by decide) (v := (nI (sVts S v9))) rfl dX1_weightFor_32 ?_
        refine lv_sipush (v := (-1793)) hx hb dX1_weightFor_33 (by decide) ?_
        refine lv_iand hx hb dX1_weightFor_36 ?_
        refine f_ti (y := (nI (sVts S v9 - sVts S v9 / 256 % 8 * 256))) (f_nm _ (by omega)) ?_
        refine lv_iload_n hx hb dX1_weightFor_37 rfl (lv_at hl 3 rfl) ?_
        refine f_ine (tgt := 65) hx hb (nI_toInt (by omega)) (nI_toInt (by omega)) dX1_weightFor_38 (by decide) (fun c_2 => ?_) (fun c_2 => ?_)
        · refine lv_iinc (v := (nI (v9 + 1))) (lv' := [(6, .int (nI (v9 + 1))), (4, .long (lN w9)), (3, .int (nI (c9 / 2048))), (2, .int (nI (c9 - c9 / 256 % 8 * 256))), (0, .ref (ad 0)), (1, .int (nI c9))]) hx hb dX1_weightFor_65 hl (k := 0) rfl (nI_add v9 1) (by decide) rfl (fun ls hl => ?_)
          refine lv_goto (tgt := 17) hx hb dX1_weightFor_68 (by decide) ?_
          exact ih_17 (v9 + 1) w9 (by omega) (by rw [sm, ← hw]; unfold wfT; split <;> omega) (by omega) ls (lv_sub hl [0, 1, 2, 3, 4, 5] rfl)
        · refine lv_lload hx hb dX1_weightFor_41 (lv_at hl 1 rfl) ?_
          refine lv_aload_n hx hb dX1_weightFor_43 rfl (lv_at hl 4 rfl) ?_
          refine va_get (D := (dC, dI)) (ci := 2) (v := .ref (ad 5)) (C := RX1) (T := TX1) (N := 14) hx hb hts hin hown hK hP 0 rfl rfl 6 (by decide) hf_38 (fun _ h9 => h9) rfl dX1_weightFor_44 ?_
          refine lv_iload_n hx hb dX1_weightFor_47 rfl (lv_at hl 2 rfl) ?_
          refine lv_aload_n hx hb dX1_weightFor_48 rfl (lv_at hl 4 rfl) ?_
          refine va_get (D := (dC, dI)) (ci := 2) (v := .ref (ad 7)) (C := RX1) (T := TX1) (N := 14) hx hb hts hin hown hK hP 0 rfl rfl 8 (by decide) hf_44 (fun _ h9 => h9) rfl dX1_weightFor_49 ?_
          refine lv_iload hx hb dX1_weightFor_52 (lv_at hl 0 rfl) ?_
          refine f_iald hx hb hK hP 7 6 rfl rfl (k := v9) (by omega) (by decide) (v := (nI (sVts S v9))) rfl dX1_weightFor_54 ?_
          refine f_cSi (As := [.int (nI (sVts S v9))]) (rest := [.int (nI (c9 / 2048)), .ref (ad 5), .long (lN w9)]) ⟨hx, hb, hml, hown, hts⟩ (c_X1_nodeOf l9 (sVts S v9) (by omega)) (va_cwS 1 hts gX1_weightFor_X1_nodeOf rfl rfl rfl (by decide +kernel) ⟨Nat.le_of_ble_eq_true rfl, Nat.le_of_ble_eq_true rfl⟩) noB_bl noB_at rfl hl.1 rfl (Nat.le_of_ble_eq_true rfl) dX1_weightFor_55 ⟨Nat.zero_le _, Nat.zero_le _⟩ ?_
          refine f_cSi (As := [.int (nI (c9 / 2048)), .int (nI ((sVts S v9) / 256 % 8))]) (rest := [.ref (ad 5), .long (lN w9)]) ⟨hx, hb, hml, hown, hts⟩ (c_X1_weightIndex l9 (c9 / 2048) ((sVts S v9) / 256 % 8)) (va_cwS 2 hts gX1_weightFor_X1_weightIndex rfl rfl rfl (by decide +kernel) ⟨Nat.le_of_ble_eq_true rfl, Nat.le_of_ble_eq_true rfl⟩) noB_bl noB_at rfl hl.1 rfl (Nat.le_of_ble_eq_true rfl) dX1_weightFor_58 ⟨Nat.zero_le _, Nat.zero_le _⟩ ?_
          refine f_lald hx hb hK hP 5 4 rfl rfl (k := ((c9 / 2048) * 8 + ((sVts S v9) / 256 % 8))) (by omega) (by decide) (v := (lN (sWts S ((c9 / 2048) * 8 + ((sVts S v9) / 256 % 8))))) rfl dX1_weightFor_61 ?_
          refine lv_ladd hx hb dX1_weightFor_62 ?_
          refine f_tl (y := (lN (w9 + (sWts S ((c9 / 2048) * 8 + ((sVts S v9) / 256 % 8)))))) (lN_add _ _) ?_
          refine lv_lstore (lv' := [(4, .long (lN (w9 + (sWts S ((c9 / 2048) * 8 + ((sVts S v9) / 256 % 8)))))), (6, .int (nI v9)), (3, .int (nI (c9 / 2048))), (2, .int (nI (c9 - c9 / 256 % 8 * 256))), (0, .ref (ad 0)), (1, .int (nI c9))]) hx hb dX1_weightFor_63 hl (by decide) rfl (fun ls hl => ?_)
          refine lv_iinc (v := (nI (v9 + 1))) (lv' := [(6, .int (nI (v9 + 1))), (4, .long (lN (w9 + (sWts S ((c9 / 2048) * 8 + ((sVts S v9) / 256 % 8)))))), (3, .int (nI (c9 / 2048))), (2, .int (nI (c9 - c9 / 256 % 8 * 256))), (0, .ref (ad 0)), (1, .int (nI c9))]) hx hb dX1_weightFor_65 hl (k := 1) rfl (nI_add v9 1) (by decide) rfl (fun ls hl => ?_)
          refine lv_goto (tgt := 17) hx hb dX1_weightFor_68 (by decide) ?_
          exact ih_17 (v9 + 1) (w9 + (sWts S ((c9 / 2048) * 8 + ((sVts S v9) / 256 % 8)))) (by omega) (by rw [sm, ← hw]; unfold wfT; split <;> omega) (by omega) ls (lv_sub hl [0, 1, 2, 3, 4, 5] rfl)
  exact loop_17 (sVn S - 0 + 1) 0 0 (Nat.lt_succ_self _) (rfl) (Nat.zero_le _) ls (lv_sub hl [0, 1, 2, 3, 4, 5] rfl)

abbrev rm_X1_isTheMostY : Room := { frames := 0, cells := 0, slots := 0, locals := 0 }
set_option maxHeartbeats 4000000 in
set_option maxRecDepth 100000 in
theorem c_X1_isTheMostY (l9 : Launch) (dC : Nat → ClassId) (dI : Nat → Nat → Nat) (ad : Nat → Nat) (cy : Nat → ClassId) (S : St) (u8 u9 : Nat → Nat) (h9 : Nat) (w9 : Nat) (I : Inv S) (hh : h9 ≤ 40) (hw : w9 ≤ 300000000000) : RoI l9 yX1_isTheMost wsX1_isTheMost rm_X1_isTheMostY [.ref (ad 0), .int (nI h9), .long (lN w9)] (xBY dC dI ad cy S u8 u9) (bI (mostF S h9 w9)) := by
  refine Ro_start (cc := cX1_isTheMost) (maxL := 4) (ret := (some .boolean)) (lv := [(0, .ref (ad 0)), (1, .int (nI h9)), (2, .long (lN w9))]) (by decide) rfl (Nat.le_of_ble_eq_true rfl) rfl ?_
  intro pp ee ss mm aa bl me co hx hb hr hml hts hown hlocks hnm hB ls hl
  obtain ⟨hP, hK⟩ := hB
  have hin : ∀ w9 ∈ wsX10, w9 ∈ wsX1_isTheMost := fun w9 h9 => List.mem_cons_of_mem _ (List.mem_append_right _ h9)
  have hf_41 := hts (.fieldLink RX1 41 "FaultEvidence" "totals" "[J") (by decide +kernel)
  have hc_205 := hts (.constantLong RX1 205 (3)) (by decide +kernel)
  have hc_207 := hts (.constantLong RX1 207 (2)) (by decide +kernel)
  have I1 := I.n
  have I2 := I.t h9
  refine lv_ldc2 (v := 3) hx hb hown hc_205 dX1_isTheMost_0 ?_
  refine f_tl (y := (lN 3)) (by decide) ?_
  refine lv_lload_n hx hb dX1_isTheMost_3 rfl (lv_at hl 2 rfl) ?_
  refine lv_lmul hx hb dX1_isTheMost_4 ?_
  refine f_tl (y := (lN (3 * w9))) (lN_mul _ _) ?_
  refine lv_ldc2 (v := 2) hx hb hown hc_207 dX1_isTheMost_5 ?_
  refine f_tl (y := (lN 2)) (by decide) ?_
  refine lv_aload_n hx hb dX1_isTheMost_8 rfl (lv_at hl 0 rfl) ?_
  refine va_get (D := (dC, dI)) (ci := 2) (v := .ref (ad 6)) (C := RX1) (T := TX1) (N := 14) hx hb hts hin hown hK hP 0 rfl rfl 7 (by decide) hf_41 (fun _ h9 => h9) rfl dX1_isTheMost_9 ?_
  refine lv_iload_n hx hb dX1_isTheMost_12 rfl (lv_at hl 1 rfl) ?_
  refine f_lald hx hb hK hP 6 5 rfl rfl (k := h9) (by omega) (by decide) (v := (lN (sTot S h9))) rfl dX1_isTheMost_13 ?_
  refine lv_lmul hx hb dX1_isTheMost_14 ?_
  refine f_tl (y := (lN (2 * (sTot S h9)))) (lN_mul _ _) ?_
  refine f_lle (tgt := 23) hx hb (pk_lT (by omega)) (pk_lT (by omega)) dX1_isTheMost_15 dX1_isTheMost_16 (by decide) (fun c_1 => ?_) (fun c_1 => ?_)
  · refine lv_iconst (v := (nI 0)) hx hb dX1_isTheMost_23 (by decide) ?_
    exact f_r0 hx hb hr hlocks (by rw [← Bool.not_eq_true]; simp only [mostF, Bool.and_eq_true, Bool.or_eq_true, Bool.not_eq_true', decide_eq_true_eq]; omega) dX1_isTheMost_24
  · refine lv_iconst (v := (nI 1)) hx hb dX1_isTheMost_19 (by decide) ?_
    refine lv_goto (tgt := 24) hx hb dX1_isTheMost_20 (by decide) ?_
    exact f_r1 hx hb hr hlocks (by simp only [mostF, Bool.and_eq_true, Bool.or_eq_true, Bool.not_eq_true', decide_eq_true_eq]; omega) dX1_isTheMost_24

abbrev rm_X1_noteTheMost : Room := { frames := 1, cells := 0, slots := 0, locals := 20 }
set_option maxHeartbeats 4000000 in
set_option maxRecDepth 100000 in
theorem c_X1_noteTheMost (l9 : Launch) (dC : Nat → ClassId) (dI : Nat → Nat → Nat) (ad : Nat → Nat) (cy : Nat → ClassId) (S : St) (u8 u9 : Nat → Nat) (sz : Nat) (c9 : Nat) (hc : c9 < 83968) (hc1 : c9 % 16 < 10) (h8 : ∀ j9, u8 j9 < 1024) (h9a : ∀ j9, u9 j9 < 1024) : MuV l9 yX1_noteTheMost wsX1_noteTheMost rm_X1_noteTheMost [.ref (ad 0), .int (nI c9)] (dC, dI) ((xwr ad cy (nI (sNn S)) (nI (sHh S)) (nI (sVn S)) (lN (sBrn S)) (fun j9 => lN (sRul S j9)) (fun j9 => lN (sStk S j9)) (fun j9 => lN (sPrs S j9)) (fun j9 => bI (sOut S j9)) (fun j9 => lN (sWts S j9)) (fun j9 => lN (sTot S j9)) (fun j9 => nI (sVts S j9)) (fun j9 => nI (u8 j9)) (fun j9 => nI (u9 j9)))) (xwY ad cy S (if c9 / 16 % 2 = 0 then (va_up u8 (c9 / 2048 * 8 + c9 / 32 % 8) (u8 (c9 / 2048 * 8 + c9 / 32 % 8) ||| 2 ^ (c9 % 16))) else u8) (if c9 / 16 % 2 = 0 then u9 else (va_up u9 (c9 / 2048) (u9 (c9 / 2048) ||| 2 ^ (c9 % 16))))) (xty cy) sz := by
  refine Ro_start (cc := cX1_noteTheMost) (maxL := 3) (ret := none) (lv := [(0, .ref (ad 0)), (1, .int (nI c9))]) (by decide) rfl (Nat.le_of_ble_eq_true rfl) rfl ?_
  intro pp ee ss mm aa bl me co hx hb hr hml hts hown hlocks hnm hB ls hl
  obtain ⟨hsz, hP, hK, hD0⟩ := hB
  subst hsz
  have hD := hD0.self (sz := ss.heap.size)
  generalize hAe : va_A ((xwr ad cy (nI (sNn S)) (nI (sHh S)) (nI (sVn S)) (lN (sBrn S)) (fun j9 => lN (sRul S j9)) (fun j9 => lN (sStk S j9)) (fun j9 => lN (sPrs S j9)) (fun j9 => bI (sOut S j9)) (fun j9 => lN (sWts S j9)) (fun j9 => lN (sTot S j9)) (fun j9 => nI (sVts S j9)) (fun j9 => nI (u8 j9)) (fun j9 => nI (u9 j9)))) ss.heap.size = A at hD ⊢
  have hA : ∀ q9 : Nat, ss.heap.size ≤ q9 → A q9 := fun q9 h9 => by rw [← hAe]; exact Or.inr h9
  have hS : va_S A ss.heap ss.heap [] := va_S.rf
  have hP : va_P (dC, dI) vwCl (xwr ad cy (nI (sNn S)) (nI (sHh S)) (nI (sVn S)) (lN (sBrn S)) (fun j9 => lN (sRul S j9)) (fun j9 => lN (sStk S j9)) (fun j9 => lN (sPrs S j9)) (fun j9 => bI (sOut S j9)) (fun j9 => lN (sWts S j9)) (fun j9 => lN (sTot S j9)) (fun j9 => nI (sVts S j9)) (fun j9 => nI (u8 j9)) (fun j9 => nI (u9 j9))) ss.heap := hP
  have hD : va_D A (xwr ad cy (nI (sNn S)) (nI (sHh S)) (nI (sVn S)) (lN (sBrn S)) (fun j9 => lN (sRul S j9)) (fun j9 => lN (sStk S j9)) (fun j9 => lN (sPrs S j9)) (fun j9 => bI (sOut S j9)) (fun j9 => lN (sWts S j9)) (fun j9 => lN (sTot S j9)) (fun j9 => nI (sVts S j9)) (fun j9 => nI (u8 j9)) (fun j9 => nI (u9 j9))) := hD
  generalize hHe : ss.heap = H at hP
  have hS : va_S A ss.heap H [] := by rw [← hHe]; exact hS
  generalize hLe : ([] : List Loc) = locs at hS ⊢
  have hin : ∀ w9 ∈ wsX10, w9 ∈ wsX1_noteTheMost := fun w9 h9 => List.mem_cons_of_mem _ (List.mem_append_right _ h9)
  have hf_51 := hts (.fieldLink RX1 51 "FaultEvidence" "backedBlocks" "[I") (by decide +kernel)
  have hf_54 := hts (.fieldLink RX1 54 "FaultEvidence" "certainBlocks" "[I") (by decide +kernel)
  refine lv_iconst (v := (nI 1)) hx hb dX1_noteTheMost_0 (by decide) ?_
  refine lv_iload_n hx hb dX1_noteTheMost_1 rfl (lv_at hl 1 rfl) ?_
  refine f_cSi (As := [.int (nI c9)]) (rest := [.int (nI 1)]) ⟨hx, hb, hml, hown, hts⟩ (c_X1_blockOf l9 c9 (by omega)) (va_cwS 1 hts gX1_noteTheMost_X1_blockOf rfl rfl rfl (by decide +kernel) ⟨Nat.le_of_ble_eq_true rfl, Nat.le_of_ble_eq_true rfl⟩) noB_bl noB_at rfl hl.1 rfl (Nat.le_of_ble_eq_true rfl) dX1_noteTheMost_2 ⟨Nat.zero_le _, Nat.zero_le _⟩ ?_
  refine lv_ishl hx hb dX1_noteTheMost_5 ?_
  refine f_ti (y := (nI (2 ^ (c9 % 16)))) (f_shl1 (by omega)) ?_
  refine lv_istore_n (lv' := [(2, .int (nI (2 ^ (c9 % 16)))), (0, .ref (ad 0)), (1, .int (nI c9))]) hx hb dX1_noteTheMost_6 rfl hl (by decide) rfl (fun ls hl => ?_)
  have hp : 2 ^ (c9 % 16) < 2 ^ 10 := Nat.pow_lt_pow_right (by decide) hc1
  refine lv_iload_n hx hb dX1_noteTheMost_7 rfl (lv_at hl 2 rfl) ?_
  refine f_cSi (As := [.int (nI c9)]) (rest := []) ⟨hx, hb, hml, hown, hts⟩ (c_X1_stepOf l9 c9 (by omega)) (va_cwS 1 hts gX1_noteTheMost_X1_stepOf rfl rfl rfl (by decide +kernel) ⟨Nat.le_of_ble_eq_true rfl, Nat.le_of_ble_eq_true rfl⟩) noB_bl noB_at rfl hl.1 rfl (Nat.le_of_ble_eq_true rfl) dX1_noteTheMost_8 ⟨Nat.zero_le _, Nat.zero_le _⟩ ?_
  refine f_0ne (tgt := 38) hx hb (nI_toInt (by omega)) dX1_noteTheMost_11 (by decide) (fun c_1 => ?_) (fun c_1 => ?_)
  · refine lv_aload_n hx hb dX1_noteTheMost_38 rfl (lv_at hl 1 rfl) ?_
    refine va_get (D := (dC, dI)) (ci := 2) (v := .ref (ad 9)) (C := RX1) (T := TX1) (N := 14) hx hb hts hin hown hK hP 0 rfl rfl 11 (by decide) hf_54 (fun _ h9 => h9) rfl dX1_noteTheMost_39 ?_
    refine lv_iload_n hx hb dX1_noteTheMost_42 rfl (lv_at hl 2 rfl) ?_
    refine f_cSi (As := [.int (nI c9)]) (rest := [.ref (ad 9)]) ⟨hx, hb, hml, hown, hts⟩ (c_X1_heightOf l9 c9 (by omega)) (va_cwS 1 hts gX1_noteTheMost_X1_heightOf rfl rfl rfl (by decide +kernel) ⟨Nat.le_of_ble_eq_true rfl, Nat.le_of_ble_eq_true rfl⟩) noB_bl noB_at rfl hl.1 rfl (Nat.le_of_ble_eq_true rfl) dX1_noteTheMost_43 ⟨Nat.zero_le _, Nat.zero_le _⟩ ?_
    refine lv_dup2_11 hx hb dX1_noteTheMost_46 rfl rfl ?_
    refine f_iald hx hb hK hP 9 8 rfl rfl (k := (c9 / 2048)) (by omega) (by decide) (v := (nI (u9 (c9 / 2048)))) (rfl) dX1_noteTheMost_47 ?_
    refine lv_iload_n hx hb dX1_noteTheMost_48 rfl (lv_at hl 0 rfl) ?_
    refine lv_ior hx hb dX1_noteTheMost_49 ?_
    refine f_ti (y := (nI ((u9 (c9 / 2048)) ||| (2 ^ (c9 % 16))))) (nx_or _ _) ?_
    refine f_iast hx hb hK hP hD hS 9 8 rfl rfl (k := (c9 / 2048)) (by omega) (by decide) dX1_noteTheMost_50 (fun H locs hP hD hS => ?_)
    have hP : va_P (dC, dI) vwCl (xwr ad cy (nI (sNn S)) (nI (sHh S)) (nI (sVn S)) (lN (sBrn S)) (fun j9 => lN (sRul S j9)) (fun j9 => lN (sStk S j9)) (fun j9 => lN (sPrs S j9)) (fun j9 => bI (sOut S j9)) (fun j9 => lN (sWts S j9)) (fun j9 => lN (sTot S j9)) (fun j9 => nI (sVts S j9)) (fun j9 => nI (u8 j9)) (upd (fun j9 => nI (u9 j9)) (c9 / 2048) (nI ((u9 (c9 / 2048)) ||| (2 ^ (c9 % 16)))))) H := hP
    have hD : va_D A (xwr ad cy (nI (sNn S)) (nI (sHh S)) (nI (sVn S)) (lN (sBrn S)) (fun j9 => lN (sRul S j9)) (fun j9 => lN (sStk S j9)) (fun j9 => lN (sPrs S j9)) (fun j9 => bI (sOut S j9)) (fun j9 => lN (sWts S j9)) (fun j9 => lN (sTot S j9)) (fun j9 => nI (sVts S j9)) (fun j9 => nI (u8 j9)) (upd (fun j9 => nI (u9 j9)) (c9 / 2048) (nI ((u9 (c9 / 2048)) ||| (2 ^ (c9 % 16)))))) := hD
    have hW : (xwr ad cy (nI (sNn S)) (nI (sHh S)) (nI (sVn S)) (lN (sBrn S)) (fun j9 => lN (sRul S j9)) (fun j9 => lN (sStk S j9)) (fun j9 => lN (sPrs S j9)) (fun j9 => bI (sOut S j9)) (fun j9 => lN (sWts S j9)) (fun j9 => lN (sTot S j9)) (fun j9 => nI (sVts S j9)) (fun j9 => nI (u8 j9)) (upd (fun j9 => nI (u9 j9)) (c9 / 2048) (nI ((u9 (c9 / 2048)) ||| (2 ^ (c9 % 16)))))) = xwY ad cy S (if c9 / 16 % 2 = 0 then (va_up u8 (c9 / 2048 * 8 + c9 / 32 % 8) (u8 (c9 / 2048 * 8 + c9 / 32 % 8) ||| 2 ^ (c9 % 16))) else u8) (if c9 / 16 % 2 = 0 then u9 else (va_up u9 (c9 / 2048) (u9 (c9 / 2048) ||| 2 ^ (c9 % 16)))) := by first | (have hst : c9 / 16 % 2 = 0 := (by omega); rw [if_pos hst, if_pos hst]; exact xwr_eq rfl rfl rfl rfl rfl rfl rfl rfl rfl rfl rfl (upd_nI) rfl) | (have hst : ¬ c9 / 16 % 2 = 0 := (by omega); rw [if_neg hst, if_neg hst]; exact xwr_eq rfl rfl rfl rfl rfl rfl rfl rfl rfl rfl rfl rfl (upd_nI))
    rw [hW] at hP hD
    exact f_mv hx hb hr hlocks hP hK hD hS dX1_noteTheMost_51
  · refine lv_aload_n hx hb dX1_noteTheMost_14 rfl (lv_at hl 1 rfl) ?_
    refine va_get (D := (dC, dI)) (ci := 2) (v := .ref (ad 8)) (C := RX1) (T := TX1) (N := 14) hx hb hts hin hown hK hP 0 rfl rfl 10 (by decide) hf_51 (fun _ h9 => h9) rfl dX1_noteTheMost_15 ?_
    refine lv_iload_n hx hb dX1_noteTheMost_18 rfl (lv_at hl 2 rfl) ?_
    refine f_cSi (As := [.int (nI c9)]) (rest := [.ref (ad 8)]) ⟨hx, hb, hml, hown, hts⟩ (c_X1_heightOf l9 c9 (by omega)) (va_cwS 1 hts gX1_noteTheMost_X1_heightOf rfl rfl rfl (by decide +kernel) ⟨Nat.le_of_ble_eq_true rfl, Nat.le_of_ble_eq_true rfl⟩) noB_bl noB_at rfl hl.1 rfl (Nat.le_of_ble_eq_true rfl) dX1_noteTheMost_19 ⟨Nat.zero_le _, Nat.zero_le _⟩ ?_
    refine lv_bipush (v := (nI 8)) hx hb dX1_noteTheMost_22 (by decide) ?_
    refine lv_imul hx hb dX1_noteTheMost_24 ?_
    refine f_ti (y := (nI ((c9 / 2048) * 8))) (pk_mul _ _) ?_
    refine lv_iload_n hx hb dX1_noteTheMost_25 rfl (lv_at hl 2 rfl) ?_
    refine f_cSi (As := [.int (nI c9)]) (rest := [.int (nI ((c9 / 2048) * 8)), .ref (ad 8)]) ⟨hx, hb, hml, hown, hts⟩ (c_X1_roundOf l9 c9 (by omega)) (va_cwS 1 hts gX1_noteTheMost_X1_roundOf rfl rfl rfl (by decide +kernel) ⟨Nat.le_of_ble_eq_true rfl, Nat.le_of_ble_eq_true rfl⟩) noB_bl noB_at rfl hl.1 rfl (Nat.le_of_ble_eq_true rfl) dX1_noteTheMost_26 ⟨Nat.zero_le _, Nat.zero_le _⟩ ?_
    refine lv_iadd hx hb dX1_noteTheMost_29 ?_
    refine f_ti (y := (nI (((c9 / 2048) * 8) + (c9 / 32 % 8)))) (nI_add _ _) ?_
    refine lv_dup2_11 hx hb dX1_noteTheMost_30 rfl rfl ?_
    refine f_iald hx hb hK hP 8 7 rfl rfl (k := (((c9 / 2048) * 8) + (c9 / 32 % 8))) (by omega) (by decide) (v := (nI (u8 (((c9 / 2048) * 8) + (c9 / 32 % 8))))) (rfl) dX1_noteTheMost_31 ?_
    refine lv_iload_n hx hb dX1_noteTheMost_32 rfl (lv_at hl 0 rfl) ?_
    refine lv_ior hx hb dX1_noteTheMost_33 ?_
    refine f_ti (y := (nI ((u8 (((c9 / 2048) * 8) + (c9 / 32 % 8))) ||| (2 ^ (c9 % 16))))) (nx_or _ _) ?_
    refine f_iast hx hb hK hP hD hS 8 7 rfl rfl (k := (((c9 / 2048) * 8) + (c9 / 32 % 8))) (by omega) (by decide) dX1_noteTheMost_34 (fun H locs hP hD hS => ?_)
    have hP : va_P (dC, dI) vwCl (xwr ad cy (nI (sNn S)) (nI (sHh S)) (nI (sVn S)) (lN (sBrn S)) (fun j9 => lN (sRul S j9)) (fun j9 => lN (sStk S j9)) (fun j9 => lN (sPrs S j9)) (fun j9 => bI (sOut S j9)) (fun j9 => lN (sWts S j9)) (fun j9 => lN (sTot S j9)) (fun j9 => nI (sVts S j9)) (upd (fun j9 => nI (u8 j9)) (((c9 / 2048) * 8) + (c9 / 32 % 8)) (nI ((u8 (((c9 / 2048) * 8) + (c9 / 32 % 8))) ||| (2 ^ (c9 % 16))))) (fun j9 => nI (u9 j9))) H := hP
    have hD : va_D A (xwr ad cy (nI (sNn S)) (nI (sHh S)) (nI (sVn S)) (lN (sBrn S)) (fun j9 => lN (sRul S j9)) (fun j9 => lN (sStk S j9)) (fun j9 => lN (sPrs S j9)) (fun j9 => bI (sOut S j9)) (fun j9 => lN (sWts S j9)) (fun j9 => lN (sTot S j9)) (fun j9 => nI (sVts S j9)) (upd (fun j9 => nI (u8 j9)) (((c9 / 2048) * 8) + (c9 / 32 % 8)) (nI ((u8 (((c9 / 2048) * 8) + (c9 / 32 % 8))) ||| (2 ^ (c9 % 16))))) (fun j9 => nI (u9 j9))) := hD
    refine lv_goto (tgt := 51) hx hb dX1_noteTheMost_35 (by decide) ?_
    have hW : (xwr ad cy (nI (sNn S)) (nI (sHh S)) (nI (sVn S)) (lN (sBrn S)) (fun j9 => lN (sRul S j9)) (fun j9 => lN (sStk S j9)) (fun j9 => lN (sPrs S j9)) (fun j9 => bI (sOut S j9)) (fun j9 => lN (sWts S j9)) (fun j9 => lN (sTot S j9)) (fun j9 => nI (sVts S j9)) (upd (fun j9 => nI (u8 j9)) (((c9 / 2048) * 8) + (c9 / 32 % 8)) (nI ((u8 (((c9 / 2048) * 8) + (c9 / 32 % 8))) ||| (2 ^ (c9 % 16))))) (fun j9 => nI (u9 j9))) = xwY ad cy S (if c9 / 16 % 2 = 0 then (va_up u8 (c9 / 2048 * 8 + c9 / 32 % 8) (u8 (c9 / 2048 * 8 + c9 / 32 % 8) ||| 2 ^ (c9 % 16))) else u8) (if c9 / 16 % 2 = 0 then u9 else (va_up u9 (c9 / 2048) (u9 (c9 / 2048) ||| 2 ^ (c9 % 16)))) := by first | (have hst : c9 / 16 % 2 = 0 := (by omega); rw [if_pos hst, if_pos hst]; exact xwr_eq rfl rfl rfl rfl rfl rfl rfl rfl rfl rfl rfl (upd_nI) rfl) | (have hst : ¬ c9 / 16 % 2 = 0 := (by omega); rw [if_neg hst, if_neg hst]; exact xwr_eq rfl rfl rfl rfl rfl rfl rfl rfl rfl rfl rfl rfl (upd_nI))
    rw [hW] at hP hD
    exact f_mv hx hb hr hlocks hP hK hD hS dX1_noteTheMost_51
