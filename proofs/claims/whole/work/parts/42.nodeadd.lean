abbrev rm_X1_node : Room := { frames := 0, cells := 0, slots := 0, locals := 0 }
set_option maxHeartbeats 4000000 in
set_option maxRecDepth 100000 in
theorem c_X1_node (l9 : Launch) (dC : Nat → ClassId) (dI : Nat → Nat → Nat) (ad : Nat → Nat) (cy : Nat → ClassId) (S : St) (sz : Nat) (x9 : Int64) (I : Inv S) : MuI l9 yX1_node wsX1_node rm_X1_node [.ref (ad 0), .long x9] (dC, dI) (xw ad cy S) (xw ad cy (nodG S x9)) (xty cy) sz (nodF S x9) := by
  refine Ro_start (cc := cX1_node) (maxL := 3) (ret := (some .int)) (lv := [(0, .ref (ad 0)), (1, .long x9)]) (by decide) rfl (Nat.le_of_ble_eq_true rfl) rfl ?_
  intro pp ee ss mm aa bl me co hx hb hr hml hts hown hlocks hnm hB ls hl
  obtain ⟨hsz, hP, hK, hD0⟩ := hB
  subst hsz
  have hD := hD0.self (sz := ss.heap.size)
  generalize hAe : va_A (xw ad cy S) ss.heap.size = A at hD ⊢
  have hA : ∀ q9 : Nat, ss.heap.size ≤ q9 → A q9 := fun q9 h9 => by rw [← hAe]; exact Or.inr h9
  have hS : va_S A ss.heap ss.heap [] := va_S.rf
  have hP : va_P (dC, dI) vwCl (xwr ad cy (nI (sNn S)) (nI (sHh S)) (nI (sVn S)) (lN (sBrn S)) (fun j9 => lN (sRul S j9)) (fun j9 => lN (sStk S j9)) (fun j9 => lN (sPrs S j9)) (fun j9 => bI (sOut S j9)) (fun j9 => lN (sWts S j9)) (fun j9 => lN (sTot S j9)) (fun j9 => nI (sVts S j9)) (fun j9 => nI (bbF S j9)) (fun j9 => nI (cbF S j9))) ss.heap := hP
  have hD : va_D A (xwr ad cy (nI (sNn S)) (nI (sHh S)) (nI (sVn S)) (lN (sBrn S)) (fun j9 => lN (sRul S j9)) (fun j9 => lN (sStk S j9)) (fun j9 => lN (sPrs S j9)) (fun j9 => bI (sOut S j9)) (fun j9 => lN (sWts S j9)) (fun j9 => lN (sTot S j9)) (fun j9 => nI (sVts S j9)) (fun j9 => nI (bbF S j9)) (fun j9 => nI (cbF S j9))) := hD
  generalize hHe : ss.heap = H at hP
  have hS : va_S A ss.heap H [] := by rw [← hHe]; exact hS
  generalize hLe : ([] : List Loc) = locs at hS ⊢
  have hin : ∀ w9 ∈ wsX10, w9 ∈ wsX1_node := fun w9 h9 => List.mem_cons_of_mem _ (List.mem_append_right _ h9)
  have hf_21 := hts (.fieldLink RX1 21 "FaultEvidence" "stakes" "[J") (by decide +kernel)
  have hf_31 := hts (.fieldLink RX1 31 "FaultEvidence" "nodeCount" "I") (by decide +kernel)
  have hc_68 := hts (.constantLong RX1 68 (1000000000)) (by decide +kernel)
  have I1 := I.n
  refine lv_lload_n hx hb dX1_node_0 rfl (lv_at hl 1 rfl) ?_
  refine lv_lconst (v := (lN 1)) hx hb dX1_node_1 (by decide) ?_
  refine f_llt (tgt := 14) hx hb (rfl) (pk_lT (by omega)) dX1_node_2 dX1_node_3 (by decide) (fun c_1 => ?_) (fun c_1 => ?_)
  · refine lv_bipush (v := (-102)) hx hb dX1_node_14 (by decide) ?_
    have hW : (xwr ad cy (nI (sNn S)) (nI (sHh S)) (nI (sVn S)) (lN (sBrn S)) (fun j9 => lN (sRul S j9)) (fun j9 => lN (sStk S j9)) (fun j9 => lN (sPrs S j9)) (fun j9 => bI (sOut S j9)) (fun j9 => lN (sWts S j9)) (fun j9 => lN (sTot S j9)) (fun j9 => nI (sVts S j9)) (fun j9 => nI (bbF S j9)) (fun j9 => nI (cbF S j9))) = xw ad cy (nodG S x9) := by rw [show nodG S x9 = S by unfold nodG; rw [if_neg]; simp only [okN, Bool.and_eq_true, decide_eq_true_eq]; omega]
    rw [hW] at hP hD
    exact f_mi hx hb hr hlocks (by unfold nodF; rw [if_pos (by omega)]) hP hK hD hS dX1_node_16
  · refine lv_lload_n hx hb dX1_node_6 rfl (lv_at hl 1 rfl) ?_
    refine lv_ldc2 (v := 1000000000) hx hb hown hc_68 dX1_node_7 ?_
    refine f_tl (y := (lN 1000000000)) (by decide) ?_
    refine f_lle (tgt := 17) hx hb (rfl) (pk_lT (by omega)) dX1_node_10 dX1_node_11 (by decide) (fun c_2 => ?_) (fun c_2 => ?_)
    · refine lv_aload_n hx hb dX1_node_17 rfl (lv_at hl 0 rfl) ?_
      refine va_get (D := (dC, dI)) (ci := 2) (v := .int (nI (sNn S))) (C := RX1) (T := TX1) (N := 14) hx hb hts hin hown hK hP 0 rfl rfl 4 (by decide) hf_31 (fun _ h9 => h9) rfl dX1_node_18 ?_
      refine lv_bipush (v := (nI 8)) hx hb dX1_node_21 (by decide) ?_
      refine f_ilt (tgt := 29) hx hb (nI_toInt (by omega)) (nI_toInt (by omega)) dX1_node_23 (by decide) (fun c_3 => ?_) (fun c_3 => ?_)
      · have hok : nodG S x9 = nodS S x9.toInt.toNat := by
          unfold nodG
          rw [if_pos]
          simp only [okN, Bool.and_eq_true, decide_eq_true_eq]
          omega
        obtain ⟨g9, hg, hg2⟩ := lN_of (x := x9) (by omega)
        have hg3 : x9.toInt.toNat = g9 := by omega
        rw [hg3] at hok
        have hnf : nodF S x9 = nI (sNn S) := by
          unfold nodF
          rw [if_neg (by omega), if_neg (by omega)]
        refine lv_aload_n hx hb dX1_node_29 rfl (lv_at hl 0 rfl) ?_
        refine va_get (D := (dC, dI)) (ci := 2) (v := .ref (ad 2)) (C := RX1) (T := TX1) (N := 14) hx hb hts hin hown hK hP 0 rfl rfl 1 (by decide) hf_21 (fun _ h9 => h9) rfl dX1_node_30 ?_
        refine lv_aload_n hx hb dX1_node_33 rfl (lv_at hl 0 rfl) ?_
        refine va_get (D := (dC, dI)) (ci := 2) (v := .int (nI (sNn S))) (C := RX1) (T := TX1) (N := 14) hx hb hts hin hown hK hP 0 rfl rfl 4 (by decide) hf_31 (fun _ h9 => h9) rfl dX1_node_34 ?_
        refine lv_lload_n hx hb dX1_node_37 rfl (lv_at hl 1 rfl) ?_
        refine f_last hx hb hK hP hD hS 2 1 rfl rfl (k := (sNn S)) (by omega) (by decide) dX1_node_38 (fun H locs hP hD hS => ?_)
        have hP : va_P (dC, dI) vwCl (xwr ad cy (nI (sNn S)) (nI (sHh S)) (nI (sVn S)) (lN (sBrn S)) (fun j9 => lN (sRul S j9)) (vp_updL (fun j9 => lN (sStk S j9)) (sNn S) x9) (fun j9 => lN (sPrs S j9)) (fun j9 => bI (sOut S j9)) (fun j9 => lN (sWts S j9)) (fun j9 => lN (sTot S j9)) (fun j9 => nI (sVts S j9)) (fun j9 => nI (bbF S j9)) (fun j9 => nI (cbF S j9))) H := hP
        have hD : va_D A (xwr ad cy (nI (sNn S)) (nI (sHh S)) (nI (sVn S)) (lN (sBrn S)) (fun j9 => lN (sRul S j9)) (vp_updL (fun j9 => lN (sStk S j9)) (sNn S) x9) (fun j9 => lN (sPrs S j9)) (fun j9 => bI (sOut S j9)) (fun j9 => lN (sWts S j9)) (fun j9 => lN (sTot S j9)) (fun j9 => nI (sVts S j9)) (fun j9 => nI (bbF S j9)) (fun j9 => nI (cbF S j9))) := hD
        refine lv_aload_n hx hb dX1_node_39 rfl (lv_at hl 0 rfl) ?_
        refine lv_dup hx hb dX1_node_40 rfl ?_
        refine va_get (D := (dC, dI)) (ci := 2) (v := .int (nI (sNn S))) (C := RX1) (T := TX1) (N := 14) hx hb hts hin hown hK hP 0 rfl rfl 4 (by decide) hf_31 (fun _ h9 => h9) rfl dX1_node_41 ?_
        refine lv_iconst (v := (nI 1)) hx hb dX1_node_44 (by decide) ?_
        refine lv_iadd hx hb dX1_node_45 ?_
        refine f_ti (y := (nI ((sNn S) + 1))) (nI_add _ _) ?_
        refine va_put (D := (dC, dI)) (ci := 2) (v := .int (nI ((sNn S) + 1))) (ty := .int) (C := RX1) (T := TX1) (N := 14) hx hb hts hin tyX1 tyX1_ok nmX1 hown hK hP hD hS 0 rfl rfl 4 (by decide) hf_31 (fun _ h9 => h9) rfl (by decide +kernel) rfl rfl (Nat.le_of_ble_eq_true rfl) dX1_node_46 (fun H locs hP hD hS => ?_)
        have hP : va_P (dC, dI) vwCl (xwr ad cy (nI ((sNn S) + 1)) (nI (sHh S)) (nI (sVn S)) (lN (sBrn S)) (fun j9 => lN (sRul S j9)) (vp_updL (fun j9 => lN (sStk S j9)) (sNn S) x9) (fun j9 => lN (sPrs S j9)) (fun j9 => bI (sOut S j9)) (fun j9 => lN (sWts S j9)) (fun j9 => lN (sTot S j9)) (fun j9 => nI (sVts S j9)) (fun j9 => nI (bbF S j9)) (fun j9 => nI (cbF S j9))) H := hP
        have hD : va_D A (xwr ad cy (nI ((sNn S) + 1)) (nI (sHh S)) (nI (sVn S)) (lN (sBrn S)) (fun j9 => lN (sRul S j9)) (vp_updL (fun j9 => lN (sStk S j9)) (sNn S) x9) (fun j9 => lN (sPrs S j9)) (fun j9 => bI (sOut S j9)) (fun j9 => lN (sWts S j9)) (fun j9 => lN (sTot S j9)) (fun j9 => nI (sVts S j9)) (fun j9 => nI (bbF S j9)) (fun j9 => nI (cbF S j9))) := hD
        refine lv_aload_n hx hb dX1_node_49 rfl (lv_at hl 0 rfl) ?_
        refine va_get (D := (dC, dI)) (ci := 2) (v := .int (nI ((sNn S) + 1))) (C := RX1) (T := TX1) (N := 14) hx hb hts hin hown hK hP 0 rfl rfl 4 (by decide) hf_31 (fun _ h9 => h9) rfl dX1_node_50 ?_
        refine lv_iconst (v := (nI 1)) hx hb dX1_node_53 (by decide) ?_
        refine lv_isub hx hb dX1_node_54 ?_
        refine f_ti (y := (nI (sNn S))) (pk_sub (a := sNn S + 1) (b := 1) (by omega)) ?_
        have hW : (xwr ad cy (nI ((sNn S) + 1)) (nI (sHh S)) (nI (sVn S)) (lN (sBrn S)) (fun j9 => lN (sRul S j9)) (vp_updL (fun j9 => lN (sStk S j9)) (sNn S) x9) (fun j9 => lN (sPrs S j9)) (fun j9 => bI (sOut S j9)) (fun j9 => lN (sWts S j9)) (fun j9 => lN (sTot S j9)) (fun j9 => nI (sVts S j9)) (fun j9 => nI (bbF S j9)) (fun j9 => nI (cbF S j9))) = xw ad cy (nodG S x9) := by rw [hok, hg]; exact xwr_eq rfl rfl rfl rfl rfl (updL_lN) rfl rfl rfl rfl rfl (bb_of rfl rfl rfl rfl) (cb_of rfl rfl rfl rfl)
        rw [hW] at hP hD
        exact f_mi hx hb hr hlocks (hnf.symm) hP hK hD hS dX1_node_55
      · refine lv_bipush (v := (-104)) hx hb dX1_node_26 (by decide) ?_
        have hW : (xwr ad cy (nI (sNn S)) (nI (sHh S)) (nI (sVn S)) (lN (sBrn S)) (fun j9 => lN (sRul S j9)) (fun j9 => lN (sStk S j9)) (fun j9 => lN (sPrs S j9)) (fun j9 => bI (sOut S j9)) (fun j9 => lN (sWts S j9)) (fun j9 => lN (sTot S j9)) (fun j9 => nI (sVts S j9)) (fun j9 => nI (bbF S j9)) (fun j9 => nI (cbF S j9))) = xw ad cy (nodG S x9) := by rw [show nodG S x9 = S by unfold nodG; rw [if_neg]; simp only [okN, Bool.and_eq_true, decide_eq_true_eq]; omega]
        rw [hW] at hP hD
        exact f_mi hx hb hr hlocks (by unfold nodF; rw [if_neg (by omega), if_pos (by omega)]) hP hK hD hS dX1_node_28
    · refine lv_bipush (v := (-102)) hx hb dX1_node_14 (by decide) ?_
      have hW : (xwr ad cy (nI (sNn S)) (nI (sHh S)) (nI (sVn S)) (lN (sBrn S)) (fun j9 => lN (sRul S j9)) (fun j9 => lN (sStk S j9)) (fun j9 => lN (sPrs S j9)) (fun j9 => bI (sOut S j9)) (fun j9 => lN (sWts S j9)) (fun j9 => lN (sTot S j9)) (fun j9 => nI (sVts S j9)) (fun j9 => nI (bbF S j9)) (fun j9 => nI (cbF S j9))) = xw ad cy (nodG S x9) := by rw [show nodG S x9 = S by unfold nodG; rw [if_neg]; simp only [okN, Bool.and_eq_true, decide_eq_true_eq]; omega]
      rw [hW] at hP hD
      exact f_mi hx hb hr hlocks (by unfold nodF; rw [if_pos (by omega)]) hP hK hD hS dX1_node_16

abbrev rm_X2_node : Room := { frames := 1, cells := 0, slots := 0, locals := 25 }
set_option maxHeartbeats 4000000 in
set_option maxRecDepth 100000 in
theorem c_X2_node (l9 : Launch) (dC : Nat → ClassId) (dI : Nat → Nat → Nat) (ad : Nat → Nat) (cy : Nat → ClassId) (S : St) (sz : Nat) (x9 : Int64) (I : Inv S) : MuI l9 yX2_node wsX2_node rm_X2_node [.ref (ad 0), .long x9] (dC, dI) (mw ad cy S) (mw ad cy (nodG S x9)) (mty cy) sz (nodF S x9) := by
  refine Ro_start (cc := cX2_node) (maxL := 3) (ret := (some .int)) (lv := [(0, .ref (ad 0)), (1, .long x9)]) (by decide) rfl (Nat.le_of_ble_eq_true rfl) rfl ?_
  intro pp ee ss mm aa bl me co hx hb hr hml hts hown hlocks hnm hB ls hl
  obtain ⟨hsz, hP, hK, hD0⟩ := hB
  subst hsz
  have hD := hD0.self (sz := ss.heap.size)
  generalize hAe : va_A (mw ad cy S) ss.heap.size = A at hD ⊢
  have hA : ∀ q9 : Nat, ss.heap.size ≤ q9 → A q9 := fun q9 h9 => by rw [← hAe]; exact Or.inr h9
  have hS : va_S A ss.heap ss.heap [] := va_S.rf
  have hP : va_P (dC, dI) vwCl (mwr ad cy (nI (sNn S)) (nI (sHh S)) (nI (sVn S)) (nI (sRul S 3)) (lN (sRul S 4)) (lN (sBrn S)) (nI (sTn S)) (fun j9 => lN (sStk S j9)) (fun j9 => lN (sPrs S j9)) (fun j9 => bI (sOut S j9)) (fun j9 => lN (sWts S j9)) (fun j9 => lN (sTot S j9)) (fun j9 => nI (sVts S j9 / 256 % 8)) (fun j9 => nI (sVts S j9 / 2048)) (fun j9 => nI (sVts S j9 / 32 % 8)) (fun j9 => nI (sVts S j9 / 16 % 2)) (fun j9 => nI (sVts S j9 % 16)) (fun j9 => nI (syF S j9)) (fun j9 => nI (rtF S j9)) (fun j9 => nI (sTk S j9)) (fun j9 => nI (sTa S j9)) (fun j9 => sTb S j9) (fun j9 => sTy S j9) (fun j9 => nI (sTt S j9)) (fun j9 => lN (sTc S j9)) (fun j9 => lN (sTs S j9)) (fun j9 => bI (dnF S j9))) ss.heap := hP
  have hD : va_D A (mwr ad cy (nI (sNn S)) (nI (sHh S)) (nI (sVn S)) (nI (sRul S 3)) (lN (sRul S 4)) (lN (sBrn S)) (nI (sTn S)) (fun j9 => lN (sStk S j9)) (fun j9 => lN (sPrs S j9)) (fun j9 => bI (sOut S j9)) (fun j9 => lN (sWts S j9)) (fun j9 => lN (sTot S j9)) (fun j9 => nI (sVts S j9 / 256 % 8)) (fun j9 => nI (sVts S j9 / 2048)) (fun j9 => nI (sVts S j9 / 32 % 8)) (fun j9 => nI (sVts S j9 / 16 % 2)) (fun j9 => nI (sVts S j9 % 16)) (fun j9 => nI (syF S j9)) (fun j9 => nI (rtF S j9)) (fun j9 => nI (sTk S j9)) (fun j9 => nI (sTa S j9)) (fun j9 => sTb S j9) (fun j9 => sTy S j9) (fun j9 => nI (sTt S j9)) (fun j9 => lN (sTc S j9)) (fun j9 => lN (sTs S j9)) (fun j9 => bI (dnF S j9))) := hD
  generalize hHe : ss.heap = H at hP
  have hS : va_S A ss.heap H [] := by rw [← hHe]; exact hS
  generalize hLe : ([] : List Loc) = locs at hS ⊢
  have hin : ∀ w9 ∈ wsX20, w9 ∈ wsX2_node := fun w9 h9 => List.mem_cons_of_mem _ (List.mem_append_right _ h9)
  have hf_7 := hts (.fieldLink RX2 7 "FaultEvidenceModel" "stakes" "[J") (by decide +kernel)
  have hf_76 := hts (.fieldLink RX2 76 "FaultEvidenceModel" "nodes" "I") (by decide +kernel)
  have hc_115 := hts (.constantLong RX2 115 (1000000000)) (by decide +kernel)
  have I1 := I.n
  refine lv_lload_n hx hb dX2_node_0 rfl (lv_at hl 1 rfl) ?_
  refine lv_lconst (v := (lN 1)) hx hb dX2_node_1 (by decide) ?_
  refine lv_ldc2 (v := 1000000000) hx hb hown hc_115 dX2_node_2 ?_
  refine f_tl (y := (lN 1000000000)) (by decide) ?_
  refine f_cSi (As := [.long x9, .long (lN 1), .long (lN 1000000000)]) (rest := []) ⟨hx, hb, hml, hown, hts⟩ (c_X2_in l9 x9 (lN 1) (lN 1000000000)) (va_cwS 3 hts gX2_node_X2_in rfl rfl rfl (by decide +kernel) ⟨Nat.le_of_ble_eq_true rfl, Nat.le_of_ble_eq_true rfl⟩) noB_bl noB_at rfl hl.1 rfl (Nat.le_of_ble_eq_true rfl) dX2_node_5 ⟨Nat.zero_le _, Nat.zero_le _⟩ ?_
  refine f_bne (tgt := 14) hx hb dX2_node_8 (by decide) (fun c_1 => ?_) (fun c_1 => ?_)
  · simp only [inF, Bool.and_eq_true, decide_eq_true_eq, pk_lT (show (1 : Nat) < 2 ^ 63 by decide), pk_lT (show (1000000000 : Nat) < 2 ^ 63 by decide)] at c_1
    refine lv_aload_n hx hb dX2_node_14 rfl (lv_at hl 0 rfl) ?_
    refine va_get (D := (dC, dI)) (ci := 3) (v := .int (nI (sNn S))) (C := RX2) (T := TX2) (N := 27) hx hb hts hin hown hK hP 0 rfl rfl 0 (by decide) hf_76 (fun _ h9 => h9) rfl dX2_node_15 ?_
    refine lv_bipush (v := (nI 8)) hx hb dX2_node_18 (by decide) ?_
    refine f_ine (tgt := 26) hx hb (nI_toInt (by omega)) (nI_toInt (by omega)) dX2_node_20 (by decide) (fun c_2 => ?_) (fun c_2 => ?_)
    · have hok : nodG S x9 = nodS S x9.toInt.toNat := by
        unfold nodG
        rw [if_pos]
        simp only [okN, Bool.and_eq_true, decide_eq_true_eq]
        omega
      obtain ⟨g9, hg, hg2⟩ := lN_of (x := x9) (by omega)
      have hg3 : x9.toInt.toNat = g9 := by omega
      rw [hg3] at hok
      have hnf : nodF S x9 = nI (sNn S) := by
        unfold nodF
        rw [if_neg (by omega), if_neg (by omega)]
      refine lv_aload_n hx hb dX2_node_26 rfl (lv_at hl 0 rfl) ?_
      refine va_get (D := (dC, dI)) (ci := 3) (v := .ref (ad 1)) (C := RX2) (T := TX2) (N := 27) hx hb hts hin hown hK hP 0 rfl rfl 1 (by decide) hf_7 (fun _ h9 => h9) rfl dX2_node_27 ?_
      refine lv_aload_n hx hb dX2_node_30 rfl (lv_at hl 0 rfl) ?_
      refine va_get (D := (dC, dI)) (ci := 3) (v := .int (nI (sNn S))) (C := RX2) (T := TX2) (N := 27) hx hb hts hin hown hK hP 0 rfl rfl 0 (by decide) hf_76 (fun _ h9 => h9) rfl dX2_node_31 ?_
      refine lv_lload_n hx hb dX2_node_34 rfl (lv_at hl 1 rfl) ?_
      refine f_last hx hb hK hP hD hS 1 0 rfl rfl (k := (sNn S)) (by omega) (by decide) dX2_node_35 (fun H locs hP hD hS => ?_)
      have hP : va_P (dC, dI) vwCl (mwr ad cy (nI (sNn S)) (nI (sHh S)) (nI (sVn S)) (nI (sRul S 3)) (lN (sRul S 4)) (lN (sBrn S)) (nI (sTn S)) (vp_updL (fun j9 => lN (sStk S j9)) (sNn S) x9) (fun j9 => lN (sPrs S j9)) (fun j9 => bI (sOut S j9)) (fun j9 => lN (sWts S j9)) (fun j9 => lN (sTot S j9)) (fun j9 => nI (sVts S j9 / 256 % 8)) (fun j9 => nI (sVts S j9 / 2048)) (fun j9 => nI (sVts S j9 / 32 % 8)) (fun j9 => nI (sVts S j9 / 16 % 2)) (fun j9 => nI (sVts S j9 % 16)) (fun j9 => nI (syF S j9)) (fun j9 => nI (rtF S j9)) (fun j9 => nI (sTk S j9)) (fun j9 => nI (sTa S j9)) (fun j9 => sTb S j9) (fun j9 => sTy S j9) (fun j9 => nI (sTt S j9)) (fun j9 => lN (sTc S j9)) (fun j9 => lN (sTs S j9)) (fun j9 => bI (dnF S j9))) H := hP
      have hD : va_D A (mwr ad cy (nI (sNn S)) (nI (sHh S)) (nI (sVn S)) (nI (sRul S 3)) (lN (sRul S 4)) (lN (sBrn S)) (nI (sTn S)) (vp_updL (fun j9 => lN (sStk S j9)) (sNn S) x9) (fun j9 => lN (sPrs S j9)) (fun j9 => bI (sOut S j9)) (fun j9 => lN (sWts S j9)) (fun j9 => lN (sTot S j9)) (fun j9 => nI (sVts S j9 / 256 % 8)) (fun j9 => nI (sVts S j9 / 2048)) (fun j9 => nI (sVts S j9 / 32 % 8)) (fun j9 => nI (sVts S j9 / 16 % 2)) (fun j9 => nI (sVts S j9 % 16)) (fun j9 => nI (syF S j9)) (fun j9 => nI (rtF S j9)) (fun j9 => nI (sTk S j9)) (fun j9 => nI (sTa S j9)) (fun j9 => sTb S j9) (fun j9 => sTy S j9) (fun j9 => nI (sTt S j9)) (fun j9 => lN (sTc S j9)) (fun j9 => lN (sTs S j9)) (fun j9 => bI (dnF S j9))) := hD
      refine lv_aload_n hx hb dX2_node_36 rfl (lv_at hl 0 rfl) ?_
      refine lv_dup hx hb dX2_node_37 rfl ?_
      refine va_get (D := (dC, dI)) (ci := 3) (v := .int (nI (sNn S))) (C := RX2) (T := TX2) (N := 27) hx hb hts hin hown hK hP 0 rfl rfl 0 (by decide) hf_76 (fun _ h9 => h9) rfl dX2_node_38 ?_
      refine lv_iconst (v := (nI 1)) hx hb dX2_node_41 (by decide) ?_
      refine lv_iadd hx hb dX2_node_42 ?_
      refine f_ti (y := (nI ((sNn S) + 1))) (nI_add _ _) ?_
      refine va_put (D := (dC, dI)) (ci := 3) (v := .int (nI ((sNn S) + 1))) (ty := .int) (C := RX2) (T := TX2) (N := 27) hx hb hts hin tyX2 tyX2_ok nmX2 hown hK hP hD hS 0 rfl rfl 0 (by decide) hf_76 (fun _ h9 => h9) rfl (by decide +kernel) rfl rfl (Nat.le_of_ble_eq_true rfl) dX2_node_43 (fun H locs hP hD hS => ?_)
      have hP : va_P (dC, dI) vwCl (mwr ad cy (nI ((sNn S) + 1)) (nI (sHh S)) (nI (sVn S)) (nI (sRul S 3)) (lN (sRul S 4)) (lN (sBrn S)) (nI (sTn S)) (vp_updL (fun j9 => lN (sStk S j9)) (sNn S) x9) (fun j9 => lN (sPrs S j9)) (fun j9 => bI (sOut S j9)) (fun j9 => lN (sWts S j9)) (fun j9 => lN (sTot S j9)) (fun j9 => nI (sVts S j9 / 256 % 8)) (fun j9 => nI (sVts S j9 / 2048)) (fun j9 => nI (sVts S j9 / 32 % 8)) (fun j9 => nI (sVts S j9 / 16 % 2)) (fun j9 => nI (sVts S j9 % 16)) (fun j9 => nI (syF S j9)) (fun j9 => nI (rtF S j9)) (fun j9 => nI (sTk S j9)) (fun j9 => nI (sTa S j9)) (fun j9 => sTb S j9) (fun j9 => sTy S j9) (fun j9 => nI (sTt S j9)) (fun j9 => lN (sTc S j9)) (fun j9 => lN (sTs S j9)) (fun j9 => bI (dnF S j9))) H := hP
      have hD : va_D A (mwr ad cy (nI ((sNn S) + 1)) (nI (sHh S)) (nI (sVn S)) (nI (sRul S 3)) (lN (sRul S 4)) (lN (sBrn S)) (nI (sTn S)) (vp_updL (fun j9 => lN (sStk S j9)) (sNn S) x9) (fun j9 => lN (sPrs S j9)) (fun j9 => bI (sOut S j9)) (fun j9 => lN (sWts S j9)) (fun j9 => lN (sTot S j9)) (fun j9 => nI (sVts S j9 / 256 % 8)) (fun j9 => nI (sVts S j9 / 2048)) (fun j9 => nI (sVts S j9 / 32 % 8)) (fun j9 => nI (sVts S j9 / 16 % 2)) (fun j9 => nI (sVts S j9 % 16)) (fun j9 => nI (syF S j9)) (fun j9 => nI (rtF S j9)) (fun j9 => nI (sTk S j9)) (fun j9 => nI (sTa S j9)) (fun j9 => sTb S j9) (fun j9 => sTy S j9) (fun j9 => nI (sTt S j9)) (fun j9 => lN (sTc S j9)) (fun j9 => lN (sTs S j9)) (fun j9 => bI (dnF S j9))) := hD
      refine lv_aload_n hx hb dX2_node_46 rfl (lv_at hl 0 rfl) ?_
      refine va_get (D := (dC, dI)) (ci := 3) (v := .int (nI ((sNn S) + 1))) (C := RX2) (T := TX2) (N := 27) hx hb hts hin hown hK hP 0 rfl rfl 0 (by decide) hf_76 (fun _ h9 => h9) rfl dX2_node_47 ?_
      refine lv_iconst (v := (nI 1)) hx hb dX2_node_50 (by decide) ?_
      refine lv_isub hx hb dX2_node_51 ?_
      refine f_ti (y := (nI (sNn S))) (pk_sub (a := sNn S + 1) (b := 1) (by omega)) ?_
      have hW : (mwr ad cy (nI ((sNn S) + 1)) (nI (sHh S)) (nI (sVn S)) (nI (sRul S 3)) (lN (sRul S 4)) (lN (sBrn S)) (nI (sTn S)) (vp_updL (fun j9 => lN (sStk S j9)) (sNn S) x9) (fun j9 => lN (sPrs S j9)) (fun j9 => bI (sOut S j9)) (fun j9 => lN (sWts S j9)) (fun j9 => lN (sTot S j9)) (fun j9 => nI (sVts S j9 / 256 % 8)) (fun j9 => nI (sVts S j9 / 2048)) (fun j9 => nI (sVts S j9 / 32 % 8)) (fun j9 => nI (sVts S j9 / 16 % 2)) (fun j9 => nI (sVts S j9 % 16)) (fun j9 => nI (syF S j9)) (fun j9 => nI (rtF S j9)) (fun j9 => nI (sTk S j9)) (fun j9 => nI (sTa S j9)) (fun j9 => sTb S j9) (fun j9 => sTy S j9) (fun j9 => nI (sTt S j9)) (fun j9 => lN (sTc S j9)) (fun j9 => lN (sTs S j9)) (fun j9 => bI (dnF S j9))) = mw ad cy (nodG S x9) := by rw [hok, hg]; exact mwr_eq rfl rfl rfl rfl rfl rfl rfl (updL_lN) rfl rfl rfl rfl rfl rfl rfl rfl rfl (sy_of2 rfl rfl) rfl rfl rfl rfl rfl rfl rfl rfl (dn_of rfl rfl rfl rfl)
      rw [hW] at hP hD
      exact f_mi hx hb hr hlocks (hnf.symm) hP hK hD hS dX2_node_52
    · refine lv_bipush (v := (-104)) hx hb dX2_node_23 (by decide) ?_
      have hW : (mwr ad cy (nI (sNn S)) (nI (sHh S)) (nI (sVn S)) (nI (sRul S 3)) (lN (sRul S 4)) (lN (sBrn S)) (nI (sTn S)) (fun j9 => lN (sStk S j9)) (fun j9 => lN (sPrs S j9)) (fun j9 => bI (sOut S j9)) (fun j9 => lN (sWts S j9)) (fun j9 => lN (sTot S j9)) (fun j9 => nI (sVts S j9 / 256 % 8)) (fun j9 => nI (sVts S j9 / 2048)) (fun j9 => nI (sVts S j9 / 32 % 8)) (fun j9 => nI (sVts S j9 / 16 % 2)) (fun j9 => nI (sVts S j9 % 16)) (fun j9 => nI (syF S j9)) (fun j9 => nI (rtF S j9)) (fun j9 => nI (sTk S j9)) (fun j9 => nI (sTa S j9)) (fun j9 => sTb S j9) (fun j9 => sTy S j9) (fun j9 => nI (sTt S j9)) (fun j9 => lN (sTc S j9)) (fun j9 => lN (sTs S j9)) (fun j9 => bI (dnF S j9))) = mw ad cy (nodG S x9) := by rw [show nodG S x9 = S by unfold nodG; rw [if_neg]; simp only [okN, Bool.and_eq_true, decide_eq_true_eq]; omega]
      rw [hW] at hP hD
      exact f_mi hx hb hr hlocks (by unfold nodF; rw [if_neg (by omega), if_pos (by omega)]) hP hK hD hS dX2_node_25
  · rw [← Bool.not_eq_true] at c_1
    simp only [inF, Bool.and_eq_true, decide_eq_true_eq, pk_lT (show (1 : Nat) < 2 ^ 63 by decide), pk_lT (show (1000000000 : Nat) < 2 ^ 63 by decide)] at c_1
    refine lv_bipush (v := (-102)) hx hb dX2_node_11 (by decide) ?_
    have hW : (mwr ad cy (nI (sNn S)) (nI (sHh S)) (nI (sVn S)) (nI (sRul S 3)) (lN (sRul S 4)) (lN (sBrn S)) (nI (sTn S)) (fun j9 => lN (sStk S j9)) (fun j9 => lN (sPrs S j9)) (fun j9 => bI (sOut S j9)) (fun j9 => lN (sWts S j9)) (fun j9 => lN (sTot S j9)) (fun j9 => nI (sVts S j9 / 256 % 8)) (fun j9 => nI (sVts S j9 / 2048)) (fun j9 => nI (sVts S j9 / 32 % 8)) (fun j9 => nI (sVts S j9 / 16 % 2)) (fun j9 => nI (sVts S j9 % 16)) (fun j9 => nI (syF S j9)) (fun j9 => nI (rtF S j9)) (fun j9 => nI (sTk S j9)) (fun j9 => nI (sTa S j9)) (fun j9 => sTb S j9) (fun j9 => sTy S j9) (fun j9 => nI (sTt S j9)) (fun j9 => lN (sTc S j9)) (fun j9 => lN (sTs S j9)) (fun j9 => bI (dnF S j9))) = mw ad cy (nodG S x9) := by rw [show nodG S x9 = S by unfold nodG; rw [if_neg]; simp only [okN, Bool.and_eq_true, decide_eq_true_eq]; omega]
    rw [hW] at hP hD
    exact f_mi hx hb hr hlocks (by unfold nodF; rw [if_pos (by omega)]) hP hK hD hS dX2_node_13

abbrev rm_X1_add : Room := { frames := 1, cells := 0, slots := 0, locals := 21 }
set_option maxHeartbeats 4000000 in
set_option maxRecDepth 100000 in
theorem c_X1_add (l9 : Launch) (dC : Nat → ClassId) (dI : Nat → Nat → Nat) (ad : Nat → Nat) (cy : Nat → ClassId) (S : St) (sz : Nat) (x9 : Int32) (y9 : Int64) (I : Inv S) : MuL l9 yX1_add wsX1_add rm_X1_add [.ref (ad 0), .int x9, .long y9] (dC, dI) (xw ad cy S) (xw ad cy (addG S x9 y9)) (xty cy) sz (addF S x9 y9) := by
  refine Ro_start (cc := cX1_add) (maxL := 4) (ret := (some .long)) (lv := [(0, .ref (ad 0)), (1, .int x9), (2, .long y9)]) (by decide) rfl (Nat.le_of_ble_eq_true rfl) rfl ?_
  intro pp ee ss mm aa bl me co hx hb hr hml hts hown hlocks hnm hB ls hl
  obtain ⟨hsz, hP, hK, hD0⟩ := hB
  subst hsz
  have hD := hD0.self (sz := ss.heap.size)
  generalize hAe : va_A (xw ad cy S) ss.heap.size = A at hD ⊢
  have hA : ∀ q9 : Nat, ss.heap.size ≤ q9 → A q9 := fun q9 h9 => by rw [← hAe]; exact Or.inr h9
  have hS : va_S A ss.heap ss.heap [] := va_S.rf
  have hP : va_P (dC, dI) vwCl (xwr ad cy (nI (sNn S)) (nI (sHh S)) (nI (sVn S)) (lN (sBrn S)) (fun j9 => lN (sRul S j9)) (fun j9 => lN (sStk S j9)) (fun j9 => lN (sPrs S j9)) (fun j9 => bI (sOut S j9)) (fun j9 => lN (sWts S j9)) (fun j9 => lN (sTot S j9)) (fun j9 => nI (sVts S j9)) (fun j9 => nI (bbF S j9)) (fun j9 => nI (cbF S j9))) ss.heap := hP
  have hD : va_D A (xwr ad cy (nI (sNn S)) (nI (sHh S)) (nI (sVn S)) (lN (sBrn S)) (fun j9 => lN (sRul S j9)) (fun j9 => lN (sStk S j9)) (fun j9 => lN (sPrs S j9)) (fun j9 => bI (sOut S j9)) (fun j9 => lN (sWts S j9)) (fun j9 => lN (sTot S j9)) (fun j9 => nI (sVts S j9)) (fun j9 => nI (bbF S j9)) (fun j9 => nI (cbF S j9))) := hD
  generalize hHe : ss.heap = H at hP
  have hS : va_S A ss.heap H [] := by rw [← hHe]; exact hS
  generalize hLe : ([] : List Loc) = locs at hS ⊢
  have hin : ∀ w9 ∈ wsX10, w9 ∈ wsX1_add := fun w9 h9 => List.mem_cons_of_mem _ (List.mem_append_right _ h9)
  have hf_21 := hts (.fieldLink RX1 21 "FaultEvidence" "stakes" "[J") (by decide +kernel)
  have hc_68 := hts (.constantLong RX1 68 (1000000000)) (by decide +kernel)
  have hc_74 := hts (.constantLong RX1 74 (-101)) (by decide +kernel)
  have hc_76 := hts (.constantLong RX1 76 (-102)) (by decide +kernel)
  have I1 := I.n
  refine lv_aload_n hx hb dX1_add_0 rfl (lv_at hl 0 rfl) ?_
  refine lv_iload_n hx hb dX1_add_1 rfl (lv_at hl 1 rfl) ?_
  refine f_cVi (As := [.int x9]) (rest := []) ⟨hx, hb, hml, hown, hts⟩ (c_X1_isNode l9 dC dI ad cy S x9 I) (cwV 1 hts gX1_add_X1_isNode rfl rfl rfl (by decide +kernel) ⟨Nat.le_of_ble_eq_true rfl, Nat.le_of_ble_eq_true rfl⟩) roB_bl (va_recv hK hP (ci := 2) (q0 := 0) rfl rfl) (roB_at hP hK) rfl hl.1 rfl (Nat.le_of_ble_eq_true rfl) dX1_add_2 ⟨Nat.zero_le _, Nat.zero_le _⟩ ?_
  refine f_bne (tgt := 12) hx hb dX1_add_5 (by decide) (fun c_1 => ?_) (fun c_1 => ?_)
  · obtain ⟨k9, hk, rfl⟩ := nd_of c_1
    have ht := tn_nI (n := k9) (by omega)
    have Is := I.s k9
    have hnd := c_1
    refine lv_lload_n hx hb dX1_add_12 rfl (lv_at hl 2 rfl) ?_
    refine lv_lconst (v := (lN 1)) hx hb dX1_add_13 (by decide) ?_
    refine f_llt (tgt := 41) hx hb (rfl) (pk_lT (by omega)) dX1_add_14 dX1_add_15 (by decide) (fun c_2 => ?_) (fun c_2 => ?_)
    · refine lv_ldc2 (v := -102) hx hb hown hc_76 dX1_add_41 ?_
      have hW : (xwr ad cy (nI (sNn S)) (nI (sHh S)) (nI (sVn S)) (lN (sBrn S)) (fun j9 => lN (sRul S j9)) (fun j9 => lN (sStk S j9)) (fun j9 => lN (sPrs S j9)) (fun j9 => bI (sOut S j9)) (fun j9 => lN (sWts S j9)) (fun j9 => lN (sTot S j9)) (fun j9 => nI (sVts S j9)) (fun j9 => nI (bbF S j9)) (fun j9 => nI (cbF S j9))) = xw ad cy (addG S (nI k9) y9) := by rw [show addG S (nI k9) y9 = S by unfold addG; rw [if_neg]; simp only [okA, Bool.and_eq_true, decide_eq_true_eq, ht]; omega]
      rw [hW] at hP hD
      exact f_ml hx hb hr hlocks (by unfold addF; rw [hnd, if_neg (by decide), if_neg]; simp only [okA, Bool.and_eq_true, decide_eq_true_eq, ht]; omega) hP hK hD hS dX1_add_44
    · refine lv_lload_n hx hb dX1_add_18 rfl (lv_at hl 2 rfl) ?_
      refine lv_ldc2 (v := 1000000000) hx hb hown hc_68 dX1_add_19 ?_
      refine f_tl (y := (lN 1000000000)) (by decide) ?_
      refine f_lgt (tgt := 41) hx hb (rfl) (pk_lT (by omega)) dX1_add_22 dX1_add_23 (by decide) (fun c_3 => ?_) (fun c_3 => ?_)
      · refine lv_ldc2 (v := -102) hx hb hown hc_76 dX1_add_41 ?_
        have hW : (xwr ad cy (nI (sNn S)) (nI (sHh S)) (nI (sVn S)) (lN (sBrn S)) (fun j9 => lN (sRul S j9)) (fun j9 => lN (sStk S j9)) (fun j9 => lN (sPrs S j9)) (fun j9 => bI (sOut S j9)) (fun j9 => lN (sWts S j9)) (fun j9 => lN (sTot S j9)) (fun j9 => nI (sVts S j9)) (fun j9 => nI (bbF S j9)) (fun j9 => nI (cbF S j9))) = xw ad cy (addG S (nI k9) y9) := by rw [show addG S (nI k9) y9 = S by unfold addG; rw [if_neg]; simp only [okA, Bool.and_eq_true, decide_eq_true_eq, ht]; omega]
        rw [hW] at hP hD
        exact f_ml hx hb hr hlocks (by unfold addF; rw [hnd, if_neg (by decide), if_neg]; simp only [okA, Bool.and_eq_true, decide_eq_true_eq, ht]; omega) hP hK hD hS dX1_add_44
      · obtain ⟨g9, hg, hg2⟩ := lN_of (x := y9) (by omega)
        refine lv_aload_n hx hb dX1_add_26 rfl (lv_at hl 0 rfl) ?_
        refine va_get (D := (dC, dI)) (ci := 2) (v := .ref (ad 2)) (C := RX1) (T := TX1) (N := 14) hx hb hts hin hown hK hP 0 rfl rfl 1 (by decide) hf_21 (fun _ h9 => h9) rfl dX1_add_27 ?_
        refine lv_iload_n hx hb dX1_add_30 rfl (lv_at hl 1 rfl) ?_
        refine f_lald hx hb hK hP 2 1 rfl rfl (k := k9) (by omega) (by decide) (v := (lN (sStk S k9))) (rfl) dX1_add_31 ?_
        refine lv_lload_n hx hb dX1_add_32 rfl (lv_at hl 2 rfl) ?_
        refine lv_ladd hx hb dX1_add_33 ?_
        refine f_tl (y := (lN (sStk S k9 + g9))) (by rw [hg]; exact lN_add _ _) ?_
        refine lv_ldc2 (v := 1000000000) hx hb hown hc_68 dX1_add_34 ?_
        refine f_tl (y := (lN 1000000000)) (by decide) ?_
        refine f_lle (tgt := 45) hx hb (pk_lT (by omega)) (pk_lT (by omega)) dX1_add_37 dX1_add_38 (by decide) (fun c_4 => ?_) (fun c_4 => ?_)
        · have hokA : okA S (nI k9) y9 = true := by
            simp only [okA, hnd, Bool.true_and, Bool.and_eq_true, decide_eq_true_eq, ht]
            omega
          have hok : addG S (nI k9) y9 = stkS S k9 (sStk S k9 + g9) := by
            unfold addG
            rw [if_pos hokA, ht, show y9.toInt.toNat = g9 by omega]
          have hnf : addF S (nI k9) y9 = lN (sStk S k9 + g9) := by
            unfold addF
            rw [hnd, if_neg (by decide), if_pos hokA, ht, show y9.toInt.toNat = g9 by omega]
          refine lv_aload_n hx hb dX1_add_45 rfl (lv_at hl 0 rfl) ?_
          refine va_get (D := (dC, dI)) (ci := 2) (v := .ref (ad 2)) (C := RX1) (T := TX1) (N := 14) hx hb hts hin hown hK hP 0 rfl rfl 1 (by decide) hf_21 (fun _ h9 => h9) rfl dX1_add_46 ?_
          refine lv_iload_n hx hb dX1_add_49 rfl (lv_at hl 1 rfl) ?_
          refine lv_dup2_11 hx hb dX1_add_50 rfl rfl ?_
          refine f_lald hx hb hK hP 2 1 rfl rfl (k := k9) (by omega) (by decide) (v := (lN (sStk S k9))) (rfl) dX1_add_51 ?_
          refine lv_lload_n hx hb dX1_add_52 rfl (lv_at hl 2 rfl) ?_
          refine lv_ladd hx hb dX1_add_53 ?_
          refine f_tl (y := (lN (sStk S k9 + g9))) (by rw [hg]; exact lN_add _ _) ?_
          refine f_last hx hb hK hP hD hS 2 1 rfl rfl (k := k9) (by omega) (by decide) dX1_add_54 (fun H locs hP hD hS => ?_)
          have hP : va_P (dC, dI) vwCl (xwr ad cy (nI (sNn S)) (nI (sHh S)) (nI (sVn S)) (lN (sBrn S)) (fun j9 => lN (sRul S j9)) (vp_updL (fun j9 => lN (sStk S j9)) k9 (lN (sStk S k9 + g9))) (fun j9 => lN (sPrs S j9)) (fun j9 => bI (sOut S j9)) (fun j9 => lN (sWts S j9)) (fun j9 => lN (sTot S j9)) (fun j9 => nI (sVts S j9)) (fun j9 => nI (bbF S j9)) (fun j9 => nI (cbF S j9))) H := hP
          have hD : va_D A (xwr ad cy (nI (sNn S)) (nI (sHh S)) (nI (sVn S)) (lN (sBrn S)) (fun j9 => lN (sRul S j9)) (vp_updL (fun j9 => lN (sStk S j9)) k9 (lN (sStk S k9 + g9))) (fun j9 => lN (sPrs S j9)) (fun j9 => bI (sOut S j9)) (fun j9 => lN (sWts S j9)) (fun j9 => lN (sTot S j9)) (fun j9 => nI (sVts S j9)) (fun j9 => nI (bbF S j9)) (fun j9 => nI (cbF S j9))) := hD
          refine lv_aload_n hx hb dX1_add_55 rfl (lv_at hl 0 rfl) ?_
          refine va_get (D := (dC, dI)) (ci := 2) (v := .ref (ad 2)) (C := RX1) (T := TX1) (N := 14) hx hb hts hin hown hK hP 0 rfl rfl 1 (by decide) hf_21 (fun _ h9 => h9) rfl dX1_add_56 ?_
          refine lv_iload_n hx hb dX1_add_59 rfl (lv_at hl 1 rfl) ?_
          refine f_lald hx hb hK hP 2 1 rfl rfl (k := k9) (by omega) (by decide) (v := (lN (sStk S k9 + g9))) (pk_uLs) dX1_add_60 ?_
          have hW : (xwr ad cy (nI (sNn S)) (nI (sHh S)) (nI (sVn S)) (lN (sBrn S)) (fun j9 => lN (sRul S j9)) (vp_updL (fun j9 => lN (sStk S j9)) k9 (lN (sStk S k9 + g9))) (fun j9 => lN (sPrs S j9)) (fun j9 => bI (sOut S j9)) (fun j9 => lN (sWts S j9)) (fun j9 => lN (sTot S j9)) (fun j9 => nI (sVts S j9)) (fun j9 => nI (bbF S j9)) (fun j9 => nI (cbF S j9))) = xw ad cy (addG S (nI k9) y9) := by rw [hok]; exact xwr_eq rfl rfl rfl rfl rfl (updL_lN) rfl rfl rfl rfl rfl (bb_of rfl rfl rfl rfl) (cb_of rfl rfl rfl rfl)
          rw [hW] at hP hD
          exact f_ml hx hb hr hlocks (hnf.symm) hP hK hD hS dX1_add_61
        · refine lv_ldc2 (v := -102) hx hb hown hc_76 dX1_add_41 ?_
          have hW : (xwr ad cy (nI (sNn S)) (nI (sHh S)) (nI (sVn S)) (lN (sBrn S)) (fun j9 => lN (sRul S j9)) (fun j9 => lN (sStk S j9)) (fun j9 => lN (sPrs S j9)) (fun j9 => bI (sOut S j9)) (fun j9 => lN (sWts S j9)) (fun j9 => lN (sTot S j9)) (fun j9 => nI (sVts S j9)) (fun j9 => nI (bbF S j9)) (fun j9 => nI (cbF S j9))) = xw ad cy (addG S (nI k9) y9) := by rw [show addG S (nI k9) y9 = S by unfold addG; rw [if_neg]; simp only [okA, Bool.and_eq_true, decide_eq_true_eq, ht]; omega]
          rw [hW] at hP hD
          exact f_ml hx hb hr hlocks (by unfold addF; rw [hnd, if_neg (by decide), if_neg]; simp only [okA, Bool.and_eq_true, decide_eq_true_eq, ht]; omega) hP hK hD hS dX1_add_44
  · refine lv_ldc2 (v := -101) hx hb hown hc_74 dX1_add_8 ?_
    have hW : (xwr ad cy (nI (sNn S)) (nI (sHh S)) (nI (sVn S)) (lN (sBrn S)) (fun j9 => lN (sRul S j9)) (fun j9 => lN (sStk S j9)) (fun j9 => lN (sPrs S j9)) (fun j9 => bI (sOut S j9)) (fun j9 => lN (sWts S j9)) (fun j9 => lN (sTot S j9)) (fun j9 => nI (sVts S j9)) (fun j9 => nI (bbF S j9)) (fun j9 => nI (cbF S j9))) = xw ad cy (addG S x9 y9) := by rw [show addG S x9 y9 = S by unfold addG; rw [if_neg]; simp [okA, c_1]]
    rw [hW] at hP hD
    exact f_ml hx hb hr hlocks (by simp [addF, c_1]) hP hK hD hS dX1_add_11

abbrev rm_X2_add : Room := { frames := 1, cells := 0, slots := 0, locals := 25 }
set_option maxHeartbeats 4000000 in
set_option maxRecDepth 100000 in
theorem c_X2_add (l9 : Launch) (dC : Nat → ClassId) (dI : Nat → Nat → Nat) (ad : Nat → Nat) (cy : Nat → ClassId) (S : St) (sz : Nat) (x9 : Int32) (y9 : Int64) (I : Inv S) : MuL l9 yX2_add wsX2_add rm_X2_add [.ref (ad 0), .int x9, .long y9] (dC, dI) (mw ad cy S) (mw ad cy (addG S x9 y9)) (mty cy) sz (addF S x9 y9) := by
  refine Ro_start (cc := cX2_add) (maxL := 4) (ret := (some .long)) (lv := [(0, .ref (ad 0)), (1, .int x9), (2, .long y9)]) (by decide) rfl (Nat.le_of_ble_eq_true rfl) rfl ?_
  intro pp ee ss mm aa bl me co hx hb hr hml hts hown hlocks hnm hB ls hl
  obtain ⟨hsz, hP, hK, hD0⟩ := hB
  subst hsz
  have hD := hD0.self (sz := ss.heap.size)
  generalize hAe : va_A (mw ad cy S) ss.heap.size = A at hD ⊢
  have hA : ∀ q9 : Nat, ss.heap.size ≤ q9 → A q9 := fun q9 h9 => by rw [← hAe]; exact Or.inr h9
  have hS : va_S A ss.heap ss.heap [] := va_S.rf
  have hP : va_P (dC, dI) vwCl (mwr ad cy (nI (sNn S)) (nI (sHh S)) (nI (sVn S)) (nI (sRul S 3)) (lN (sRul S 4)) (lN (sBrn S)) (nI (sTn S)) (fun j9 => lN (sStk S j9)) (fun j9 => lN (sPrs S j9)) (fun j9 => bI (sOut S j9)) (fun j9 => lN (sWts S j9)) (fun j9 => lN (sTot S j9)) (fun j9 => nI (sVts S j9 / 256 % 8)) (fun j9 => nI (sVts S j9 / 2048)) (fun j9 => nI (sVts S j9 / 32 % 8)) (fun j9 => nI (sVts S j9 / 16 % 2)) (fun j9 => nI (sVts S j9 % 16)) (fun j9 => nI (syF S j9)) (fun j9 => nI (rtF S j9)) (fun j9 => nI (sTk S j9)) (fun j9 => nI (sTa S j9)) (fun j9 => sTb S j9) (fun j9 => sTy S j9) (fun j9 => nI (sTt S j9)) (fun j9 => lN (sTc S j9)) (fun j9 => lN (sTs S j9)) (fun j9 => bI (dnF S j9))) ss.heap := hP
  have hD : va_D A (mwr ad cy (nI (sNn S)) (nI (sHh S)) (nI (sVn S)) (nI (sRul S 3)) (lN (sRul S 4)) (lN (sBrn S)) (nI (sTn S)) (fun j9 => lN (sStk S j9)) (fun j9 => lN (sPrs S j9)) (fun j9 => bI (sOut S j9)) (fun j9 => lN (sWts S j9)) (fun j9 => lN (sTot S j9)) (fun j9 => nI (sVts S j9 / 256 % 8)) (fun j9 => nI (sVts S j9 / 2048)) (fun j9 => nI (sVts S j9 / 32 % 8)) (fun j9 => nI (sVts S j9 / 16 % 2)) (fun j9 => nI (sVts S j9 % 16)) (fun j9 => nI (syF S j9)) (fun j9 => nI (rtF S j9)) (fun j9 => nI (sTk S j9)) (fun j9 => nI (sTa S j9)) (fun j9 => sTb S j9) (fun j9 => sTy S j9) (fun j9 => nI (sTt S j9)) (fun j9 => lN (sTc S j9)) (fun j9 => lN (sTs S j9)) (fun j9 => bI (dnF S j9))) := hD
  generalize hHe : ss.heap = H at hP
  have hS : va_S A ss.heap H [] := by rw [← hHe]; exact hS
  generalize hLe : ([] : List Loc) = locs at hS ⊢
  have hin : ∀ w9 ∈ wsX20, w9 ∈ wsX2_add := fun w9 h9 => List.mem_cons_of_mem _ (List.mem_append_right _ h9)
  have hf_7 := hts (.fieldLink RX2 7 "FaultEvidenceModel" "stakes" "[J") (by decide +kernel)
  have hc_115 := hts (.constantLong RX2 115 (1000000000)) (by decide +kernel)
  have hc_124 := hts (.constantLong RX2 124 (-101)) (by decide +kernel)
  have hc_126 := hts (.constantLong RX2 126 (-102)) (by decide +kernel)
  have I1 := I.n
  refine lv_aload_n hx hb dX2_add_0 rfl (lv_at hl 0 rfl) ?_
  refine lv_iload_n hx hb dX2_add_1 rfl (lv_at hl 1 rfl) ?_
  refine f_cVi (As := [.int x9]) (rest := []) ⟨hx, hb, hml, hown, hts⟩ (c_X2_isNode l9 dC dI ad cy S x9 I) (cwV 1 hts gX2_add_X2_isNode rfl rfl rfl (by decide +kernel) ⟨Nat.le_of_ble_eq_true rfl, Nat.le_of_ble_eq_true rfl⟩) roB_bl (va_recv hK hP (ci := 3) (q0 := 0) rfl rfl) (roB_at hP hK) rfl hl.1 rfl (Nat.le_of_ble_eq_true rfl) dX2_add_2 ⟨Nat.zero_le _, Nat.zero_le _⟩ ?_
  refine f_bne (tgt := 12) hx hb dX2_add_5 (by decide) (fun c_1 => ?_) (fun c_1 => ?_)
  · obtain ⟨k9, hk, rfl⟩ := nd_of c_1
    have ht := tn_nI (n := k9) (by omega)
    have Is := I.s k9
    have hnd := c_1
    refine lv_lload_n hx hb dX2_add_12 rfl (lv_at hl 2 rfl) ?_
    refine lv_lconst (v := (lN 1)) hx hb dX2_add_13 (by decide) ?_
    refine lv_ldc2 (v := 1000000000) hx hb hown hc_115 dX2_add_14 ?_
    refine f_tl (y := (lN 1000000000)) (by decide) ?_
    refine f_cSi (As := [.long y9, .long (lN 1), .long (lN 1000000000)]) (rest := []) ⟨hx, hb, hml, hown, hts⟩ (c_X2_in l9 y9 (lN 1) (lN 1000000000)) (va_cwS 3 hts gX2_add_X2_in rfl rfl rfl (by decide +kernel) ⟨Nat.le_of_ble_eq_true rfl, Nat.le_of_ble_eq_true rfl⟩) noB_bl noB_at rfl hl.1 rfl (Nat.le_of_ble_eq_true rfl) dX2_add_17 ⟨Nat.zero_le _, Nat.zero_le _⟩ ?_
    refine f_beq (tgt := 38) hx hb dX2_add_20 (by decide) (fun c_2 => ?_) (fun c_2 => ?_)
    · rw [← Bool.not_eq_true] at c_2
      simp only [inF, Bool.and_eq_true, decide_eq_true_eq, pk_lT (show (1 : Nat) < 2 ^ 63 by decide), pk_lT (show (1000000000 : Nat) < 2 ^ 63 by decide)] at c_2
      refine lv_ldc2 (v := -102) hx hb hown hc_126 dX2_add_38 ?_
      have hW : (mwr ad cy (nI (sNn S)) (nI (sHh S)) (nI (sVn S)) (nI (sRul S 3)) (lN (sRul S 4)) (lN (sBrn S)) (nI (sTn S)) (fun j9 => lN (sStk S j9)) (fun j9 => lN (sPrs S j9)) (fun j9 => bI (sOut S j9)) (fun j9 => lN (sWts S j9)) (fun j9 => lN (sTot S j9)) (fun j9 => nI (sVts S j9 / 256 % 8)) (fun j9 => nI (sVts S j9 / 2048)) (fun j9 => nI (sVts S j9 / 32 % 8)) (fun j9 => nI (sVts S j9 / 16 % 2)) (fun j9 => nI (sVts S j9 % 16)) (fun j9 => nI (syF S j9)) (fun j9 => nI (rtF S j9)) (fun j9 => nI (sTk S j9)) (fun j9 => nI (sTa S j9)) (fun j9 => sTb S j9) (fun j9 => sTy S j9) (fun j9 => nI (sTt S j9)) (fun j9 => lN (sTc S j9)) (fun j9 => lN (sTs S j9)) (fun j9 => bI (dnF S j9))) = mw ad cy (addG S (nI k9) y9) := by rw [show addG S (nI k9) y9 = S by unfold addG; rw [if_neg]; simp only [okA, Bool.and_eq_true, decide_eq_true_eq, ht]; omega]
      rw [hW] at hP hD
      exact f_ml hx hb hr hlocks (by unfold addF; rw [hnd, if_neg (by decide), if_neg]; simp only [okA, Bool.and_eq_true, decide_eq_true_eq, ht]; omega) hP hK hD hS dX2_add_41
    · simp only [inF, Bool.and_eq_true, decide_eq_true_eq, pk_lT (show (1 : Nat) < 2 ^ 63 by decide), pk_lT (show (1000000000 : Nat) < 2 ^ 63 by decide)] at c_2
      obtain ⟨g9, hg, hg2⟩ := lN_of (x := y9) (by omega)
      refine lv_aload_n hx hb dX2_add_23 rfl (lv_at hl 0 rfl) ?_
      refine va_get (D := (dC, dI)) (ci := 3) (v := .ref (ad 1)) (C := RX2) (T := TX2) (N := 27) hx hb hts hin hown hK hP 0 rfl rfl 1 (by decide) hf_7 (fun _ h9 => h9) rfl dX2_add_24 ?_
      refine lv_iload_n hx hb dX2_add_27 rfl (lv_at hl 1 rfl) ?_
      refine f_lald hx hb hK hP 1 0 rfl rfl (k := k9) (by omega) (by decide) (v := (lN (sStk S k9))) (rfl) dX2_add_28 ?_
      refine lv_lload_n hx hb dX2_add_29 rfl (lv_at hl 2 rfl) ?_
      refine lv_ladd hx hb dX2_add_30 ?_
      refine f_tl (y := (lN (sStk S k9 + g9))) (by rw [hg]; exact lN_add _ _) ?_
      refine lv_ldc2 (v := 1000000000) hx hb hown hc_115 dX2_add_31 ?_
      refine f_tl (y := (lN 1000000000)) (by decide) ?_
      refine f_lle (tgt := 42) hx hb (pk_lT (by omega)) (pk_lT (by omega)) dX2_add_34 dX2_add_35 (by decide) (fun c_3 => ?_) (fun c_3 => ?_)
      · have hokA : okA S (nI k9) y9 = true := by
          simp only [okA, hnd, Bool.true_and, Bool.and_eq_true, decide_eq_true_eq, ht]
          omega
        have hok : addG S (nI k9) y9 = stkS S k9 (sStk S k9 + g9) := by
          unfold addG
          rw [if_pos hokA, ht, show y9.toInt.toNat = g9 by omega]
        have hnf : addF S (nI k9) y9 = lN (sStk S k9 + g9) := by
          unfold addF
          rw [hnd, if_neg (by decide), if_pos hokA, ht, show y9.toInt.toNat = g9 by omega]
        refine lv_aload_n hx hb dX2_add_42 rfl (lv_at hl 0 rfl) ?_
        refine va_get (D := (dC, dI)) (ci := 3) (v := .ref (ad 1)) (C := RX2) (T := TX2) (N := 27) hx hb hts hin hown hK hP 0 rfl rfl 1 (by decide) hf_7 (fun _ h9 => h9) rfl dX2_add_43 ?_
        refine lv_iload_n hx hb dX2_add_46 rfl (lv_at hl 1 rfl) ?_
        refine lv_dup2_11 hx hb dX2_add_47 rfl rfl ?_
        refine f_lald hx hb hK hP 1 0 rfl rfl (k := k9) (by omega) (by decide) (v := (lN (sStk S k9))) (rfl) dX2_add_48 ?_
        refine lv_lload_n hx hb dX2_add_49 rfl (lv_at hl 2 rfl) ?_
        refine lv_ladd hx hb dX2_add_50 ?_
        refine f_tl (y := (lN (sStk S k9 + g9))) (by rw [hg]; exact lN_add _ _) ?_
        refine f_last hx hb hK hP hD hS 1 0 rfl rfl (k := k9) (by omega) (by decide) dX2_add_51 (fun H locs hP hD hS => ?_)
        have hP : va_P (dC, dI) vwCl (mwr ad cy (nI (sNn S)) (nI (sHh S)) (nI (sVn S)) (nI (sRul S 3)) (lN (sRul S 4)) (lN (sBrn S)) (nI (sTn S)) (vp_updL (fun j9 => lN (sStk S j9)) k9 (lN (sStk S k9 + g9))) (fun j9 => lN (sPrs S j9)) (fun j9 => bI (sOut S j9)) (fun j9 => lN (sWts S j9)) (fun j9 => lN (sTot S j9)) (fun j9 => nI (sVts S j9 / 256 % 8)) (fun j9 => nI (sVts S j9 / 2048)) (fun j9 => nI (sVts S j9 / 32 % 8)) (fun j9 => nI (sVts S j9 / 16 % 2)) (fun j9 => nI (sVts S j9 % 16)) (fun j9 => nI (syF S j9)) (fun j9 => nI (rtF S j9)) (fun j9 => nI (sTk S j9)) (fun j9 => nI (sTa S j9)) (fun j9 => sTb S j9) (fun j9 => sTy S j9) (fun j9 => nI (sTt S j9)) (fun j9 => lN (sTc S j9)) (fun j9 => lN (sTs S j9)) (fun j9 => bI (dnF S j9))) H := hP
        have hD : va_D A (mwr ad cy (nI (sNn S)) (nI (sHh S)) (nI (sVn S)) (nI (sRul S 3)) (lN (sRul S 4)) (lN (sBrn S)) (nI (sTn S)) (vp_updL (fun j9 => lN (sStk S j9)) k9 (lN (sStk S k9 + g9))) (fun j9 => lN (sPrs S j9)) (fun j9 => bI (sOut S j9)) (fun j9 => lN (sWts S j9)) (fun j9 => lN (sTot S j9)) (fun j9 => nI (sVts S j9 / 256 % 8)) (fun j9 => nI (sVts S j9 / 2048)) (fun j9 => nI (sVts S j9 / 32 % 8)) (fun j9 => nI (sVts S j9 / 16 % 2)) (fun j9 => nI (sVts S j9 % 16)) (fun j9 => nI (syF S j9)) (fun j9 => nI (rtF S j9)) (fun j9 => nI (sTk S j9)) (fun j9 => nI (sTa S j9)) (fun j9 => sTb S j9) (fun j9 => sTy S j9) (fun j9 => nI (sTt S j9)) (fun j9 => lN (sTc S j9)) (fun j9 => lN (sTs S j9)) (fun j9 => bI (dnF S j9))) := hD
        refine lv_aload_n hx hb dX2_add_52 rfl (lv_at hl 0 rfl) ?_
        refine va_get (D := (dC, dI)) (ci := 3) (v := .ref (ad 1)) (C := RX2) (T := TX2) (N := 27) hx hb hts hin hown hK hP 0 rfl rfl 1 (by decide) hf_7 (fun _ h9 => h9) rfl dX2_add_53 ?_
        refine lv_iload_n hx hb dX2_add_56 rfl (lv_at hl 1 rfl) ?_
        refine f_lald hx hb hK hP 1 0 rfl rfl (k := k9) (by omega) (by decide) (v := (lN (sStk S k9 + g9))) (pk_uLs) dX2_add_57 ?_
        have hW : (mwr ad cy (nI (sNn S)) (nI (sHh S)) (nI (sVn S)) (nI (sRul S 3)) (lN (sRul S 4)) (lN (sBrn S)) (nI (sTn S)) (vp_updL (fun j9 => lN (sStk S j9)) k9 (lN (sStk S k9 + g9))) (fun j9 => lN (sPrs S j9)) (fun j9 => bI (sOut S j9)) (fun j9 => lN (sWts S j9)) (fun j9 => lN (sTot S j9)) (fun j9 => nI (sVts S j9 / 256 % 8)) (fun j9 => nI (sVts S j9 / 2048)) (fun j9 => nI (sVts S j9 / 32 % 8)) (fun j9 => nI (sVts S j9 / 16 % 2)) (fun j9 => nI (sVts S j9 % 16)) (fun j9 => nI (syF S j9)) (fun j9 => nI (rtF S j9)) (fun j9 => nI (sTk S j9)) (fun j9 => nI (sTa S j9)) (fun j9 => sTb S j9) (fun j9 => sTy S j9) (fun j9 => nI (sTt S j9)) (fun j9 => lN (sTc S j9)) (fun j9 => lN (sTs S j9)) (fun j9 => bI (dnF S j9))) = mw ad cy (addG S (nI k9) y9) := by rw [hok]; exact mwr_eq rfl rfl rfl rfl rfl rfl rfl (updL_lN) rfl rfl rfl rfl rfl rfl rfl rfl rfl (sy_of2 rfl rfl) rfl rfl rfl rfl rfl rfl rfl rfl (dn_of rfl rfl rfl rfl)
        rw [hW] at hP hD
        exact f_ml hx hb hr hlocks (hnf.symm) hP hK hD hS dX2_add_58
      · refine lv_ldc2 (v := -102) hx hb hown hc_126 dX2_add_38 ?_
        have hW : (mwr ad cy (nI (sNn S)) (nI (sHh S)) (nI (sVn S)) (nI (sRul S 3)) (lN (sRul S 4)) (lN (sBrn S)) (nI (sTn S)) (fun j9 => lN (sStk S j9)) (fun j9 => lN (sPrs S j9)) (fun j9 => bI (sOut S j9)) (fun j9 => lN (sWts S j9)) (fun j9 => lN (sTot S j9)) (fun j9 => nI (sVts S j9 / 256 % 8)) (fun j9 => nI (sVts S j9 / 2048)) (fun j9 => nI (sVts S j9 / 32 % 8)) (fun j9 => nI (sVts S j9 / 16 % 2)) (fun j9 => nI (sVts S j9 % 16)) (fun j9 => nI (syF S j9)) (fun j9 => nI (rtF S j9)) (fun j9 => nI (sTk S j9)) (fun j9 => nI (sTa S j9)) (fun j9 => sTb S j9) (fun j9 => sTy S j9) (fun j9 => nI (sTt S j9)) (fun j9 => lN (sTc S j9)) (fun j9 => lN (sTs S j9)) (fun j9 => bI (dnF S j9))) = mw ad cy (addG S (nI k9) y9) := by rw [show addG S (nI k9) y9 = S by unfold addG; rw [if_neg]; simp only [okA, Bool.and_eq_true, decide_eq_true_eq, ht]; omega]
        rw [hW] at hP hD
        exact f_ml hx hb hr hlocks (by unfold addF; rw [hnd, if_neg (by decide), if_neg]; simp only [okA, Bool.and_eq_true, decide_eq_true_eq, ht]; omega) hP hK hD hS dX2_add_41
  · refine lv_ldc2 (v := -101) hx hb hown hc_124 dX2_add_8 ?_
    have hW : (mwr ad cy (nI (sNn S)) (nI (sHh S)) (nI (sVn S)) (nI (sRul S 3)) (lN (sRul S 4)) (lN (sBrn S)) (nI (sTn S)) (fun j9 => lN (sStk S j9)) (fun j9 => lN (sPrs S j9)) (fun j9 => bI (sOut S j9)) (fun j9 => lN (sWts S j9)) (fun j9 => lN (sTot S j9)) (fun j9 => nI (sVts S j9 / 256 % 8)) (fun j9 => nI (sVts S j9 / 2048)) (fun j9 => nI (sVts S j9 / 32 % 8)) (fun j9 => nI (sVts S j9 / 16 % 2)) (fun j9 => nI (sVts S j9 % 16)) (fun j9 => nI (syF S j9)) (fun j9 => nI (rtF S j9)) (fun j9 => nI (sTk S j9)) (fun j9 => nI (sTa S j9)) (fun j9 => sTb S j9) (fun j9 => sTy S j9) (fun j9 => nI (sTt S j9)) (fun j9 => lN (sTc S j9)) (fun j9 => lN (sTs S j9)) (fun j9 => bI (dnF S j9))) = mw ad cy (addG S x9 y9) := by rw [show addG S x9 y9 = S by unfold addG; rw [if_neg]; simp [okA, c_1]]
    rw [hW] at hP hD
    exact f_ml hx hb hr hlocks (by simp [addF, c_1]) hP hK hD hS dX2_add_11
