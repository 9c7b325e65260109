abbrev rm_X1_vote : Room := { frames := 3, cells := 0, slots := 0, locals := 68 }
set_option maxHeartbeats 4000000 in
set_option maxRecDepth 100000 in
theorem c_X1_vote (l9 : Launch) (dC : Nat → ClassId) (dI : Nat → Nat → Nat) (ad : Nat → Nat) (cy : Nat → ClassId) (S : St) (sz : Nat) (x9 : Int32) (y9 : Int32) (u9 : Int32) (t9 : Int32) (b9 : Int32) (I : Inv S) : MuI l9 yX1_vote wsX1_vote rm_X1_vote [.ref (ad 0), .int x9, .int y9, .int u9, .int t9, .int b9] (dC, dI) (xw ad cy S) (xw ad cy (votG S x9 y9 u9 t9 b9)) (xty cy) sz (votF S x9 y9 u9 t9 b9) := by
  refine Ro_start (cc := cX1_vote) (maxL := 9) (ret := (some .int)) (lv := [(0, .ref (ad 0)), (1, .int x9), (2, .int y9), (3, .int u9), (4, .int t9), (5, .int b9)]) (by decide) rfl (Nat.le_of_ble_eq_true rfl) rfl ?_
  intro pp ee ss mm aa bl me co hx hb hr hml hts hown hlocks hnm hB ls hl
  obtain ⟨hsz, hP, hK, hD0⟩ := hB
  subst hsz
  have hD := hD0.self (sz := ss.heap.size)
  generalize hAe : va_A (xw ad cy S) ss.heap.size = A at hD ⊢
  have hA : ∀ q9 : Nat, ss.heap.size ≤ q9 → A q9 := fun q9 h9 => by rw [← hAe]; exact Or.inr h9
  have hS : va_S A ss.heap ss.heap [] := va_S.rf
  have hP : va_P (dC, dI) vwCl (xwr ad cy (nI (sNn S)) (nI (sHh S)) (nI (sVn S)) (lN (sBrn S)) (fun jj => lN (sRul S jj)) (fun jj => lN (sStk S jj)) (fun jj => lN (sPrs S jj)) (fun jj => bI (sOut S jj)) (fun jj => lN (sWts S jj)) (fun jj => lN (sTot S jj)) (fun jj => nI (sVts S jj)) (fun jj => nI (bbF S jj)) (fun jj => nI (cbF S jj))) ss.heap := hP
  have hD : va_D A (xwr ad cy (nI (sNn S)) (nI (sHh S)) (nI (sVn S)) (lN (sBrn S)) (fun jj => lN (sRul S jj)) (fun jj => lN (sStk S jj)) (fun jj => lN (sPrs S jj)) (fun jj => bI (sOut S jj)) (fun jj => lN (sWts S jj)) (fun jj => lN (sTot S jj)) (fun jj => nI (sVts S jj)) (fun jj => nI (bbF S jj)) (fun jj => nI (cbF S jj))) := hD
  generalize hHe : ss.heap = H at hP
  have hS : va_S A ss.heap H [] := by rw [← hHe]; exact hS
  generalize hLe : ([] : List Loc) = locs at hS ⊢
  have hin : ∀ w9 ∈ wsX10, w9 ∈ wsX1_vote := fun w9 h9 => List.mem_cons_of_mem _ (List.mem_append_right _ h9)
  have hf_48 := hts (.fieldLink RX1 48 "FaultEvidence" "voteCount" "I") (by decide +kernel)
  have I1 := I.n
  refine lv_aload_n hx hb dX1_vote_0 rfl (lv_at hl 0 rfl) ?_
  refine lv_iload_n hx hb dX1_vote_1 rfl (lv_at hl 1 rfl) ?_
  refine lv_iload_n hx hb dX1_vote_2 rfl (lv_at hl 2 rfl) ?_
  refine lv_iload_n hx hb dX1_vote_3 rfl (lv_at hl 3 rfl) ?_
  refine lv_iload hx hb dX1_vote_4 (lv_at hl 4 rfl) ?_
  refine lv_iload hx hb dX1_vote_6 (lv_at hl 5 rfl) ?_
  refine f_cVi (As := [.int x9, .int y9, .int u9, .int t9, .int b9]) (rest := []) ⟨hx, hb, hml, hown, hts⟩ (c_X1_voteRefusal l9 dC dI ad cy S x9 y9 u9 t9 b9 I) (cwV 5 hts gX1_vote_X1_voteRefusal rfl rfl rfl (by decide +kernel) ⟨Nat.le_of_ble_eq_true rfl, Nat.le_of_ble_eq_true rfl⟩) roB_bl (va_recv hK hP (ci := 2) (q0 := 0) rfl rfl) (roB_at hP hK) rfl hl.1 rfl (Nat.le_of_ble_eq_true rfl) dX1_vote_8 ⟨Nat.zero_le _, Nat.zero_le _⟩ ?_
  refine lv_istore (lv' := [(6, .int (vrF S x9 y9 u9 t9 b9)), (0, .ref (ad 0)), (1, .int x9), (2, .int y9), (3, .int u9), (4, .int t9), (5, .int b9)]) hx hb dX1_vote_11 hl (by decide) rfl (fun ls hl => ?_)
  refine lv_iload hx hb dX1_vote_13 (lv_at hl 0 rfl) ?_
  refine f_0eq (tgt := 21) hx hb (rfl) dX1_vote_15 (by decide) (fun c_1 => ?_) (fun c_1 => ?_)
  · obtain ⟨k9, h9, i9, j9, z9, rfl, rfl, rfl, rfl, rfl, hk, h1, h2, h3, hi, hj, hz, hw, hv⟩ := vr_fine I c_1
    have hpc := vC_p (k := k9) (h := h9) (r := i9) (t := j9) (b := z9) (by omega) hi hj (by omega)
    have hcl : vC k9 h9 i9 j9 z9 < 83968 ∧ 2048 ≤ vC k9 h9 i9 j9 z9 := by unfold vC; omega
    have hF : ∀ v9, (if hasV S (vC k9 h9 i9 j9 z9) = true then numF S (vC k9 h9 i9 j9 z9) else if 300 ≤ sVn S then -104 else nI (sVn S)) = v9 → v9 = votF S (nI k9) (nI h9) (nI i9) (nI j9) (nI z9) := fun v9 e9 => by
      unfold votF
      rw [if_pos hv, tn_nI (by omega), tn_nI (by omega), tn_nI (by omega), tn_nI (by omega), tn_nI (by omega), e9]
    have hG : ∀ v9, (if vrF S (nI k9) (nI h9) (nI i9) (nI j9) (nI z9) = nI 0 ∧ hasV S (vC k9 h9 i9 j9 z9) = false ∧ sVn S < 300 then votS S (vC k9 h9 i9 j9 z9) else S) = v9 → votG S (nI k9) (nI h9) (nI i9) (nI j9) (nI z9) = v9 := fun v9 e9 => by
      unfold votG
      rw [tn_nI (by omega), tn_nI (by omega), tn_nI (by omega), tn_nI (by omega), tn_nI (by omega), e9]
    refine lv_iload_n hx hb dX1_vote_21 rfl (lv_at hl 2 rfl) ?_
    refine lv_iload_n hx hb dX1_vote_22 rfl (lv_at hl 3 rfl) ?_
    refine lv_iload_n hx hb dX1_vote_23 rfl (lv_at hl 4 rfl) ?_
    refine lv_iload hx hb dX1_vote_24 (lv_at hl 5 rfl) ?_
    refine lv_iload hx hb dX1_vote_26 (lv_at hl 6 rfl) ?_
    refine f_cSi (As := [.int (nI k9), .int (nI h9), .int (nI i9), .int (nI j9), .int (nI z9)]) (rest := []) ⟨hx, hb, hml, hown, hts⟩ (c_X1_packed l9 k9 h9 i9 j9 z9 (by omega) (by omega) (by omega) (by omega) (by omega)) (va_cwS 5 hts gX1_vote_X1_packed rfl rfl rfl (by decide +kernel) ⟨Nat.le_of_ble_eq_true rfl, Nat.le_of_ble_eq_true rfl⟩) noB_bl noB_at rfl hl.1 rfl (Nat.le_of_ble_eq_true rfl) dX1_vote_28 ⟨Nat.zero_le _, Nat.zero_le _⟩ ?_
    refine lv_istore (lv' := [(7, .int (nI (vC k9 h9 i9 j9 z9))), (6, .int (vrF S (nI k9) (nI h9) (nI i9) (nI j9) (nI z9))), (0, .ref (ad 0)), (1, .int (nI k9)), (2, .int (nI h9)), (3, .int (nI i9)), (4, .int (nI j9)), (5, .int (nI z9))]) hx hb dX1_vote_31 hl (by decide) rfl (fun ls hl => ?_)
    refine lv_aload_n hx hb dX1_vote_33 rfl (lv_at hl 2 rfl) ?_
    refine lv_iload hx hb dX1_vote_34 (lv_at hl 0 rfl) ?_
    refine f_cVi (As := [.int (nI (vC k9 h9 i9 j9 z9))]) (rest := []) ⟨hx, hb, hml, hown, hts⟩ (c_X1_numberOf l9 dC dI ad cy S (vC k9 h9 i9 j9 z9) I (by omega)) (cwV 1 hts gX1_vote_X1_numberOf rfl rfl rfl (by decide +kernel) ⟨Nat.le_of_ble_eq_true rfl, Nat.le_of_ble_eq_true rfl⟩) roB_bl (va_recv hK hP (ci := 2) (q0 := 0) rfl rfl) (roB_at hP hK) rfl hl.1 rfl (Nat.le_of_ble_eq_true rfl) dX1_vote_36 ⟨Nat.zero_le _, Nat.zero_le _⟩ ?_
    refine lv_istore (lv' := [(8, .int (numF S (vC k9 h9 i9 j9 z9))), (7, .int (nI (vC k9 h9 i9 j9 z9))), (6, .int (vrF S (nI k9) (nI h9) (nI i9) (nI j9) (nI z9))), (0, .ref (ad 0)), (1, .int (nI k9)), (2, .int (nI h9)), (3, .int (nI i9)), (4, .int (nI j9)), (5, .int (nI z9))]) hx hb dX1_vote_39 hl (by decide) rfl (fun ls hl => ?_)
    refine lv_iload hx hb dX1_vote_41 (lv_at hl 0 rfl) ?_
    refine lv_iconst (v := (-1)) hx hb dX1_vote_43 (by decide) ?_
    refine f_ieq (tgt := 50) hx hb (rfl) ((by decide : ((-1) : Int32).toInt = -1)) dX1_vote_44 (by decide) (fun c_2 => ?_) (fun c_2 => ?_)
    · have hhas : hasV S (vC k9 h9 i9 j9 z9) = false := by
        rw [← Bool.not_eq_true]
        intro e9
        obtain ⟨g9, hg, e2⟩ := num_yes e9
        rw [e2, nI_toInt (by omega)] at c_2
        omega
      refine lv_aload_n hx hb dX1_vote_50 rfl (lv_at hl 3 rfl) ?_
      refine va_get (D := (dC, dI)) (ci := 2) (v := .int (nI (sVn S))) (C := RX1) (T := TX1) (N := 14) hx hb hts hin hown hK hP 0 rfl rfl 9 (by decide) hf_48 (fun _ h9 => h9) rfl dX1_vote_51 ?_
      refine lv_sipush (v := (nI 300)) hx hb dX1_vote_54 (by decide) ?_
      refine f_ilt (tgt := 63) hx hb (nI_toInt (by omega)) (nI_toInt (by omega)) dX1_vote_57 (by decide) (fun c_3 => ?_) (fun c_3 => ?_)
      · refine lv_aload_n hx hb dX1_vote_63 rfl (lv_at hl 3 rfl) ?_
        refine lv_iload hx hb dX1_vote_64 (lv_at hl 1 rfl) ?_
        refine f_mcv (z := []) (As := [.int (nI (vC k9 h9 i9 j9 z9))]) (rest := []) ⟨hx, hb, hml, hown, hts⟩ (c_X1_keep l9 dC dI ad cy S H.size (vC k9 h9 i9 j9 z9) I (by omega) (by omega) (by omega) (by omega) (by omega) (by omega) (hhas)) (cwV 1 hts gX1_vote_X1_keep rfl rfl rfl (by decide +kernel) ⟨Nat.le_of_ble_eq_true rfl, Nat.le_of_ble_eq_true rfl⟩) (va_recv hK hP (ci := 2) (q0 := 0) rfl rfl) hP hK hD hS hA rfl hl.1 rfl (Nat.le_of_ble_eq_true rfl) dX1_vote_66 ⟨Nat.zero_le _, Nat.zero_le _⟩ (fun H locs hP hD hS => ?_)
        have hP : va_P (dC, dI) vwCl (xwr ad cy (nI (sNn (votS S (vC k9 h9 i9 j9 z9)))) (nI (sHh (votS S (vC k9 h9 i9 j9 z9)))) (nI (sVn (votS S (vC k9 h9 i9 j9 z9)))) (lN (sBrn (votS S (vC k9 h9 i9 j9 z9)))) (fun jj => lN (sRul (votS S (vC k9 h9 i9 j9 z9)) jj)) (fun jj => lN (sStk (votS S (vC k9 h9 i9 j9 z9)) jj)) (fun jj => lN (sPrs (votS S (vC k9 h9 i9 j9 z9)) jj)) (fun jj => bI (sOut (votS S (vC k9 h9 i9 j9 z9)) jj)) (fun jj => lN (sWts (votS S (vC k9 h9 i9 j9 z9)) jj)) (fun jj => lN (sTot (votS S (vC k9 h9 i9 j9 z9)) jj)) (fun jj => nI (sVts (votS S (vC k9 h9 i9 j9 z9)) jj)) (fun jj => nI (bbF (votS S (vC k9 h9 i9 j9 z9)) jj)) (fun jj => nI (cbF (votS S (vC k9 h9 i9 j9 z9)) jj))) H := hP
        have hD : va_D A (xwr ad cy (nI (sNn (votS S (vC k9 h9 i9 j9 z9)))) (nI (sHh (votS S (vC k9 h9 i9 j9 z9)))) (nI (sVn (votS S (vC k9 h9 i9 j9 z9)))) (lN (sBrn (votS S (vC k9 h9 i9 j9 z9)))) (fun jj => lN (sRul (votS S (vC k9 h9 i9 j9 z9)) jj)) (fun jj => lN (sStk (votS S (vC k9 h9 i9 j9 z9)) jj)) (fun jj => lN (sPrs (votS S (vC k9 h9 i9 j9 z9)) jj)) (fun jj => bI (sOut (votS S (vC k9 h9 i9 j9 z9)) jj)) (fun jj => lN (sWts (votS S (vC k9 h9 i9 j9 z9)) jj)) (fun jj => lN (sTot (votS S (vC k9 h9 i9 j9 z9)) jj)) (fun jj => nI (sVts (votS S (vC k9 h9 i9 j9 z9)) jj)) (fun jj => nI (bbF (votS S (vC k9 h9 i9 j9 z9)) jj)) (fun jj => nI (cbF (votS S (vC k9 h9 i9 j9 z9)) jj))) := hD
        refine lv_aload_n hx hb dX1_vote_69 rfl (lv_at hl 3 rfl) ?_
        refine va_get (D := (dC, dI)) (ci := 2) (v := .int (nI (sVn (votS S (vC k9 h9 i9 j9 z9))))) (C := RX1) (T := TX1) (N := 14) hx hb hts hin hown hK hP 0 rfl rfl 9 (by decide) hf_48 (fun _ h9 => h9) rfl dX1_vote_70 ?_
        refine lv_iconst (v := (nI 1)) hx hb dX1_vote_73 (by decide) ?_
        refine lv_isub hx hb dX1_vote_74 ?_
        refine f_ti (y := (nI (sVn S))) (by rw [show sVn (votS S (vC k9 h9 i9 j9 z9)) = sVn S + 1 from rfl]; exact pk_sub (a := sVn S + 1) (b := 1) (by omega)) ?_
        have hW : (xwr ad cy (nI (sNn (votS S (vC k9 h9 i9 j9 z9)))) (nI (sHh (votS S (vC k9 h9 i9 j9 z9)))) (nI (sVn (votS S (vC k9 h9 i9 j9 z9)))) (lN (sBrn (votS S (vC k9 h9 i9 j9 z9)))) (fun jj => lN (sRul (votS S (vC k9 h9 i9 j9 z9)) jj)) (fun jj => lN (sStk (votS S (vC k9 h9 i9 j9 z9)) jj)) (fun jj => lN (sPrs (votS S (vC k9 h9 i9 j9 z9)) jj)) (fun jj => bI (sOut (votS S (vC k9 h9 i9 j9 z9)) jj)) (fun jj => lN (sWts (votS S (vC k9 h9 i9 j9 z9)) jj)) (fun jj => lN (sTot (votS S (vC k9 h9 i9 j9 z9)) jj)) (fun jj => nI (sVts (votS S (vC k9 h9 i9 j9 z9)) jj)) (fun jj => nI (bbF (votS S (vC k9 h9 i9 j9 z9)) jj)) (fun jj => nI (cbF (votS S (vC k9 h9 i9 j9 z9)) jj))) = xw ad cy (votG S (nI k9) (nI h9) (nI i9) (nI j9) (nI z9)) := by rw [hG (votS S (vC k9 h9 i9 j9 z9)) (by rw [if_pos ⟨hv, hhas, by omega⟩])]
        rw [hW] at hP hD
        exact f_mi hx hb hr hlocks (hF _ (by rw [hhas, if_neg (by decide), if_neg (by omega)])) hP hK hD hS dX1_vote_75
      · refine lv_bipush (v := (-104)) hx hb dX1_vote_60 (by decide) ?_
        have hW : (xwr ad cy (nI (sNn S)) (nI (sHh S)) (nI (sVn S)) (lN (sBrn S)) (fun jj => lN (sRul S jj)) (fun jj => lN (sStk S jj)) (fun jj => lN (sPrs S jj)) (fun jj => bI (sOut S jj)) (fun jj => lN (sWts S jj)) (fun jj => lN (sTot S jj)) (fun jj => nI (sVts S jj)) (fun jj => nI (bbF S jj)) (fun jj => nI (cbF S jj))) = xw ad cy (votG S (nI k9) (nI h9) (nI i9) (nI j9) (nI z9)) := by rw [hG S (by rw [if_neg]; omega)]
        rw [hW] at hP hD
        exact f_mi hx hb hr hlocks (hF _ (by rw [hhas, if_neg (by decide), if_pos (by omega)])) hP hK hD hS dX1_vote_62
    · have hhas : hasV S (vC k9 h9 i9 j9 z9) = true := by
        rw [← Bool.not_eq_false]
        intro e9
        rw [num_no e9] at c_2
        exact absurd c_2 (by decide)
      refine lv_iload hx hb dX1_vote_47 (lv_at hl 0 rfl) ?_
      have hW : (xwr ad cy (nI (sNn S)) (nI (sHh S)) (nI (sVn S)) (lN (sBrn S)) (fun jj => lN (sRul S jj)) (fun jj => lN (sStk S jj)) (fun jj => lN (sPrs S jj)) (fun jj => bI (sOut S jj)) (fun jj => lN (sWts S jj)) (fun jj => lN (sTot S jj)) (fun jj => nI (sVts S jj)) (fun jj => nI (bbF S jj)) (fun jj => nI (cbF S jj))) = xw ad cy (votG S (nI k9) (nI h9) (nI i9) (nI j9) (nI z9)) := by rw [hG S (by rw [if_neg]; intro e9; rw [hhas] at e9; exact absurd e9.2.1 (by decide))]
      rw [hW] at hP hD
      exact f_mi hx hb hr hlocks (hF _ (by rw [if_pos hhas])) hP hK hD hS dX1_vote_49
  · refine lv_iload hx hb dX1_vote_18 (lv_at hl 0 rfl) ?_
    have hW : (xwr ad cy (nI (sNn S)) (nI (sHh S)) (nI (sVn S)) (lN (sBrn S)) (fun jj => lN (sRul S jj)) (fun jj => lN (sStk S jj)) (fun jj => lN (sPrs S jj)) (fun jj => bI (sOut S jj)) (fun jj => lN (sWts S jj)) (fun jj => lN (sTot S jj)) (fun jj => nI (sVts S jj)) (fun jj => nI (bbF S jj)) (fun jj => nI (cbF S jj))) = xw ad cy (votG S x9 y9 u9 t9 b9) := by rw [show votG S x9 y9 u9 t9 b9 = S by unfold votG; rw [if_neg]; exact fun e9 => c_1 (by rw [e9.1]; rfl)]
    rw [hW] at hP hD
    exact f_mi hx hb hr hlocks (by have e9 : ¬ vrF S x9 y9 u9 t9 b9 = nI 0 := (fun e9 => c_1 (by rw [e9]; rfl)); rw [votF, if_neg e9]) hP hK hD hS dX1_vote_20

abbrev rm_X2_vote : Room := { frames := 2, cells := 0, slots := 0, locals := 50 }
set_option maxHeartbeats 4000000 in
set_option maxRecDepth 100000 in
theorem c_X2_vote (l9 : Launch) (dC : Nat → ClassId) (dI : Nat → Nat → Nat) (ad : Nat → Nat) (cy : Nat → ClassId) (S : St) (sz : Nat) (x9 : Int32) (y9 : Int32) (u9 : Int32) (t9 : Int32) (b9 : Int32) (I : Inv S) : MuI l9 yX2_vote wsX2_vote rm_X2_vote [.ref (ad 0), .int x9, .int y9, .int u9, .int t9, .int b9] (dC, dI) (mw ad cy S) (mw ad cy (votG S x9 y9 u9 t9 b9)) (mty cy) sz (votF S x9 y9 u9 t9 b9) := by
  refine Ro_start (cc := cX2_vote) (maxL := 8) (ret := (some .int)) (lv := [(0, .ref (ad 0)), (1, .int x9), (2, .int y9), (3, .int u9), (4, .int t9), (5, .int b9)]) (by decide) rfl (Nat.le_of_ble_eq_true rfl) rfl ?_
  intro pp ee ss mm aa bl me co hx hb hr hml hts hown hlocks hnm hB ls hl
  obtain ⟨hsz, hP, hK, hD0⟩ := hB
  subst hsz
  have hD := hD0.self (sz := ss.heap.size)
  generalize hAe : va_A (mw ad cy S) ss.heap.size = A at hD ⊢
  have hA : ∀ q9 : Nat, ss.heap.size ≤ q9 → A q9 := fun q9 h9 => by rw [← hAe]; exact Or.inr h9
  have hS : va_S A ss.heap ss.heap [] := va_S.rf
  have hP : va_P (dC, dI) vwCl (mwr ad cy (nI (sNn S)) (nI (sHh S)) (nI (sVn S)) (nI (sRul S 3)) (lN (sRul S 4)) (lN (sBrn S)) (nI (sTn S)) (fun jj => lN (sStk S jj)) (fun jj => lN (sPrs S jj)) (fun jj => bI (sOut S jj)) (fun jj => lN (sWts S jj)) (fun jj => lN (sTot S jj)) (fun jj => nI (sVts S jj / 256 % 8)) (fun jj => nI (sVts S jj / 2048)) (fun jj => nI (sVts S jj / 32 % 8)) (fun jj => nI (sVts S jj / 16 % 2)) (fun jj => nI (sVts S jj % 16)) (fun jj => nI (syF S jj)) (fun jj => nI (rtF S jj)) (fun jj => nI (sTk S jj)) (fun jj => nI (sTa S jj)) (fun jj => sTb S jj) (fun jj => sTy S jj) (fun jj => nI (sTt S jj)) (fun jj => lN (sTc S jj)) (fun jj => lN (sTs S jj)) (fun jj => bI (dnF S jj))) ss.heap := hP
  have hD : va_D A (mwr ad cy (nI (sNn S)) (nI (sHh S)) (nI (sVn S)) (nI (sRul S 3)) (lN (sRul S 4)) (lN (sBrn S)) (nI (sTn S)) (fun jj => lN (sStk S jj)) (fun jj => lN (sPrs S jj)) (fun jj => bI (sOut S jj)) (fun jj => lN (sWts S jj)) (fun jj => lN (sTot S jj)) (fun jj => nI (sVts S jj / 256 % 8)) (fun jj => nI (sVts S jj / 2048)) (fun jj => nI (sVts S jj / 32 % 8)) (fun jj => nI (sVts S jj / 16 % 2)) (fun jj => nI (sVts S jj % 16)) (fun jj => nI (syF S jj)) (fun jj => nI (rtF S jj)) (fun jj => nI (sTk S jj)) (fun jj => nI (sTa S jj)) (fun jj => sTb S jj) (fun jj => sTy S jj) (fun jj => nI (sTt S jj)) (fun jj => lN (sTc S jj)) (fun jj => lN (sTs S jj)) (fun jj => bI (dnF S jj))) := hD
  generalize hHe : ss.heap = H at hP
  have hS : va_S A ss.heap H [] := by rw [← hHe]; exact hS
  generalize hLe : ([] : List Loc) = locs at hS ⊢
  have hin : ∀ w9 ∈ wsX20, w9 ∈ wsX2_vote := fun w9 h9 => List.mem_cons_of_mem _ (List.mem_append_right _ h9)
  have hf_26 := hts (.fieldLink RX2 26 "FaultEvidenceModel" "who" "[I") (by decide +kernel)
  have hf_30 := hts (.fieldLink RX2 30 "FaultEvidenceModel" "when" "[I") (by decide +kernel)
  have hf_33 := hts (.fieldLink RX2 33 "FaultEvidenceModel" "rounds" "[I") (by decide +kernel)
  have hf_36 := hts (.fieldLink RX2 36 "FaultEvidenceModel" "steps" "[I") (by decide +kernel)
  have hf_39 := hts (.fieldLink RX2 39 "FaultEvidenceModel" "blocks" "[I") (by decide +kernel)
  have hf_42 := hts (.fieldLink RX2 42 "FaultEvidenceModel" "saying" "[I") (by decide +kernel)
  have hf_79 := hts (.fieldLink RX2 79 "FaultEvidenceModel" "votes" "I") (by decide +kernel)
  have I1 := I.n
  refine lv_aload_n hx hb dX2_vote_0 rfl (lv_at hl 0 rfl) ?_
  refine lv_iload_n hx hb dX2_vote_1 rfl (lv_at hl 1 rfl) ?_
  refine lv_iload_n hx hb dX2_vote_2 rfl (lv_at hl 2 rfl) ?_
  refine lv_iload_n hx hb dX2_vote_3 rfl (lv_at hl 3 rfl) ?_
  refine lv_iload hx hb dX2_vote_4 (lv_at hl 4 rfl) ?_
  refine lv_iload hx hb dX2_vote_6 (lv_at hl 5 rfl) ?_
  refine f_cVi (As := [.int x9, .int y9, .int u9, .int t9, .int b9]) (rest := []) ⟨hx, hb, hml, hown, hts⟩ (c_X2_refusal l9 dC dI ad cy S x9 y9 u9 t9 b9 I) (cwV 5 hts gX2_vote_X2_refusal rfl rfl rfl (by decide +kernel) ⟨Nat.le_of_ble_eq_true rfl, Nat.le_of_ble_eq_true rfl⟩) roB_bl (va_recv hK hP (ci := 3) (q0 := 0) rfl rfl) (roB_at hP hK) rfl hl.1 rfl (Nat.le_of_ble_eq_true rfl) dX2_vote_8 ⟨Nat.zero_le _, Nat.zero_le _⟩ ?_
  refine lv_istore (lv' := [(6, .int (vrF S x9 y9 u9 t9 b9)), (0, .ref (ad 0)), (1, .int x9), (2, .int y9), (3, .int u9), (4, .int t9), (5, .int b9)]) hx hb dX2_vote_11 hl (by decide) rfl (fun ls hl => ?_)
  refine lv_iload hx hb dX2_vote_13 (lv_at hl 0 rfl) ?_
  refine f_0eq (tgt := 21) hx hb (rfl) dX2_vote_15 (by decide) (fun c_1 => ?_) (fun c_1 => ?_)
  · obtain ⟨k9, h9, i9, j9, z9, rfl, rfl, rfl, rfl, rfl, hk, h1, h2, h3, hi, hj, hz, hw, hv⟩ := vr_fine I c_1
    have hpc := vC_p (k := k9) (h := h9) (r := i9) (t := j9) (b := z9) (by omega) hi hj (by omega)
    have hcl : vC k9 h9 i9 j9 z9 < 83968 ∧ 2048 ≤ vC k9 h9 i9 j9 z9 := by unfold vC; omega
    have hF : ∀ v9, (if hasV S (vC k9 h9 i9 j9 z9) = true then numF S (vC k9 h9 i9 j9 z9) else if 300 ≤ sVn S then -104 else nI (sVn S)) = v9 → v9 = votF S (nI k9) (nI h9) (nI i9) (nI j9) (nI z9) := fun v9 e9 => by
      unfold votF
      rw [if_pos hv, tn_nI (by omega), tn_nI (by omega), tn_nI (by omega), tn_nI (by omega), tn_nI (by omega), e9]
    have hG : ∀ v9, (if vrF S (nI k9) (nI h9) (nI i9) (nI j9) (nI z9) = nI 0 ∧ hasV S (vC k9 h9 i9 j9 z9) = false ∧ sVn S < 300 then votS S (vC k9 h9 i9 j9 z9) else S) = v9 → votG S (nI k9) (nI h9) (nI i9) (nI j9) (nI z9) = v9 := fun v9 e9 => by
      unfold votG
      rw [tn_nI (by omega), tn_nI (by omega), tn_nI (by omega), tn_nI (by omega), tn_nI (by omega), e9]
    refine lv_aload_n hx hb dX2_vote_21 rfl (lv_at hl 1 rfl) ?_
    refine lv_iload_n hx hb dX2_vote_22 rfl (lv_at hl 2 rfl) ?_
    refine lv_iload_n hx hb dX2_vote_23 rfl (lv_at hl 3 rfl) ?_
    refine lv_iload_n hx hb dX2_vote_24 rfl (lv_at hl 4 rfl) ?_
    refine lv_iload hx hb dX2_vote_25 (lv_at hl 5 rfl) ?_
    refine lv_iload hx hb dX2_vote_27 (lv_at hl 6 rfl) ?_
    refine f_cVi (As := [.int (nI k9), .int (nI h9), .int (nI i9), .int (nI j9), .int (nI z9)]) (rest := []) ⟨hx, hb, hml, hown, hts⟩ (c_X2_find l9 dC dI ad cy S k9 h9 i9 j9 z9 I (by omega) (by omega) (by omega) (by omega) (by omega)) (cwV 5 hts gX2_vote_X2_find rfl rfl rfl (by decide +kernel) ⟨Nat.le_of_ble_eq_true rfl, Nat.le_of_ble_eq_true rfl⟩) roB_bl (va_recv hK hP (ci := 3) (q0 := 0) rfl rfl) (roB_at hP hK) rfl hl.1 rfl (Nat.le_of_ble_eq_true rfl) dX2_vote_29 ⟨Nat.zero_le _, Nat.zero_le _⟩ ?_
    refine lv_istore (lv' := [(7, .int (numF S (vC k9 h9 i9 j9 z9))), (6, .int (vrF S (nI k9) (nI h9) (nI i9) (nI j9) (nI z9))), (0, .ref (ad 0)), (1, .int (nI k9)), (2, .int (nI h9)), (3, .int (nI i9)), (4, .int (nI j9)), (5, .int (nI z9))]) hx hb dX2_vote_32 hl (by decide) rfl (fun ls hl => ?_)
    refine lv_iload hx hb dX2_vote_34 (lv_at hl 0 rfl) ?_
    refine f_0lt (tgt := 42) hx hb (rfl) dX2_vote_36 (by decide) (fun c_2 => ?_) (fun c_2 => ?_)
    · have hhas : hasV S (vC k9 h9 i9 j9 z9) = false := by
        rw [← Bool.not_eq_true]
        intro e9
        obtain ⟨g9, hg, e2⟩ := num_yes e9
        rw [e2, nI_toInt (by omega)] at c_2
        omega
      refine lv_aload_n hx hb dX2_vote_42 rfl (lv_at hl 2 rfl) ?_
      refine va_get (D := (dC, dI)) (ci := 3) (v := .int (nI (sVn S))) (C := RX2) (T := TX2) (N := 27) hx hb hts hin hown hK hP 0 rfl rfl 7 (by decide) hf_79 (fun _ h9 => h9) rfl dX2_vote_43 ?_
      refine lv_sipush (v := (nI 300)) hx hb dX2_vote_46 (by decide) ?_
      refine f_ine (tgt := 55) hx hb (nI_toInt (by omega)) (nI_toInt (by omega)) dX2_vote_49 (by decide) (fun c_3 => ?_) (fun c_3 => ?_)
      · refine lv_aload_n hx hb dX2_vote_55 rfl (lv_at hl 2 rfl) ?_
        refine va_get (D := (dC, dI)) (ci := 3) (v := .ref (ad 6)) (C := RX2) (T := TX2) (N := 27) hx hb hts hin hown hK hP 0 rfl rfl 8 (by decide) hf_26 (fun _ h9 => h9) rfl dX2_vote_56 ?_
        refine lv_aload_n hx hb dX2_vote_59 rfl (lv_at hl 2 rfl) ?_
        refine va_get (D := (dC, dI)) (ci := 3) (v := .int (nI (sVn S))) (C := RX2) (T := TX2) (N := 27) hx hb hts hin hown hK hP 0 rfl rfl 7 (by decide) hf_79 (fun _ h9 => h9) rfl dX2_vote_60 ?_
        refine lv_iload_n hx hb dX2_vote_63 rfl (lv_at hl 3 rfl) ?_
        refine f_iast hx hb hK hP hD hS 6 5 rfl rfl (k := (sVn S)) (by omega) (by decide) dX2_vote_64 (fun H locs hP hD hS => ?_)
        have hP : va_P (dC, dI) vwCl (mwr ad cy (nI (sNn S)) (nI (sHh S)) (nI (sVn S)) (nI (sRul S 3)) (lN (sRul S 4)) (lN (sBrn S)) (nI (sTn S)) (fun jj => lN (sStk S jj)) (fun jj => lN (sPrs S jj)) (fun jj => bI (sOut S jj)) (fun jj => lN (sWts S jj)) (fun jj => lN (sTot S jj)) (upd (fun jj => nI (sVts S jj / 256 % 8)) (sVn S) (nI k9)) (fun jj => nI (sVts S jj / 2048)) (fun jj => nI (sVts S jj / 32 % 8)) (fun jj => nI (sVts S jj / 16 % 2)) (fun jj => nI (sVts S jj % 16)) (fun jj => nI (syF S jj)) (fun jj => nI (rtF S jj)) (fun jj => nI (sTk S jj)) (fun jj => nI (sTa S jj)) (fun jj => sTb S jj) (fun jj => sTy S jj) (fun jj => nI (sTt S jj)) (fun jj => lN (sTc S jj)) (fun jj => lN (sTs S jj)) (fun jj => bI (dnF S jj))) H := hP
        have hD : va_D A (mwr ad cy (nI (sNn S)) (nI (sHh S)) (nI (sVn S)) (nI (sRul S 3)) (lN (sRul S 4)) (lN (sBrn S)) (nI (sTn S)) (fun jj => lN (sStk S jj)) (fun jj => lN (sPrs S jj)) (fun jj => bI (sOut S jj)) (fun jj => lN (sWts S jj)) (fun jj => lN (sTot S jj)) (upd (fun jj => nI (sVts S jj / 256 % 8)) (sVn S) (nI k9)) (fun jj => nI (sVts S jj / 2048)) (fun jj => nI (sVts S jj / 32 % 8)) (fun jj => nI (sVts S jj / 16 % 2)) (fun jj => nI (sVts S jj % 16)) (fun jj => nI (syF S jj)) (fun jj => nI (rtF S jj)) (fun jj => nI (sTk S jj)) (fun jj => nI (sTa S jj)) (fun jj => sTb S jj) (fun jj => sTy S jj) (fun jj => nI (sTt S jj)) (fun jj => lN (sTc S jj)) (fun jj => lN (sTs S jj)) (fun jj => bI (dnF S jj))) := hD
        refine lv_aload_n hx hb dX2_vote_65 rfl (lv_at hl 2 rfl) ?_
        refine va_get (D := (dC, dI)) (ci := 3) (v := .ref (ad 7)) (C := RX2) (T := TX2) (N := 27) hx hb hts hin hown hK hP 0 rfl rfl 9 (by decide) hf_30 (fun _ h9 => h9) rfl dX2_vote_66 ?_
        refine lv_aload_n hx hb dX2_vote_69 rfl (lv_at hl 2 rfl) ?_
        refine va_get (D := (dC, dI)) (ci := 3) (v := .int (nI (sVn S))) (C := RX2) (T := TX2) (N := 27) hx hb hts hin hown hK hP 0 rfl rfl 7 (by decide) hf_79 (fun _ h9 => h9) rfl dX2_vote_70 ?_
        refine lv_iload_n hx hb dX2_vote_73 rfl (lv_at hl 4 rfl) ?_
        refine f_iast hx hb hK hP hD hS 7 6 rfl rfl (k := (sVn S)) (by omega) (by decide) dX2_vote_74 (fun H locs hP hD hS => ?_)
        have hP : va_P (dC, dI) vwCl (mwr ad cy (nI (sNn S)) (nI (sHh S)) (nI (sVn S)) (nI (sRul S 3)) (lN (sRul S 4)) (lN (sBrn S)) (nI (sTn S)) (fun jj => lN (sStk S jj)) (fun jj => lN (sPrs S jj)) (fun jj => bI (sOut S jj)) (fun jj => lN (sWts S jj)) (fun jj => lN (sTot S jj)) (upd (fun jj => nI (sVts S jj / 256 % 8)) (sVn S) (nI k9)) (upd (fun jj => nI (sVts S jj / 2048)) (sVn S) (nI h9)) (fun jj => nI (sVts S jj / 32 % 8)) (fun jj => nI (sVts S jj / 16 % 2)) (fun jj => nI (sVts S jj % 16)) (fun jj => nI (syF S jj)) (fun jj => nI (rtF S jj)) (fun jj => nI (sTk S jj)) (fun jj => nI (sTa S jj)) (fun jj => sTb S jj) (fun jj => sTy S jj) (fun jj => nI (sTt S jj)) (fun jj => lN (sTc S jj)) (fun jj => lN (sTs S jj)) (fun jj => bI (dnF S jj))) H := hP
        have hD : va_D A (mwr ad cy (nI (sNn S)) (nI (sHh S)) (nI (sVn S)) (nI (sRul S 3)) (lN (sRul S 4)) (lN (sBrn S)) (nI (sTn S)) (fun jj => lN (sStk S jj)) (fun jj => lN (sPrs S jj)) (fun jj => bI (sOut S jj)) (fun jj => lN (sWts S jj)) (fun jj => lN (sTot S jj)) (upd (fun jj => nI (sVts S jj / 256 % 8)) (sVn S) (nI k9)) (upd (fun jj => nI (sVts S jj / 2048)) (sVn S) (nI h9)) (fun jj => nI (sVts S jj / 32 % 8)) (fun jj => nI (sVts S jj / 16 % 2)) (fun jj => nI (sVts S jj % 16)) (fun jj => nI (syF S jj)) (fun jj => nI (rtF S jj)) (fun jj => nI (sTk S jj)) (fun jj => nI (sTa S jj)) (fun jj => sTb S jj) (fun jj => sTy S jj) (fun jj => nI (sTt S jj)) (fun jj => lN (sTc S jj)) (fun jj => lN (sTs S jj)) (fun jj => bI (dnF S jj))) := hD
        refine lv_aload_n hx hb dX2_vote_75 rfl (lv_at hl 2 rfl) ?_
        refine va_get (D := (dC, dI)) (ci := 3) (v := .ref (ad 8)) (C := RX2) (T := TX2) (N := 27) hx hb hts hin hown hK hP 0 rfl rfl 10 (by decide) hf_33 (fun _ h9 => h9) rfl dX2_vote_76 ?_
        refine lv_aload_n hx hb dX2_vote_79 rfl (lv_at hl 2 rfl) ?_
        refine va_get (D := (dC, dI)) (ci := 3) (v := .int (nI (sVn S))) (C := RX2) (T := TX2) (N := 27) hx hb hts hin hown hK hP 0 rfl rfl 7 (by decide) hf_79 (fun _ h9 => h9) rfl dX2_vote_80 ?_
        refine lv_iload_n hx hb dX2_vote_83 rfl (lv_at hl 5 rfl) ?_
        refine f_iast hx hb hK hP hD hS 8 7 rfl rfl (k := (sVn S)) (by omega) (by decide) dX2_vote_84 (fun H locs hP hD hS => ?_)
        have hP : va_P (dC, dI) vwCl (mwr ad cy (nI (sNn S)) (nI (sHh S)) (nI (sVn S)) (nI (sRul S 3)) (lN (sRul S 4)) (lN (sBrn S)) (nI (sTn S)) (fun jj => lN (sStk S jj)) (fun jj => lN (sPrs S jj)) (fun jj => bI (sOut S jj)) (fun jj => lN (sWts S jj)) (fun jj => lN (sTot S jj)) (upd (fun jj => nI (sVts S jj / 256 % 8)) (sVn S) (nI k9)) (upd (fun jj => nI (sVts S jj / 2048)) (sVn S) (nI h9)) (upd (fun jj => nI (sVts S jj / 32 % 8)) (sVn S) (nI i9)) (fun jj => nI (sVts S jj / 16 % 2)) (fun jj => nI (sVts S jj % 16)) (fun jj => nI (syF S jj)) (fun jj => nI (rtF S jj)) (fun jj => nI (sTk S jj)) (fun jj => nI (sTa S jj)) (fun jj => sTb S jj) (fun jj => sTy S jj) (fun jj => nI (sTt S jj)) (fun jj => lN (sTc S jj)) (fun jj => lN (sTs S jj)) (fun jj => bI (dnF S jj))) H := hP
        have hD : va_D A (mwr ad cy (nI (sNn S)) (nI (sHh S)) (nI (sVn S)) (nI (sRul S 3)) (lN (sRul S 4)) (lN (sBrn S)) (nI (sTn S)) (fun jj => lN (sStk S jj)) (fun jj => lN (sPrs S jj)) (fun jj => bI (sOut S jj)) (fun jj => lN (sWts S jj)) (fun jj => lN (sTot S jj)) (upd (fun jj => nI (sVts S jj / 256 % 8)) (sVn S) (nI k9)) (upd (fun jj => nI (sVts S jj / 2048)) (sVn S) (nI h9)) (upd (fun jj => nI (sVts S jj / 32 % 8)) (sVn S) (nI i9)) (fun jj => nI (sVts S jj / 16 % 2)) (fun jj => nI (sVts S jj % 16)) (fun jj => nI (syF S jj)) (fun jj => nI (rtF S jj)) (fun jj => nI (sTk S jj)) (fun jj => nI (sTa S jj)) (fun jj => sTb S jj) (fun jj => sTy S jj) (fun jj => nI (sTt S jj)) (fun jj => lN (sTc S jj)) (fun jj => lN (sTs S jj)) (fun jj => bI (dnF S jj))) := hD
        refine lv_aload_n hx hb dX2_vote_85 rfl (lv_at hl 2 rfl) ?_
        refine va_get (D := (dC, dI)) (ci := 3) (v := .ref (ad 9)) (C := RX2) (T := TX2) (N := 27) hx hb hts hin hown hK hP 0 rfl rfl 11 (by decide) hf_36 (fun _ h9 => h9) rfl dX2_vote_86 ?_
        refine lv_aload_n hx hb dX2_vote_89 rfl (lv_at hl 2 rfl) ?_
        refine va_get (D := (dC, dI)) (ci := 3) (v := .int (nI (sVn S))) (C := RX2) (T := TX2) (N := 27) hx hb hts hin hown hK hP 0 rfl rfl 7 (by decide) hf_79 (fun _ h9 => h9) rfl dX2_vote_90 ?_
        refine lv_iload hx hb dX2_vote_93 (lv_at hl 6 rfl) ?_
        refine f_iast hx hb hK hP hD hS 9 8 rfl rfl (k := (sVn S)) (by omega) (by decide) dX2_vote_95 (fun H locs hP hD hS => ?_)
        have hP : va_P (dC, dI) vwCl (mwr ad cy (nI (sNn S)) (nI (sHh S)) (nI (sVn S)) (nI (sRul S 3)) (lN (sRul S 4)) (lN (sBrn S)) (nI (sTn S)) (fun jj => lN (sStk S jj)) (fun jj => lN (sPrs S jj)) (fun jj => bI (sOut S jj)) (fun jj => lN (sWts S jj)) (fun jj => lN (sTot S jj)) (upd (fun jj => nI (sVts S jj / 256 % 8)) (sVn S) (nI k9)) (upd (fun jj => nI (sVts S jj / 2048)) (sVn S) (nI h9)) (upd (fun jj => nI (sVts S jj / 32 % 8)) (sVn S) (nI i9)) (upd (fun jj => nI (sVts S jj / 16 % 2)) (sVn S) (nI j9)) (fun jj => nI (sVts S jj % 16)) (fun jj => nI (syF S jj)) (fun jj => nI (rtF S jj)) (fun jj => nI (sTk S jj)) (fun jj => nI (sTa S jj)) (fun jj => sTb S jj) (fun jj => sTy S jj) (fun jj => nI (sTt S jj)) (fun jj => lN (sTc S jj)) (fun jj => lN (sTs S jj)) (fun jj => bI (dnF S jj))) H := hP
        have hD : va_D A (mwr ad cy (nI (sNn S)) (nI (sHh S)) (nI (sVn S)) (nI (sRul S 3)) (lN (sRul S 4)) (lN (sBrn S)) (nI (sTn S)) (fun jj => lN (sStk S jj)) (fun jj => lN (sPrs S jj)) (fun jj => bI (sOut S jj)) (fun jj => lN (sWts S jj)) (fun jj => lN (sTot S jj)) (upd (fun jj => nI (sVts S jj / 256 % 8)) (sVn S) (nI k9)) (upd (fun jj => nI (sVts S jj / 2048)) (sVn S) (nI h9)) (upd (fun jj => nI (sVts S jj / 32 % 8)) (sVn S) (nI i9)) (upd (fun jj => nI (sVts S jj / 16 % 2)) (sVn S) (nI j9)) (fun jj => nI (sVts S jj % 16)) (fun jj => nI (syF S jj)) (fun jj => nI (rtF S jj)) (fun jj => nI (sTk S jj)) (fun jj => nI (sTa S jj)) (fun jj => sTb S jj) (fun jj => sTy S jj) (fun jj => nI (sTt S jj)) (fun jj => lN (sTc S jj)) (fun jj => lN (sTs S jj)) (fun jj => bI (dnF S jj))) := hD
        refine lv_aload_n hx hb dX2_vote_96 rfl (lv_at hl 2 rfl) ?_
        refine va_get (D := (dC, dI)) (ci := 3) (v := .ref (ad 10)) (C := RX2) (T := TX2) (N := 27) hx hb hts hin hown hK hP 0 rfl rfl 12 (by decide) hf_39 (fun _ h9 => h9) rfl dX2_vote_97 ?_
        refine lv_aload_n hx hb dX2_vote_100 rfl (lv_at hl 2 rfl) ?_
        refine va_get (D := (dC, dI)) (ci := 3) (v := .int (nI (sVn S))) (C := RX2) (T := TX2) (N := 27) hx hb hts hin hown hK hP 0 rfl rfl 7 (by decide) hf_79 (fun _ h9 => h9) rfl dX2_vote_101 ?_
        refine lv_iload hx hb dX2_vote_104 (lv_at hl 7 rfl) ?_
        refine f_iast hx hb hK hP hD hS 10 9 rfl rfl (k := (sVn S)) (by omega) (by decide) dX2_vote_106 (fun H locs hP hD hS => ?_)
        have hP : va_P (dC, dI) vwCl (mwr ad cy (nI (sNn S)) (nI (sHh S)) (nI (sVn S)) (nI (sRul S 3)) (lN (sRul S 4)) (lN (sBrn S)) (nI (sTn S)) (fun jj => lN (sStk S jj)) (fun jj => lN (sPrs S jj)) (fun jj => bI (sOut S jj)) (fun jj => lN (sWts S jj)) (fun jj => lN (sTot S jj)) (upd (fun jj => nI (sVts S jj / 256 % 8)) (sVn S) (nI k9)) (upd (fun jj => nI (sVts S jj / 2048)) (sVn S) (nI h9)) (upd (fun jj => nI (sVts S jj / 32 % 8)) (sVn S) (nI i9)) (upd (fun jj => nI (sVts S jj / 16 % 2)) (sVn S) (nI j9)) (upd (fun jj => nI (sVts S jj % 16)) (sVn S) (nI z9)) (fun jj => nI (syF S jj)) (fun jj => nI (rtF S jj)) (fun jj => nI (sTk S jj)) (fun jj => nI (sTa S jj)) (fun jj => sTb S jj) (fun jj => sTy S jj) (fun jj => nI (sTt S jj)) (fun jj => lN (sTc S jj)) (fun jj => lN (sTs S jj)) (fun jj => bI (dnF S jj))) H := hP
        have hD : va_D A (mwr ad cy (nI (sNn S)) (nI (sHh S)) (nI (sVn S)) (nI (sRul S 3)) (lN (sRul S 4)) (lN (sBrn S)) (nI (sTn S)) (fun jj => lN (sStk S jj)) (fun jj => lN (sPrs S jj)) (fun jj => bI (sOut S jj)) (fun jj => lN (sWts S jj)) (fun jj => lN (sTot S jj)) (upd (fun jj => nI (sVts S jj / 256 % 8)) (sVn S) (nI k9)) (upd (fun jj => nI (sVts S jj / 2048)) (sVn S) (nI h9)) (upd (fun jj => nI (sVts S jj / 32 % 8)) (sVn S) (nI i9)) (upd (fun jj => nI (sVts S jj / 16 % 2)) (sVn S) (nI j9)) (upd (fun jj => nI (sVts S jj % 16)) (sVn S) (nI z9)) (fun jj => nI (syF S jj)) (fun jj => nI (rtF S jj)) (fun jj => nI (sTk S jj)) (fun jj => nI (sTa S jj)) (fun jj => sTb S jj) (fun jj => sTy S jj) (fun jj => nI (sTt S jj)) (fun jj => lN (sTc S jj)) (fun jj => lN (sTs S jj)) (fun jj => bI (dnF S jj))) := hD
        refine lv_aload_n hx hb dX2_vote_107 rfl (lv_at hl 2 rfl) ?_
        refine va_get (D := (dC, dI)) (ci := 3) (v := .ref (ad 11)) (C := RX2) (T := TX2) (N := 27) hx hb hts hin hown hK hP 0 rfl rfl 13 (by decide) hf_42 (fun _ h9 => h9) rfl dX2_vote_108 ?_
        refine lv_iload_n hx hb dX2_vote_111 rfl (lv_at hl 4 rfl) ?_
        refine lv_iload_n hx hb dX2_vote_112 rfl (lv_at hl 5 rfl) ?_
        refine lv_iload hx hb dX2_vote_113 (lv_at hl 6 rfl) ?_
        refine lv_iload hx hb dX2_vote_115 (lv_at hl 7 rfl) ?_
        refine f_cSi (As := [.int (nI h9), .int (nI i9), .int (nI j9), .int (nI z9)]) (rest := [.ref (ad 11)]) ⟨hx, hb, hml, hown, hts⟩ (c_X2_place l9 h9 i9 j9 z9) (va_cwS 4 hts gX2_vote_X2_place rfl rfl rfl (by decide +kernel) ⟨Nat.le_of_ble_eq_true rfl, Nat.le_of_ble_eq_true rfl⟩) noB_bl noB_at rfl hl.1 rfl (Nat.le_of_ble_eq_true rfl) dX2_vote_117 ⟨Nat.zero_le _, Nat.zero_le _⟩ ?_
        refine lv_dup2_11 hx hb dX2_vote_120 rfl rfl ?_
        have hy := sy_lt S (((8 * h9 + i9) * 2 + j9) * 10 + z9)
        refine f_iald hx hb hK hP 11 10 rfl rfl (k := (((8 * h9 + i9) * 2 + j9) * 10 + z9)) (by omega) (by decide) (v := (nI (syF S (((8 * h9 + i9) * 2 + j9) * 10 + z9)))) (rfl) dX2_vote_121 ?_
        refine lv_iconst (v := (nI 1)) hx hb dX2_vote_122 (by decide) ?_
        refine lv_iload_n hx hb dX2_vote_123 rfl (lv_at hl 3 rfl) ?_
        refine lv_ishl hx hb dX2_vote_124 ?_
        refine f_ti (y := (nI (2 ^ k9))) (f_shl1 (by omega)) ?_
        refine lv_ior hx hb dX2_vote_125 ?_
        refine f_ti (y := (nI ((syF S (((8 * h9 + i9) * 2 + j9) * 10 + z9)) ||| (2 ^ k9)))) (nx_or _ _) ?_
        refine f_iast hx hb hK hP hD hS 11 10 rfl rfl (k := (((8 * h9 + i9) * 2 + j9) * 10 + z9)) (by omega) (by decide) dX2_vote_126 (fun H locs hP hD hS => ?_)
        have hP : va_P (dC, dI) vwCl (mwr ad cy (nI (sNn S)) (nI (sHh S)) (nI (sVn S)) (nI (sRul S 3)) (lN (sRul S 4)) (lN (sBrn S)) (nI (sTn S)) (fun jj => lN (sStk S jj)) (fun jj => lN (sPrs S jj)) (fun jj => bI (sOut S jj)) (fun jj => lN (sWts S jj)) (fun jj => lN (sTot S jj)) (upd (fun jj => nI (sVts S jj / 256 % 8)) (sVn S) (nI k9)) (upd (fun jj => nI (sVts S jj / 2048)) (sVn S) (nI h9)) (upd (fun jj => nI (sVts S jj / 32 % 8)) (sVn S) (nI i9)) (upd (fun jj => nI (sVts S jj / 16 % 2)) (sVn S) (nI j9)) (upd (fun jj => nI (sVts S jj % 16)) (sVn S) (nI z9)) (upd (fun jj => nI (syF S jj)) (((8 * h9 + i9) * 2 + j9) * 10 + z9) (nI ((syF S (((8 * h9 + i9) * 2 + j9) * 10 + z9)) ||| (2 ^ k9)))) (fun jj => nI (rtF S jj)) (fun jj => nI (sTk S jj)) (fun jj => nI (sTa S jj)) (fun jj => sTb S jj) (fun jj => sTy S jj) (fun jj => nI (sTt S jj)) (fun jj => lN (sTc S jj)) (fun jj => lN (sTs S jj)) (fun jj => bI (dnF S jj))) H := hP
        have hD : va_D A (mwr ad cy (nI (sNn S)) (nI (sHh S)) (nI (sVn S)) (nI (sRul S 3)) (lN (sRul S 4)) (lN (sBrn S)) (nI (sTn S)) (fun jj => lN (sStk S jj)) (fun jj => lN (sPrs S jj)) (fun jj => bI (sOut S jj)) (fun jj => lN (sWts S jj)) (fun jj => lN (sTot S jj)) (upd (fun jj => nI (sVts S jj / 256 % 8)) (sVn S) (nI k9)) (upd (fun jj => nI (sVts S jj / 2048)) (sVn S) (nI h9)) (upd (fun jj => nI (sVts S jj / 32 % 8)) (sVn S) (nI i9)) (upd (fun jj => nI (sVts S jj / 16 % 2)) (sVn S) (nI j9)) (upd (fun jj => nI (sVts S jj % 16)) (sVn S) (nI z9)) (upd (fun jj => nI (syF S jj)) (((8 * h9 + i9) * 2 + j9) * 10 + z9) (nI ((syF S (((8 * h9 + i9) * 2 + j9) * 10 + z9)) ||| (2 ^ k9)))) (fun jj => nI (rtF S jj)) (fun jj => nI (sTk S jj)) (fun jj => nI (sTa S jj)) (fun jj => sTb S jj) (fun jj => sTy S jj) (fun jj => nI (sTt S jj)) (fun jj => lN (sTc S jj)) (fun jj => lN (sTs S jj)) (fun jj => bI (dnF S jj))) := hD
        refine lv_aload_n hx hb dX2_vote_127 rfl (lv_at hl 2 rfl) ?_
        refine lv_dup hx hb dX2_vote_128 rfl ?_
        refine va_get (D := (dC, dI)) (ci := 3) (v := .int (nI (sVn S))) (C := RX2) (T := TX2) (N := 27) hx hb hts hin hown hK hP 0 rfl rfl 7 (by decide) hf_79 (fun _ h9 => h9) rfl dX2_vote_129 ?_
        refine lv_iconst (v := (nI 1)) hx hb dX2_vote_132 (by decide) ?_
        refine lv_iadd hx hb dX2_vote_133 ?_
        refine f_ti (y := (nI ((sVn S) + 1))) (nI_add _ _) ?_
        refine va_put (D := (dC, dI)) (ci := 3) (v := .int (nI ((sVn S) + 1))) (ty := .int) (C := RX2) (T := TX2) (N := 27) hx hb hts hin tyX2 tyX2_ok nmX2 hown hK hP hD hS 0 rfl rfl 7 (by decide) hf_79 (fun _ h9 => h9) rfl (by decide +kernel) rfl rfl (Nat.le_of_ble_eq_true rfl) dX2_vote_134 (fun H locs hP hD hS => ?_)
        have hP : va_P (dC, dI) vwCl (mwr ad cy (nI (sNn S)) (nI (sHh S)) (nI ((sVn S) + 1)) (nI (sRul S 3)) (lN (sRul S 4)) (lN (sBrn S)) (nI (sTn S)) (fun jj => lN (sStk S jj)) (fun jj => lN (sPrs S jj)) (fun jj => bI (sOut S jj)) (fun jj => lN (sWts S jj)) (fun jj => lN (sTot S jj)) (upd (fun jj => nI (sVts S jj / 256 % 8)) (sVn S) (nI k9)) (upd (fun jj => nI (sVts S jj / 2048)) (sVn S) (nI h9)) (upd (fun jj => nI (sVts S jj / 32 % 8)) (sVn S) (nI i9)) (upd (fun jj => nI (sVts S jj / 16 % 2)) (sVn S) (nI j9)) (upd (fun jj => nI (sVts S jj % 16)) (sVn S) (nI z9)) (upd (fun jj => nI (syF S jj)) (((8 * h9 + i9) * 2 + j9) * 10 + z9) (nI ((syF S (((8 * h9 + i9) * 2 + j9) * 10 + z9)) ||| (2 ^ k9)))) (fun jj => nI (rtF S jj)) (fun jj => nI (sTk S jj)) (fun jj => nI (sTa S jj)) (fun jj => sTb S jj) (fun jj => sTy S jj) (fun jj => nI (sTt S jj)) (fun jj => lN (sTc S jj)) (fun jj => lN (sTs S jj)) (fun jj => bI (dnF S jj))) H := hP
        have hD : va_D A (mwr ad cy (nI (sNn S)) (nI (sHh S)) (nI ((sVn S) + 1)) (nI (sRul S 3)) (lN (sRul S 4)) (lN (sBrn S)) (nI (sTn S)) (fun jj => lN (sStk S jj)) (fun jj => lN (sPrs S jj)) (fun jj => bI (sOut S jj)) (fun jj => lN (sWts S jj)) (fun jj => lN (sTot S jj)) (upd (fun jj => nI (sVts S jj / 256 % 8)) (sVn S) (nI k9)) (upd (fun jj => nI (sVts S jj / 2048)) (sVn S) (nI h9)) (upd (fun jj => nI (sVts S jj / 32 % 8)) (sVn S) (nI i9)) (upd (fun jj => nI (sVts S jj / 16 % 2)) (sVn S) (nI j9)) (upd (fun jj => nI (sVts S jj % 16)) (sVn S) (nI z9)) (upd (fun jj => nI (syF S jj)) (((8 * h9 + i9) * 2 + j9) * 10 + z9) (nI ((syF S (((8 * h9 + i9) * 2 + j9) * 10 + z9)) ||| (2 ^ k9)))) (fun jj => nI (rtF S jj)) (fun jj => nI (sTk S jj)) (fun jj => nI (sTa S jj)) (fun jj => sTb S jj) (fun jj => sTy S jj) (fun jj => nI (sTt S jj)) (fun jj => lN (sTc S jj)) (fun jj => lN (sTs S jj)) (fun jj => bI (dnF S jj))) := hD
        refine lv_aload_n hx hb dX2_vote_137 rfl (lv_at hl 2 rfl) ?_
        refine va_get (D := (dC, dI)) (ci := 3) (v := .int (nI ((sVn S) + 1))) (C := RX2) (T := TX2) (N := 27) hx hb hts hin hown hK hP 0 rfl rfl 7 (by decide) hf_79 (fun _ h9 => h9) rfl dX2_vote_138 ?_
        refine lv_iconst (v := (nI 1)) hx hb dX2_vote_141 (by decide) ?_
        refine lv_isub hx hb dX2_vote_142 ?_
        refine f_ti (y := (nI (sVn S))) (pk_sub (a := sVn S + 1) (b := 1) (by omega)) ?_
        have hW : (mwr ad cy (nI (sNn S)) (nI (sHh S)) (nI ((sVn S) + 1)) (nI (sRul S 3)) (lN (sRul S 4)) (lN (sBrn S)) (nI (sTn S)) (fun jj => lN (sStk S jj)) (fun jj => lN (sPrs S jj)) (fun jj => bI (sOut S jj)) (fun jj => lN (sWts S jj)) (fun jj => lN (sTot S jj)) (upd (fun jj => nI (sVts S jj / 256 % 8)) (sVn S) (nI k9)) (upd (fun jj => nI (sVts S jj / 2048)) (sVn S) (nI h9)) (upd (fun jj => nI (sVts S jj / 32 % 8)) (sVn S) (nI i9)) (upd (fun jj => nI (sVts S jj / 16 % 2)) (sVn S) (nI j9)) (upd (fun jj => nI (sVts S jj % 16)) (sVn S) (nI z9)) (upd (fun jj => nI (syF S jj)) (((8 * h9 + i9) * 2 + j9) * 10 + z9) (nI ((syF S (((8 * h9 + i9) * 2 + j9) * 10 + z9)) ||| (2 ^ k9)))) (fun jj => nI (rtF S jj)) (fun jj => nI (sTk S jj)) (fun jj => nI (sTa S jj)) (fun jj => sTb S jj) (fun jj => sTy S jj) (fun jj => nI (sTt S jj)) (fun jj => lN (sTc S jj)) (fun jj => lN (sTs S jj)) (fun jj => bI (dnF S jj))) = mw ad cy (votG S (nI k9) (nI h9) (nI i9) (nI j9) (nI z9)) := by rw [hG (votS S (vC k9 h9 i9 j9 z9)) (by rw [if_pos ⟨hv, hhas, by omega⟩])]; exact mwr_eq rfl rfl rfl rfl rfl rfl rfl rfl rfl rfl rfl rfl (upd_vt (g := fun c9 => c9 / 256 % 8) hpc.2.1) (upd_vt (g := fun c9 => c9 / 2048) hpc.1) (upd_vt (g := fun c9 => c9 / 32 % 8) hpc.2.2.1) (upd_vt (g := fun c9 => c9 / 16 % 2) hpc.2.2.2.1) (upd_vt (g := fun c9 => c9 % 16) hpc.2.2.2.2.1) (by rw [sy_vot (by omega) hi hj hz]; exact upd_nI) rfl rfl rfl rfl rfl rfl rfl rfl (by rw [dn_vot I])
        rw [hW] at hP hD
        exact f_mi hx hb hr hlocks (hF _ (by rw [hhas, if_neg (by decide), if_neg (by omega)])) hP hK hD hS dX2_vote_143
      · refine lv_bipush (v := (-104)) hx hb dX2_vote_52 (by decide) ?_
        have hW : (mwr ad cy (nI (sNn S)) (nI (sHh S)) (nI (sVn S)) (nI (sRul S 3)) (lN (sRul S 4)) (lN (sBrn S)) (nI (sTn S)) (fun jj => lN (sStk S jj)) (fun jj => lN (sPrs S jj)) (fun jj => bI (sOut S jj)) (fun jj => lN (sWts S jj)) (fun jj => lN (sTot S jj)) (fun jj => nI (sVts S jj / 256 % 8)) (fun jj => nI (sVts S jj / 2048)) (fun jj => nI (sVts S jj / 32 % 8)) (fun jj => nI (sVts S jj / 16 % 2)) (fun jj => nI (sVts S jj % 16)) (fun jj => nI (syF S jj)) (fun jj => nI (rtF S jj)) (fun jj => nI (sTk S jj)) (fun jj => nI (sTa S jj)) (fun jj => sTb S jj) (fun jj => sTy S jj) (fun jj => nI (sTt S jj)) (fun jj => lN (sTc S jj)) (fun jj => lN (sTs S jj)) (fun jj => bI (dnF S jj))) = mw ad cy (votG S (nI k9) (nI h9) (nI i9) (nI j9) (nI z9)) := by rw [hG S (by rw [if_neg]; omega)]
        rw [hW] at hP hD
        exact f_mi hx hb hr hlocks (hF _ (by rw [hhas, if_neg (by decide), if_pos (by omega)])) hP hK hD hS dX2_vote_54
    · have hhas : hasV S (vC k9 h9 i9 j9 z9) = true := by
        rw [← Bool.not_eq_false]
        intro e9
        rw [num_no e9] at c_2
        exact absurd c_2 (by decide)
      refine lv_iload hx hb dX2_vote_39 (lv_at hl 0 rfl) ?_
      have hW : (mwr ad cy (nI (sNn S)) (nI (sHh S)) (nI (sVn S)) (nI (sRul S 3)) (lN (sRul S 4)) (lN (sBrn S)) (nI (sTn S)) (fun jj => lN (sStk S jj)) (fun jj => lN (sPrs S jj)) (fun jj => bI (sOut S jj)) (fun jj => lN (sWts S jj)) (fun jj => lN (sTot S jj)) (fun jj => nI (sVts S jj / 256 % 8)) (fun jj => nI (sVts S jj / 2048)) (fun jj => nI (sVts S jj / 32 % 8)) (fun jj => nI (sVts S jj / 16 % 2)) (fun jj => nI (sVts S jj % 16)) (fun jj => nI (syF S jj)) (fun jj => nI (rtF S jj)) (fun jj => nI (sTk S jj)) (fun jj => nI (sTa S jj)) (fun jj => sTb S jj) (fun jj => sTy S jj) (fun jj => nI (sTt S jj)) (fun jj => lN (sTc S jj)) (fun jj => lN (sTs S jj)) (fun jj => bI (dnF S jj))) = mw ad cy (votG S (nI k9) (nI h9) (nI i9) (nI j9) (nI z9)) := by rw [hG S (by rw [if_neg]; intro e9; rw [hhas] at e9; exact absurd e9.2.1 (by decide))]
      rw [hW] at hP hD
      exact f_mi hx hb hr hlocks (hF _ (by rw [if_pos hhas])) hP hK hD hS dX2_vote_41
  · refine lv_iload hx hb dX2_vote_18 (lv_at hl 0 rfl) ?_
    have hW : (mwr ad cy (nI (sNn S)) (nI (sHh S)) (nI (sVn S)) (nI (sRul S 3)) (lN (sRul S 4)) (lN (sBrn S)) (nI (sTn S)) (fun jj => lN (sStk S jj)) (fun jj => lN (sPrs S jj)) (fun jj => bI (sOut S jj)) (fun jj => lN (sWts S jj)) (fun jj => lN (sTot S jj)) (fun jj => nI (sVts S jj / 256 % 8)) (fun jj => nI (sVts S jj / 2048)) (fun jj => nI (sVts S jj / 32 % 8)) (fun jj => nI (sVts S jj / 16 % 2)) (fun jj => nI (sVts S jj % 16)) (fun jj => nI (syF S jj)) (fun jj => nI (rtF S jj)) (fun jj => nI (sTk S jj)) (fun jj => nI (sTa S jj)) (fun jj => sTb S jj) (fun jj => sTy S jj) (fun jj => nI (sTt S jj)) (fun jj => lN (sTc S jj)) (fun jj => lN (sTs S jj)) (fun jj => bI (dnF S jj))) = mw ad cy (votG S x9 y9 u9 t9 b9) := by rw [show votG S x9 y9 u9 t9 b9 = S by unfold votG; rw [if_neg]; exact fun e9 => c_1 (by rw [e9.1]; rfl)]
    rw [hW] at hP hD
    exact f_mi hx hb hr hlocks (by have e9 : ¬ vrF S x9 y9 u9 t9 b9 = nI 0 := (fun e9 => c_1 (by rw [e9]; rfl)); rw [votF, if_neg e9]) hP hK hD hS dX2_vote_20

abbrev rm_X1_weighNodes : Room := { frames := 1, cells := 0, slots := 0, locals := 21 }
set_option maxHeartbeats 4000000 in
set_option maxRecDepth 100000 in
theorem c_X1_weighNodes (l9 : Launch) (dC : Nat → ClassId) (dI : Nat → Nat → Nat) (ad : Nat → Nat) (cy : Nat → ClassId) (S : St) (qh : Int32) (sz : Nat) (h9 : Nat) (I : Inv S) (hh : h9 = sHh S + 1) (hh2 : h9 ≤ 40) : MuV l9 yX1_weighNodes wsX1_weighNodes rm_X1_weighNodes [.ref (ad 0), .int (nI h9)] (dC, dI) ((xwr ad cy (nI (sNn S)) qh (nI (sVn S)) (lN (sBrn S)) (fun jj => lN (sRul S jj)) (fun jj => lN (sStk S jj)) (fun jj => lN (sPrs S jj)) (fun jj => bI (sOut S jj)) (fun jj => lN (sWts S jj)) (fun jj => lN (sTot S jj)) (fun jj => nI (sVts S jj)) (fun jj => nI (bbF S jj)) (fun jj => nI (cbF S jj)))) (xwr ad cy (nI (sNn S)) qh (nI (sVn S)) (lN (sBrn S)) (fun jj => lN (sRul S jj)) (fun jj => lN (sStk S jj)) (fun jj => lN (sPrs S jj)) (fun jj => bI (sOut S jj)) (fun j9 => lN (nwW S (sNn S) j9)) (fun j9 => lN (va_up (sTot S) (sHh S + 1) (sm (sNn S) (nwT S)) j9)) (fun jj => nI (sVts S jj)) (fun jj => nI (bbF S jj)) (fun jj => nI (cbF S jj))) (xty cy) sz := by
  refine Ro_start (cc := cX1_weighNodes) (maxL := 7) (ret := none) (lv := [(0, .ref (ad 0)), (1, .int (nI h9))]) (by decide) rfl (Nat.le_of_ble_eq_true rfl) rfl ?_
  intro pp ee ss mm aa bl me co hx hb hr hml hts hown hlocks hnm hB ls hl
  obtain ⟨hsz, hP, hK, hD0⟩ := hB
  subst hsz
  have hD := hD0.self (sz := ss.heap.size)
  generalize hAe : va_A ((xwr ad cy (nI (sNn S)) qh (nI (sVn S)) (lN (sBrn S)) (fun jj => lN (sRul S jj)) (fun jj => lN (sStk S jj)) (fun jj => lN (sPrs S jj)) (fun jj => bI (sOut S jj)) (fun jj => lN (sWts S jj)) (fun jj => lN (sTot S jj)) (fun jj => nI (sVts S jj)) (fun jj => nI (bbF S jj)) (fun jj => nI (cbF S jj)))) ss.heap.size = A at hD ⊢
  have hA : ∀ q9 : Nat, ss.heap.size ≤ q9 → A q9 := fun q9 h9 => by rw [← hAe]; exact Or.inr h9
  have hS : va_S A ss.heap ss.heap [] := va_S.rf
  have hP : va_P (dC, dI) vwCl (xwr ad cy (nI (sNn S)) qh (nI (sVn S)) (lN (sBrn S)) (fun jj => lN (sRul S jj)) (fun jj => lN (sStk S jj)) (fun jj => lN (sPrs S jj)) (fun jj => bI (sOut S jj)) (fun jj => lN (sWts S jj)) (fun jj => lN (sTot S jj)) (fun jj => nI (sVts S jj)) (fun jj => nI (bbF S jj)) (fun jj => nI (cbF S jj))) ss.heap := hP
  have hD : va_D A (xwr ad cy (nI (sNn S)) qh (nI (sVn S)) (lN (sBrn S)) (fun jj => lN (sRul S jj)) (fun jj => lN (sStk S jj)) (fun jj => lN (sPrs S jj)) (fun jj => bI (sOut S jj)) (fun jj => lN (sWts S jj)) (fun jj => lN (sTot S jj)) (fun jj => nI (sVts S jj)) (fun jj => nI (bbF S jj)) (fun jj => nI (cbF S jj))) := hD
  generalize hHe : ss.heap = H at hP
  have hS : va_S A ss.heap H [] := by rw [← hHe]; exact hS
  generalize hLe : ([] : List Loc) = locs at hS ⊢
  have hin : ∀ w9 ∈ wsX10, w9 ∈ wsX1_weighNodes := fun w9 h9 => List.mem_cons_of_mem _ (List.mem_append_right _ h9)
  have hf_21 := hts (.fieldLink RX1 21 "FaultEvidence" "stakes" "[J") (by decide +kernel)
  have hf_27 := hts (.fieldLink RX1 27 "FaultEvidence" "out" "[Z") (by decide +kernel)
  have hf_31 := hts (.fieldLink RX1 31 "FaultEvidence" "nodeCount" "I") (by decide +kernel)
  have hf_38 := hts (.fieldLink RX1 38 "FaultEvidence" "weights" "[J") (by decide +kernel)
  have hf_41 := hts (.fieldLink RX1 41 "FaultEvidence" "totals" "[J") (by decide +kernel)
  have I1 := I.n
  subst hh
  refine lv_lconst (v := (lN 0)) hx hb dX1_weighNodes_0 (by decide) ?_
  refine lv_lstore_n (lv' := [(2, .long (lN 0)), (0, .ref (ad 0)), (1, .int (nI (sHh S + 1)))]) hx hb dX1_weighNodes_1 rfl hl (by decide) rfl (fun ls hl => ?_)
  refine lv_iconst (v := (nI 0)) hx hb dX1_weighNodes_2 (by decide) ?_
  refine lv_istore (lv' := [(4, .int (nI 0)), (2, .long (lN 0)), (0, .ref (ad 0)), (1, .int (nI (sHh S + 1)))]) hx hb dX1_weighNodes_3 hl (by decide) rfl (fun ls hl => ?_)
  have loop_5 : ∀ (n9 : Nat) (k9 : Nat) (w9 : Nat) (f5 : Nat → Int64), sNn S - k9 < n9 → f5 = (fun j9 => lN (nwW S k9 j9)) → w9 = sm k9 (nwT S) → k9 ≤ sNn S → ∀ (H : Heap) (locs : List Loc), va_P (dC, dI) vwCl (xwr ad cy (nI (sNn S)) qh (nI (sVn S)) (lN (sBrn S)) (fun jj => lN (sRul S jj)) (fun jj => lN (sStk S jj)) (fun jj => lN (sPrs S jj)) (fun jj => bI (sOut S jj)) f5 (fun jj => lN (sTot S jj)) (fun jj => nI (sVts S jj)) (fun jj => nI (bbF S jj)) (fun jj => nI (cbF S jj))) H → va_D A (xwr ad cy (nI (sNn S)) qh (nI (sVn S)) (lN (sBrn S)) (fun jj => lN (sRul S jj)) (fun jj => lN (sStk S jj)) (fun jj => lN (sPrs S jj)) (fun jj => bI (sOut S jj)) f5 (fun jj => lN (sTot S jj)) (fun jj => nI (sVts S jj)) (fun jj => nI (bbF S jj)) (fun jj => nI (cbF S jj))) → va_S A ss.heap H locs → ∀ ls : Array Slot, lv_has ls 7 [(4, .int (nI k9)), (2, .long (lN w9)), (0, .ref (ad 0)), (1, .int (nI (sHh S + 1)))] → W pp l9 ee rm_X1_weighNodes ss mm aa bl me co H locs 0 0 (MQ bl (va_Qv (fun (_ : Unit) => True) (fun _ t_ => muQ (dC, dI) (xwr ad cy (nI (sNn S)) qh (nI (sVn S)) (lN (sBrn S)) (fun jj => lN (sRul S jj)) (fun jj => lN (sStk S jj)) (fun jj => lN (sPrs S jj)) (fun jj => bI (sOut S jj)) (fun j9 => lN (nwW S (sNn S) j9)) (fun j9 => lN (va_up (sTot S) (sHh S + 1) (sm (sNn S) (nwT S)) j9)) (fun jj => nI (sVts S jj)) (fun jj => nI (bbF S jj)) (fun jj => nI (cbF S jj))) (xty cy) A t_) A) aa ss 0 0 A) (F0 mm 5 ls []) := by
    intro n9
    induction n9 with
    | zero => intro k9 w9 f5 hm; exact absurd hm (Nat.not_lt_zero _)
    | succ n9 ih_5 =>
      intro k9 w9 f5 hm hf hw hkn H locs hP hD hS ls hl
      refine lv_iload hx hb dX1_weighNodes_5 (lv_at hl 0 rfl) ?_
      refine lv_aload_n hx hb dX1_weighNodes_7 rfl (lv_at hl 2 rfl) ?_
      refine va_get (D := (dC, dI)) (ci := 2) (v := .int (nI (sNn S))) (C := RX1) (T := TX1) (N := 14) hx hb hts hin hown hK hP 0 rfl rfl 4 (by decide) hf_31 (fun _ h9 => h9) rfl dX1_weighNodes_8 ?_
      refine f_ige (tgt := 61) hx hb (nI_toInt (by omega)) (nI_toInt (by omega)) dX1_weighNodes_11 (by decide) (fun c_1 => ?_) (fun c_1 => ?_)
      · refine lv_aload_n hx hb dX1_weighNodes_61 rfl (lv_at hl 2 rfl) ?_
        refine va_get (D := (dC, dI)) (ci := 2) (v := .ref (ad 6)) (C := RX1) (T := TX1) (N := 14) hx hb hts hin hown hK hP 0 rfl rfl 7 (by decide) hf_41 (fun _ h9 => h9) rfl dX1_weighNodes_62 ?_
        refine lv_iload_n hx hb dX1_weighNodes_65 rfl (lv_at hl 3 rfl) ?_
        refine lv_lload_n hx hb dX1_weighNodes_66 rfl (lv_at hl 1 rfl) ?_
        refine f_last hx hb hK hP hD hS 6 5 rfl rfl (k := (sHh S + 1)) (by omega) (by decide) dX1_weighNodes_67 (fun H locs hP hD hS => ?_)
        have hP : va_P (dC, dI) vwCl (xwr ad cy (nI (sNn S)) qh (nI (sVn S)) (lN (sBrn S)) (fun jj => lN (sRul S jj)) (fun jj => lN (sStk S jj)) (fun jj => lN (sPrs S jj)) (fun jj => bI (sOut S jj)) f5 (vp_updL (fun jj => lN (sTot S jj)) (sHh S + 1) (lN w9)) (fun jj => nI (sVts S jj)) (fun jj => nI (bbF S jj)) (fun jj => nI (cbF S jj))) H := hP
        have hD : va_D A (xwr ad cy (nI (sNn S)) qh (nI (sVn S)) (lN (sBrn S)) (fun jj => lN (sRul S jj)) (fun jj => lN (sStk S jj)) (fun jj => lN (sPrs S jj)) (fun jj => bI (sOut S jj)) f5 (vp_updL (fun jj => lN (sTot S jj)) (sHh S + 1) (lN w9)) (fun jj => nI (sVts S jj)) (fun jj => nI (bbF S jj)) (fun jj => nI (cbF S jj))) := hD
        have hW : (xwr ad cy (nI (sNn S)) qh (nI (sVn S)) (lN (sBrn S)) (fun jj => lN (sRul S jj)) (fun jj => lN (sStk S jj)) (fun jj => lN (sPrs S jj)) (fun jj => bI (sOut S jj)) f5 (vp_updL (fun jj => lN (sTot S jj)) (sHh S + 1) (lN w9)) (fun jj => nI (sVts S jj)) (fun jj => nI (bbF S jj)) (fun jj => nI (cbF S jj))) = xwr ad cy (nI (sNn S)) qh (nI (sVn S)) (lN (sBrn S)) (fun jj => lN (sRul S jj)) (fun jj => lN (sStk S jj)) (fun jj => lN (sPrs S jj)) (fun jj => bI (sOut S jj)) (fun j9 => lN (nwW S (sNn S) j9)) (fun j9 => lN (va_up (sTot S) (sHh S + 1) (sm (sNn S) (nwT S)) j9)) (fun jj => nI (sVts S jj)) (fun jj => nI (bbF S jj)) (fun jj => nI (cbF S jj)) := by have e9 : k9 = sNn S := (by omega); exact xwr_eq rfl rfl rfl rfl rfl rfl rfl rfl (by rw [hf, e9]) (by rw [hw, e9]; exact updL_lN) rfl rfl rfl
        rw [hW] at hP hD
        exact f_mv hx hb hr hlocks hP hK hD hS dX1_weighNodes_68
      · have Is := I.s k9
        refine lv_aload_n hx hb dX1_weighNodes_14 rfl (lv_at hl 2 rfl) ?_
        refine va_get (D := (dC, dI)) (ci := 2) (v := .ref (ad 4)) (C := RX1) (T := TX1) (N := 14) hx hb hts hin hown hK hP 0 rfl rfl 3 (by decide) hf_27 (fun _ h9 => h9) rfl dX1_weighNodes_15 ?_
        refine lv_iload hx hb dX1_weighNodes_18 (lv_at hl 0 rfl) ?_
        refine f_zald hx hb hK hP 4 3 rfl rfl (k := k9) (by omega) (by decide) (v := (bI (sOut S k9))) (rfl) dX1_weighNodes_20 ?_
        refine f_beq (tgt := 28) hx hb dX1_weighNodes_21 (by decide) (fun c_2 => ?_) (fun c_2 => ?_)
        · have hz : nwT S k9 = sStk S k9 := by simp [nwT, c_2]
          refine lv_aload_n hx hb dX1_weighNodes_28 rfl (lv_at hl 2 rfl) ?_
          refine va_get (D := (dC, dI)) (ci := 2) (v := .ref (ad 2)) (C := RX1) (T := TX1) (N := 14) hx hb hts hin hown hK hP 0 rfl rfl 1 (by decide) hf_21 (fun _ h9 => h9) rfl dX1_weighNodes_29 ?_
          refine lv_iload hx hb dX1_weighNodes_32 (lv_at hl 0 rfl) ?_
          refine f_lald hx hb hK hP 2 1 rfl rfl (k := k9) (by omega) (by decide) (v := (lN (sStk S k9))) (rfl) dX1_weighNodes_34 ?_
          refine lv_lstore (lv' := [(5, .long (lN (sStk S k9))), (4, .int (nI k9)), (2, .long (lN w9)), (0, .ref (ad 0)), (1, .int (nI (sHh S + 1)))]) hx hb dX1_weighNodes_35 hl (by decide) rfl (fun ls hl => ?_)
          refine lv_aload_n hx hb dX1_weighNodes_37 rfl (lv_at hl 3 rfl) ?_
          refine va_get (D := (dC, dI)) (ci := 2) (v := .ref (ad 5)) (C := RX1) (T := TX1) (N := 14) hx hb hts hin hown hK hP 0 rfl rfl 6 (by decide) hf_38 (fun _ h9 => h9) rfl dX1_weighNodes_38 ?_
          refine lv_iload_n hx hb dX1_weighNodes_41 rfl (lv_at hl 4 rfl) ?_
          refine lv_iload hx hb dX1_weighNodes_42 (lv_at hl 1 rfl) ?_
          refine f_cSi (As := [.int (nI (sHh S + 1)), .int (nI k9)]) (rest := [.ref (ad 5)]) ⟨hx, hb, hml, hown, hts⟩ (c_X1_weightIndex l9 (sHh S + 1) k9) (va_cwS 2 hts gX1_weighNodes_X1_weightIndex rfl rfl rfl (by decide +kernel) ⟨Nat.le_of_ble_eq_true rfl, Nat.le_of_ble_eq_true rfl⟩) noB_bl noB_at rfl hl.1 rfl (Nat.le_of_ble_eq_true rfl) dX1_weighNodes_44 ⟨Nat.zero_le _, Nat.zero_le _⟩ ?_
          refine lv_lload hx hb dX1_weighNodes_47 (lv_at hl 0 rfl) ?_
          refine f_last hx hb hK hP hD hS 5 4 rfl rfl (k := ((sHh S + 1) * 8 + k9)) (by omega) (by decide) dX1_weighNodes_49 (fun H locs hP hD hS => ?_)
          have hP : va_P (dC, dI) vwCl (xwr ad cy (nI (sNn S)) qh (nI (sVn S)) (lN (sBrn S)) (fun jj => lN (sRul S jj)) (fun jj => lN (sStk S jj)) (fun jj => lN (sPrs S jj)) (fun jj => bI (sOut S jj)) (vp_updL f5 ((sHh S + 1) * 8 + k9) (lN (sStk S k9))) (fun jj => lN (sTot S jj)) (fun jj => nI (sVts S jj)) (fun jj => nI (bbF S jj)) (fun jj => nI (cbF S jj))) H := hP
          have hD : va_D A (xwr ad cy (nI (sNn S)) qh (nI (sVn S)) (lN (sBrn S)) (fun jj => lN (sRul S jj)) (fun jj => lN (sStk S jj)) (fun jj => lN (sPrs S jj)) (fun jj => bI (sOut S jj)) (vp_updL f5 ((sHh S + 1) * 8 + k9) (lN (sStk S k9))) (fun jj => lN (sTot S jj)) (fun jj => nI (sVts S jj)) (fun jj => nI (bbF S jj)) (fun jj => nI (cbF S jj))) := hD
          refine lv_lload_n hx hb dX1_weighNodes_50 rfl (lv_at hl 2 rfl) ?_
          refine lv_lload hx hb dX1_weighNodes_51 (lv_at hl 0 rfl) ?_
          refine lv_ladd hx hb dX1_weighNodes_53 ?_
          refine f_tl (y := (lN (w9 + (sStk S k9)))) (lN_add _ _) ?_
          refine lv_lstore_n (lv' := [(2, .long (lN (w9 + (sStk S k9)))), (5, .long (lN (sStk S k9))), (4, .int (nI k9)), (0, .ref (ad 0)), (1, .int (nI (sHh S + 1)))]) hx hb dX1_weighNodes_54 rfl hl (by decide) rfl (fun ls hl => ?_)
          refine lv_iinc (v := (nI (k9 + 1))) (lv' := [(4, .int (nI (k9 + 1))), (2, .long (lN (w9 + (sStk S k9)))), (5, .long (lN (sStk S k9))), (0, .ref (ad 0)), (1, .int (nI (sHh S + 1)))]) hx hb dX1_weighNodes_55 hl (k := 2) rfl (nI_add k9 1) (by decide) rfl (fun ls hl => ?_)
          refine lv_goto (tgt := 5) hx hb dX1_weighNodes_58 (by decide) ?_
          exact ih_5 (k9 + 1) (w9 + (sStk S k9)) (vp_updL f5 ((sHh S + 1) * 8 + k9) (lN (sStk S k9))) (by omega) (by rw [hf, ← hz]; exact nw_step (by omega)) (by rw [sm, ← hw, hz]) (by omega) _ _ hP hD hS ls (lv_sub hl [0, 1, 3, 4] rfl)
        · have hz : nwT S k9 = 0 := by simp [nwT, c_2]
          refine lv_lconst (v := (lN 0)) hx hb dX1_weighNodes_24 (by decide) ?_
          refine lv_goto (tgt := 35) hx hb dX1_weighNodes_25 (by decide) ?_
          refine lv_lstore (lv' := [(5, .long (lN 0)), (4, .int (nI k9)), (2, .long (lN w9)), (0, .ref (ad 0)), (1, .int (nI (sHh S + 1)))]) hx hb dX1_weighNodes_35 hl (by decide) rfl (fun ls hl => ?_)
          refine lv_aload_n hx hb dX1_weighNodes_37 rfl (lv_at hl 3 rfl) ?_
          refine va_get (D := (dC, dI)) (ci := 2) (v := .ref (ad 5)) (C := RX1) (T := TX1) (N := 14) hx hb hts hin hown hK hP 0 rfl rfl 6 (by decide) hf_38 (fun _ h9 => h9) rfl dX1_weighNodes_38 ?_
          refine lv_iload_n hx hb dX1_weighNodes_41 rfl (lv_at hl 4 rfl) ?_
          refine lv_iload hx hb dX1_weighNodes_42 (lv_at hl 1 rfl) ?_
          refine f_cSi (As := [.int (nI (sHh S + 1)), .int (nI k9)]) (rest := [.ref (ad 5)]) ⟨hx, hb, hml, hown, hts⟩ (c_X1_weightIndex l9 (sHh S + 1) k9) (va_cwS 2 hts gX1_weighNodes_X1_weightIndex rfl rfl rfl (by decide +kernel) ⟨Nat.le_of_ble_eq_true rfl, Nat.le_of_ble_eq_true rfl⟩) noB_bl noB_at rfl hl.1 rfl (Nat.le_of_ble_eq_true rfl) dX1_weighNodes_44 ⟨Nat.zero_le _, Nat.zero_le _⟩ ?_
          refine lv_lload hx hb dX1_weighNodes_47 (lv_at hl 0 rfl) ?_
          refine f_last hx hb hK hP hD hS 5 4 rfl rfl (k := ((sHh S + 1) * 8 + k9)) (by omega) (by decide) dX1_weighNodes_49 (fun H locs hP hD hS => ?_)
          have hP : va_P (dC, dI) vwCl (xwr ad cy (nI (sNn S)) qh (nI (sVn S)) (lN (sBrn S)) (fun jj => lN (sRul S jj)) (fun jj => lN (sStk S jj)) (fun jj => lN (sPrs S jj)) (fun jj => bI (sOut S jj)) (vp_updL f5 ((sHh S + 1) * 8 + k9) (lN 0)) (fun jj => lN (sTot S jj)) (fun jj => nI (sVts S jj)) (fun jj => nI (bbF S jj)) (fun jj => nI (cbF S jj))) H := hP
          have hD : va_D A (xwr ad cy (nI (sNn S)) qh (nI (sVn S)) (lN (sBrn S)) (fun jj => lN (sRul S jj)) (fun jj => lN (sStk S jj)) (fun jj => lN (sPrs S jj)) (fun jj => bI (sOut S jj)) (vp_updL f5 ((sHh S + 1) * 8 + k9) (lN 0)) (fun jj => lN (sTot S jj)) (fun jj => nI (sVts S jj)) (fun jj => nI (bbF S jj)) (fun jj => nI (cbF S jj))) := hD
          refine lv_lload_n hx hb dX1_weighNodes_50 rfl (lv_at hl 2 rfl) ?_
          refine lv_lload hx hb dX1_weighNodes_51 (lv_at hl 0 rfl) ?_
          refine lv_ladd hx hb dX1_weighNodes_53 ?_
          refine f_tl (y := (lN (w9 + 0))) (lN_add _ _) ?_
          refine lv_lstore_n (lv' := [(2, .long (lN (w9 + 0))), (5, .long (lN 0)), (4, .int (nI k9)), (0, .ref (ad 0)), (1, .int (nI (sHh S + 1)))]) hx hb dX1_weighNodes_54 rfl hl (by decide) rfl (fun ls hl => ?_)
          refine lv_iinc (v := (nI (k9 + 1))) (lv' := [(4, .int (nI (k9 + 1))), (2, .long (lN (w9 + 0))), (5, .long (lN 0)), (0, .ref (ad 0)), (1, .int (nI (sHh S + 1)))]) hx hb dX1_weighNodes_55 hl (k := 2) rfl (nI_add k9 1) (by decide) rfl (fun ls hl => ?_)
          refine lv_goto (tgt := 5) hx hb dX1_weighNodes_58 (by decide) ?_
          exact ih_5 (k9 + 1) (w9 + 0) (vp_updL f5 ((sHh S + 1) * 8 + k9) (lN 0)) (by omega) (by rw [hf, ← hz]; exact nw_step (by omega)) (by rw [sm, ← hw, hz]) (by omega) _ _ hP hD hS ls (lv_sub hl [0, 1, 3, 4] rfl)
  exact loop_5 (sNn S - 0 + 1) 0 0 (fun jj => lN (sWts S jj)) (Nat.lt_succ_self _) (nw_0 S) (rfl) (Nat.zero_le _) _ _ hP hD hS ls (lv_sub hl [0, 1, 2, 3] rfl)

abbrev rm_X1_next : Room := { frames := 2, cells := 0, slots := 0, locals := 47 }
set_option maxHeartbeats 4000000 in
set_option maxRecDepth 100000 in
theorem c_X1_next (l9 : Launch) (dC : Nat → ClassId) (dI : Nat → Nat → Nat) (ad : Nat → Nat) (cy : Nat → ClassId) (S : St) (sz : Nat) (I : Inv S) : MuI l9 yX1_next wsX1_next rm_X1_next [.ref (ad 0)] (dC, dI) (xw ad cy S) (xw ad cy (nxtG S)) (xty cy) sz (nxtF S) := by
  refine Ro_start (cc := cX1_next) (maxL := 1) (ret := (some .int)) (lv := [(0, .ref (ad 0))]) (by decide) rfl (Nat.le_of_ble_eq_true rfl) rfl ?_
  intro pp ee ss mm aa bl me co hx hb hr hml hts hown hlocks hnm hB ls hl
  obtain ⟨hsz, hP, hK, hD0⟩ := hB
  subst hsz
  have hD := hD0.self (sz := ss.heap.size)
  generalize hAe : va_A (xw ad cy S) ss.heap.size = A at hD ⊢
  have hA : ∀ q9 : Nat, ss.heap.size ≤ q9 → A q9 := fun q9 h9 => by rw [← hAe]; exact Or.inr h9
  have hS : va_S A ss.heap ss.heap [] := va_S.rf
  have hP : va_P (dC, dI) vwCl (xwr ad cy (nI (sNn S)) (nI (sHh S)) (nI (sVn S)) (lN (sBrn S)) (fun jj => lN (sRul S jj)) (fun jj => lN (sStk S jj)) (fun jj => lN (sPrs S jj)) (fun jj => bI (sOut S jj)) (fun jj => lN (sWts S jj)) (fun jj => lN (sTot S jj)) (fun jj => nI (sVts S jj)) (fun jj => nI (bbF S jj)) (fun jj => nI (cbF S jj))) ss.heap := hP
  have hD : va_D A (xwr ad cy (nI (sNn S)) (nI (sHh S)) (nI (sVn S)) (lN (sBrn S)) (fun jj => lN (sRul S jj)) (fun jj => lN (sStk S jj)) (fun jj => lN (sPrs S jj)) (fun jj => bI (sOut S jj)) (fun jj => lN (sWts S jj)) (fun jj => lN (sTot S jj)) (fun jj => nI (sVts S jj)) (fun jj => nI (bbF S jj)) (fun jj => nI (cbF S jj))) := hD
  generalize hHe : ss.heap = H at hP
  have hS : va_S A ss.heap H [] := by rw [← hHe]; exact hS
  generalize hLe : ([] : List Loc) = locs at hS ⊢
  have hin : ∀ w9 ∈ wsX10, w9 ∈ wsX1_next := fun w9 h9 => List.mem_cons_of_mem _ (List.mem_append_right _ h9)
  have hf_35 := hts (.fieldLink RX1 35 "FaultEvidence" "currentHeight" "I") (by decide +kernel)
  have I1 := I.n
  refine lv_aload_n hx hb dX1_next_0 rfl (lv_at hl 0 rfl) ?_
  refine va_get (D := (dC, dI)) (ci := 2) (v := .int (nI (sHh S))) (C := RX1) (T := TX1) (N := 14) hx hb hts hin hown hK hP 0 rfl rfl 5 (by decide) hf_35 (fun _ h9 => h9) rfl dX1_next_1 ?_
  refine lv_bipush (v := (nI 40)) hx hb dX1_next_4 (by decide) ?_
  refine f_ilt (tgt := 12) hx hb (nI_toInt (by omega)) (nI_toInt (by omega)) dX1_next_6 (by decide) (fun c_1 => ?_) (fun c_1 => ?_)
  · refine lv_aload_n hx hb dX1_next_12 rfl (lv_at hl 0 rfl) ?_
    refine lv_dup hx hb dX1_next_13 rfl ?_
    refine va_get (D := (dC, dI)) (ci := 2) (v := .int (nI (sHh S))) (C := RX1) (T := TX1) (N := 14) hx hb hts hin hown hK hP 0 rfl rfl 5 (by decide) hf_35 (fun _ h9 => h9) rfl dX1_next_14 ?_
    refine lv_iconst (v := (nI 1)) hx hb dX1_next_17 (by decide) ?_
    refine lv_iadd hx hb dX1_next_18 ?_
    refine f_ti (y := (nI ((sHh S) + 1))) (nI_add _ _) ?_
    refine va_put (D := (dC, dI)) (ci := 2) (v := .int (nI ((sHh S) + 1))) (ty := .int) (C := RX1) (T := TX1) (N := 14) hx hb hts hin tyX1 tyX1_ok nmX1 hown hK hP hD hS 0 rfl rfl 5 (by decide) hf_35 (fun _ h9 => h9) rfl (by decide +kernel) rfl rfl (Nat.le_of_ble_eq_true rfl) dX1_next_19 (fun H locs hP hD hS => ?_)
    have hP : va_P (dC, dI) vwCl (xwr ad cy (nI (sNn S)) (nI ((sHh S) + 1)) (nI (sVn S)) (lN (sBrn S)) (fun jj => lN (sRul S jj)) (fun jj => lN (sStk S jj)) (fun jj => lN (sPrs S jj)) (fun jj => bI (sOut S jj)) (fun jj => lN (sWts S jj)) (fun jj => lN (sTot S jj)) (fun jj => nI (sVts S jj)) (fun jj => nI (bbF S jj)) (fun jj => nI (cbF S jj))) H := hP
    have hD : va_D A (xwr ad cy (nI (sNn S)) (nI ((sHh S) + 1)) (nI (sVn S)) (lN (sBrn S)) (fun jj => lN (sRul S jj)) (fun jj => lN (sStk S jj)) (fun jj => lN (sPrs S jj)) (fun jj => bI (sOut S jj)) (fun jj => lN (sWts S jj)) (fun jj => lN (sTot S jj)) (fun jj => nI (sVts S jj)) (fun jj => nI (bbF S jj)) (fun jj => nI (cbF S jj))) := hD
    refine lv_aload_n hx hb dX1_next_22 rfl (lv_at hl 0 rfl) ?_
    refine lv_aload_n hx hb dX1_next_23 rfl (lv_at hl 0 rfl) ?_
    refine va_get (D := (dC, dI)) (ci := 2) (v := .int (nI ((sHh S) + 1))) (C := RX1) (T := TX1) (N := 14) hx hb hts hin hown hK hP 0 rfl rfl 5 (by decide) hf_35 (fun _ h9 => h9) rfl dX1_next_24 ?_
    refine f_mcv (z := []) (As := [.int (nI ((sHh S) + 1))]) (rest := []) ⟨hx, hb, hml, hown, hts⟩ (c_X1_weighNodes l9 dC dI ad cy S (nI (sHh S + 1)) H.size ((sHh S) + 1) I (rfl) (by omega)) (cwV 1 hts gX1_next_X1_weighNodes rfl rfl rfl (by decide +kernel) ⟨Nat.le_of_ble_eq_true rfl, Nat.le_of_ble_eq_true rfl⟩) (va_recv hK hP (ci := 2) (q0 := 0) rfl rfl) hP hK hD hS hA rfl hl.1 rfl (Nat.le_of_ble_eq_true rfl) dX1_next_27 ⟨Nat.zero_le _, Nat.zero_le _⟩ (fun H locs hP hD hS => ?_)
    have hP : va_P (dC, dI) vwCl (xwr ad cy (nI (sNn S)) (nI (sHh S + 1)) (nI (sVn S)) (lN (sBrn S)) (fun jj => lN (sRul S jj)) (fun jj => lN (sStk S jj)) (fun jj => lN (sPrs S jj)) (fun jj => bI (sOut S jj)) (fun j9 => lN (nwW S (sNn S) j9)) (fun j9 => lN (va_up (sTot S) (sHh S + 1) (sm (sNn S) (nwT S)) j9)) (fun jj => nI (sVts S jj)) (fun jj => nI (bbF S jj)) (fun jj => nI (cbF S jj))) H := hP
    have hD : va_D A (xwr ad cy (nI (sNn S)) (nI (sHh S + 1)) (nI (sVn S)) (lN (sBrn S)) (fun jj => lN (sRul S jj)) (fun jj => lN (sStk S jj)) (fun jj => lN (sPrs S jj)) (fun jj => bI (sOut S jj)) (fun j9 => lN (nwW S (sNn S) j9)) (fun j9 => lN (va_up (sTot S) (sHh S + 1) (sm (sNn S) (nwT S)) j9)) (fun jj => nI (sVts S jj)) (fun jj => nI (bbF S jj)) (fun jj => nI (cbF S jj))) := hD
    refine lv_aload_n hx hb dX1_next_30 rfl (lv_at hl 0 rfl) ?_
    refine va_get (D := (dC, dI)) (ci := 2) (v := .int (nI (sHh S + 1))) (C := RX1) (T := TX1) (N := 14) hx hb hts hin hown hK hP 0 rfl rfl 5 (by decide) hf_35 (fun _ h9 => h9) rfl dX1_next_31 ?_
    have hW : (xwr ad cy (nI (sNn S)) (nI (sHh S + 1)) (nI (sVn S)) (lN (sBrn S)) (fun jj => lN (sRul S jj)) (fun jj => lN (sStk S jj)) (fun jj => lN (sPrs S jj)) (fun jj => bI (sOut S jj)) (fun j9 => lN (nwW S (sNn S) j9)) (fun j9 => lN (va_up (sTot S) (sHh S + 1) (sm (sNn S) (nwT S)) j9)) (fun jj => nI (sVts S jj)) (fun jj => nI (bbF S jj)) (fun jj => nI (cbF S jj))) = xw ad cy (nxtG S) := by rw [show nxtG S = nxtS S by unfold nxtG; rw [if_pos (by omega)]]; exact xwr_eq rfl rfl rfl rfl rfl rfl rfl rfl rfl rfl rfl (bb_nxt I) (cb_nxt I)
    rw [hW] at hP hD
    exact f_mi hx hb hr hlocks (by unfold nxtF; rw [if_pos (by omega)]) hP hK hD hS dX1_next_34
  · refine lv_bipush (v := (-104)) hx hb dX1_next_9 (by decide) ?_
    have hW : (xwr ad cy (nI (sNn S)) (nI (sHh S)) (nI (sVn S)) (lN (sBrn S)) (fun jj => lN (sRul S jj)) (fun jj => lN (sStk S jj)) (fun jj => lN (sPrs S jj)) (fun jj => bI (sOut S jj)) (fun jj => lN (sWts S jj)) (fun jj => lN (sTot S jj)) (fun jj => nI (sVts S jj)) (fun jj => nI (bbF S jj)) (fun jj => nI (cbF S jj))) = xw ad cy (nxtG S) := by rw [show nxtG S = S by unfold nxtG; rw [if_neg (by omega)]]
    rw [hW] at hP hD
    exact f_mi hx hb hr hlocks (by unfold nxtF; rw [if_neg (by omega)]) hP hK hD hS dX1_next_11

abbrev rm_X2_next : Room := { frames := 0, cells := 0, slots := 0, locals := 0 }
set_option maxHeartbeats 4000000 in
set_option maxRecDepth 100000 in
theorem c_X2_next (l9 : Launch) (dC : Nat → ClassId) (dI : Nat → Nat → Nat) (ad : Nat → Nat) (cy : Nat → ClassId) (S : St) (sz : Nat) (I : Inv S) (h0 : sTot S (sHh S + 1) = 0) : MuI l9 yX2_next wsX2_next rm_X2_next [.ref (ad 0)] (dC, dI) (mw ad cy S) (mw ad cy (nxtG S)) (mty cy) sz (nxtF S) := by
  refine Ro_start (cc := cX2_next) (maxL := 4) (ret := (some .int)) (lv := [(0, .ref (ad 0))]) (by decide) rfl (Nat.le_of_ble_eq_true rfl) rfl ?_
  intro pp ee ss mm aa bl me co hx hb hr hml hts hown hlocks hnm hB ls hl
  obtain ⟨hsz, hP, hK, hD0⟩ := hB
  subst hsz
  have hD := hD0.self (sz := ss.heap.size)
  generalize hAe : va_A (mw ad cy S) ss.heap.size = A at hD ⊢
  have hA : ∀ q9 : Nat, ss.heap.size ≤ q9 → A q9 := fun q9 h9 => by rw [← hAe]; exact Or.inr h9
  have hS : va_S A ss.heap ss.heap [] := va_S.rf
  have hP : va_P (dC, dI) vwCl (mwr ad cy (nI (sNn S)) (nI (sHh S)) (nI (sVn S)) (nI (sRul S 3)) (lN (sRul S 4)) (lN (sBrn S)) (nI (sTn S)) (fun jj => lN (sStk S jj)) (fun jj => lN (sPrs S jj)) (fun jj => bI (sOut S jj)) (fun jj => lN (sWts S jj)) (fun jj => lN (sTot S jj)) (fun jj => nI (sVts S jj / 256 % 8)) (fun jj => nI (sVts S jj / 2048)) (fun jj => nI (sVts S jj / 32 % 8)) (fun jj => nI (sVts S jj / 16 % 2)) (fun jj => nI (sVts S jj % 16)) (fun jj => nI (syF S jj)) (fun jj => nI (rtF S jj)) (fun jj => nI (sTk S jj)) (fun jj => nI (sTa S jj)) (fun jj => sTb S jj) (fun jj => sTy S jj) (fun jj => nI (sTt S jj)) (fun jj => lN (sTc S jj)) (fun jj => lN (sTs S jj)) (fun jj => bI (dnF S jj))) ss.heap := hP
  have hD : va_D A (mwr ad cy (nI (sNn S)) (nI (sHh S)) (nI (sVn S)) (nI (sRul S 3)) (lN (sRul S 4)) (lN (sBrn S)) (nI (sTn S)) (fun jj => lN (sStk S jj)) (fun jj => lN (sPrs S jj)) (fun jj => bI (sOut S jj)) (fun jj => lN (sWts S jj)) (fun jj => lN (sTot S jj)) (fun jj => nI (sVts S jj / 256 % 8)) (fun jj => nI (sVts S jj / 2048)) (fun jj => nI (sVts S jj / 32 % 8)) (fun jj => nI (sVts S jj / 16 % 2)) (fun jj => nI (sVts S jj % 16)) (fun jj => nI (syF S jj)) (fun jj => nI (rtF S jj)) (fun jj => nI (sTk S jj)) (fun jj => nI (sTa S jj)) (fun jj => sTb S jj) (fun jj => sTy S jj) (fun jj => nI (sTt S jj)) (fun jj => lN (sTc S jj)) (fun jj => lN (sTs S jj)) (fun jj => bI (dnF S jj))) := hD
  generalize hHe : ss.heap = H at hP
  have hS : va_S A ss.heap H [] := by rw [← hHe]; exact hS
  generalize hLe : ([] : List Loc) = locs at hS ⊢
  have hin : ∀ w9 ∈ wsX20, w9 ∈ wsX2_next := fun w9 h9 => List.mem_cons_of_mem _ (List.mem_append_right _ h9)
  have hf_7 := hts (.fieldLink RX2 7 "FaultEvidenceModel" "stakes" "[J") (by decide +kernel)
  have hf_16 := hts (.fieldLink RX2 16 "FaultEvidenceModel" "isOut" "[Z") (by decide +kernel)
  have hf_20 := hts (.fieldLink RX2 20 "FaultEvidenceModel" "weights" "[J") (by decide +kernel)
  have hf_23 := hts (.fieldLink RX2 23 "FaultEvidenceModel" "totals" "[J") (by decide +kernel)
  have hf_76 := hts (.fieldLink RX2 76 "FaultEvidenceModel" "nodes" "I") (by decide +kernel)
  have hf_82 := hts (.fieldLink RX2 82 "FaultEvidenceModel" "height" "I") (by decide +kernel)
  have I1 := I.n
  refine lv_aload_n hx hb dX2_next_0 rfl (lv_at hl 0 rfl) ?_
  refine va_get (D := (dC, dI)) (ci := 3) (v := .int (nI (sHh S))) (C := RX2) (T := TX2) (N := 27) hx hb hts hin hown hK hP 0 rfl rfl 4 (by decide) hf_82 (fun _ h9 => h9) rfl dX2_next_1 ?_
  refine lv_bipush (v := (nI 40)) hx hb dX2_next_4 (by decide) ?_
  refine f_ine (tgt := 12) hx hb (nI_toInt (by omega)) (nI_toInt (by omega)) dX2_next_6 (by decide) (fun c_1 => ?_) (fun c_1 => ?_)
  · refine lv_aload_n hx hb dX2_next_12 rfl (lv_at hl 0 rfl) ?_
    refine lv_dup hx hb dX2_next_13 rfl ?_
    refine va_get (D := (dC, dI)) (ci := 3) (v := .int (nI (sHh S))) (C := RX2) (T := TX2) (N := 27) hx hb hts hin hown hK hP 0 rfl rfl 4 (by decide) hf_82 (fun _ h9 => h9) rfl dX2_next_14 ?_
    refine lv_iconst (v := (nI 1)) hx hb dX2_next_17 (by decide) ?_
    refine lv_iadd hx hb dX2_next_18 ?_
    refine f_ti (y := (nI ((sHh S) + 1))) (nI_add _ _) ?_
    refine va_put (D := (dC, dI)) (ci := 3) (v := .int (nI ((sHh S) + 1))) (ty := .int) (C := RX2) (T := TX2) (N := 27) hx hb hts hin tyX2 tyX2_ok nmX2 hown hK hP hD hS 0 rfl rfl 4 (by decide) hf_82 (fun _ h9 => h9) rfl (by decide +kernel) rfl rfl (Nat.le_of_ble_eq_true rfl) dX2_next_19 (fun H locs hP hD hS => ?_)
    have hP : va_P (dC, dI) vwCl (mwr ad cy (nI (sNn S)) (nI ((sHh S) + 1)) (nI (sVn S)) (nI (sRul S 3)) (lN (sRul S 4)) (lN (sBrn S)) (nI (sTn S)) (fun jj => lN (sStk S jj)) (fun jj => lN (sPrs S jj)) (fun jj => bI (sOut S jj)) (fun jj => lN (sWts S jj)) (fun jj => lN (sTot S jj)) (fun jj => nI (sVts S jj / 256 % 8)) (fun jj => nI (sVts S jj / 2048)) (fun jj => nI (sVts S jj / 32 % 8)) (fun jj => nI (sVts S jj / 16 % 2)) (fun jj => nI (sVts S jj % 16)) (fun jj => nI (syF S jj)) (fun jj => nI (rtF S jj)) (fun jj => nI (sTk S jj)) (fun jj => nI (sTa S jj)) (fun jj => sTb S jj) (fun jj => sTy S jj) (fun jj => nI (sTt S jj)) (fun jj => lN (sTc S jj)) (fun jj => lN (sTs S jj)) (fun jj => bI (dnF S jj))) H := hP
    have hD : va_D A (mwr ad cy (nI (sNn S)) (nI ((sHh S) + 1)) (nI (sVn S)) (nI (sRul S 3)) (lN (sRul S 4)) (lN (sBrn S)) (nI (sTn S)) (fun jj => lN (sStk S jj)) (fun jj => lN (sPrs S jj)) (fun jj => bI (sOut S jj)) (fun jj => lN (sWts S jj)) (fun jj => lN (sTot S jj)) (fun jj => nI (sVts S jj / 256 % 8)) (fun jj => nI (sVts S jj / 2048)) (fun jj => nI (sVts S jj / 32 % 8)) (fun jj => nI (sVts S jj / 16 % 2)) (fun jj => nI (sVts S jj % 16)) (fun jj => nI (syF S jj)) (fun jj => nI (rtF S jj)) (fun jj => nI (sTk S jj)) (fun jj => nI (sTa S jj)) (fun jj => sTb S jj) (fun jj => sTy S jj) (fun jj => nI (sTt S jj)) (fun jj => lN (sTc S jj)) (fun jj => lN (sTs S jj)) (fun jj => bI (dnF S jj))) := hD
    refine lv_iconst (v := (nI 0)) hx hb dX2_next_22 (by decide) ?_
    refine lv_istore_n (lv' := [(1, .int (nI 0)), (0, .ref (ad 0))]) hx hb dX2_next_23 rfl hl (by decide) rfl (fun ls hl => ?_)
    have loop_24 : ∀ (n9 : Nat) (k9 : Nat) (f4 : Nat → Int64) (f5 : Nat → Int64), sNn S - k9 < n9 → f4 = (fun j9 => lN (nwW S k9 j9)) → f5 = (fun j9 => lN (va_up (sTot S) (sHh S + 1) (sm k9 (nwT S)) j9)) → k9 ≤ sNn S → ∀ (H : Heap) (locs : List Loc), va_P (dC, dI) vwCl (mwr ad cy (nI (sNn S)) (nI ((sHh S) + 1)) (nI (sVn S)) (nI (sRul S 3)) (lN (sRul S 4)) (lN (sBrn S)) (nI (sTn S)) (fun jj => lN (sStk S jj)) (fun jj => lN (sPrs S jj)) (fun jj => bI (sOut S jj)) f4 f5 (fun jj => nI (sVts S jj / 256 % 8)) (fun jj => nI (sVts S jj / 2048)) (fun jj => nI (sVts S jj / 32 % 8)) (fun jj => nI (sVts S jj / 16 % 2)) (fun jj => nI (sVts S jj % 16)) (fun jj => nI (syF S jj)) (fun jj => nI (rtF S jj)) (fun jj => nI (sTk S jj)) (fun jj => nI (sTa S jj)) (fun jj => sTb S jj) (fun jj => sTy S jj) (fun jj => nI (sTt S jj)) (fun jj => lN (sTc S jj)) (fun jj => lN (sTs S jj)) (fun jj => bI (dnF S jj))) H → va_D A (mwr ad cy (nI (sNn S)) (nI ((sHh S) + 1)) (nI (sVn S)) (nI (sRul S 3)) (lN (sRul S 4)) (lN (sBrn S)) (nI (sTn S)) (fun jj => lN (sStk S jj)) (fun jj => lN (sPrs S jj)) (fun jj => bI (sOut S jj)) f4 f5 (fun jj => nI (sVts S jj / 256 % 8)) (fun jj => nI (sVts S jj / 2048)) (fun jj => nI (sVts S jj / 32 % 8)) (fun jj => nI (sVts S jj / 16 % 2)) (fun jj => nI (sVts S jj % 16)) (fun jj => nI (syF S jj)) (fun jj => nI (rtF S jj)) (fun jj => nI (sTk S jj)) (fun jj => nI (sTa S jj)) (fun jj => sTb S jj) (fun jj => sTy S jj) (fun jj => nI (sTt S jj)) (fun jj => lN (sTc S jj)) (fun jj => lN (sTs S jj)) (fun jj => bI (dnF S jj))) → va_S A ss.heap H locs → ∀ ls : Array Slot, lv_has ls 4 [(1, .int (nI k9)), (0, .ref (ad 0))] → W pp l9 ee rm_X2_next ss mm aa bl me co H locs 0 0 (MQ bl (va_Qi (fun z_ (_ : Unit) => z_ = nxtF S) (fun _ t_ => muQ (dC, dI) (mw ad cy (nxtG S)) (mty cy) A t_) A) aa ss 0 0 A) (F0 mm 24 ls []) := by
      intro n9
      induction n9 with
      | zero => intro k9 f4 f5 hm; exact absurd hm (Nat.not_lt_zero _)
      | succ n9 ih_24 =>
        intro k9 f4 f5 hm hf hg hkn H locs hP hD hS ls hl
        refine lv_iload_n hx hb dX2_next_24 rfl (lv_at hl 0 rfl) ?_
        refine lv_aload_n hx hb dX2_next_25 rfl (lv_at hl 1 rfl) ?_
        refine va_get (D := (dC, dI)) (ci := 3) (v := .int (nI (sNn S))) (C := RX2) (T := TX2) (N := 27) hx hb hts hin hown hK hP 0 rfl rfl 0 (by decide) hf_76 (fun _ h9 => h9) rfl dX2_next_26 ?_
        refine f_ige (tgt := 86) hx hb (nI_toInt (by omega)) (nI_toInt (by omega)) dX2_next_29 (by decide) (fun c_2 => ?_) (fun c_2 => ?_)
        · refine lv_aload_n hx hb dX2_next_86 rfl (lv_at hl 1 rfl) ?_
          refine va_get (D := (dC, dI)) (ci := 3) (v := .int (nI ((sHh S) + 1))) (C := RX2) (T := TX2) (N := 27) hx hb hts hin hown hK hP 0 rfl rfl 4 (by decide) hf_82 (fun _ h9 => h9) rfl dX2_next_87 ?_
          have hW : (mwr ad cy (nI (sNn S)) (nI ((sHh S) + 1)) (nI (sVn S)) (nI (sRul S 3)) (lN (sRul S 4)) (lN (sBrn S)) (nI (sTn S)) (fun jj => lN (sStk S jj)) (fun jj => lN (sPrs S jj)) (fun jj => bI (sOut S jj)) f4 f5 (fun jj => nI (sVts S jj / 256 % 8)) (fun jj => nI (sVts S jj / 2048)) (fun jj => nI (sVts S jj / 32 % 8)) (fun jj => nI (sVts S jj / 16 % 2)) (fun jj => nI (sVts S jj % 16)) (fun jj => nI (syF S jj)) (fun jj => nI (rtF S jj)) (fun jj => nI (sTk S jj)) (fun jj => nI (sTa S jj)) (fun jj => sTb S jj) (fun jj => sTy S jj) (fun jj => nI (sTt S jj)) (fun jj => lN (sTc S jj)) (fun jj => lN (sTs S jj)) (fun jj => bI (dnF S jj))) = mw ad cy (nxtG S) := by have e9 : k9 = sNn S := (by omega); rw [show nxtG S = nxtS S by unfold nxtG; rw [if_pos (by omega)]]; exact mwr_eq rfl rfl rfl rfl rfl rfl rfl rfl rfl rfl (by rw [hf, e9]; rfl) (by rw [hg, e9]; rfl) rfl rfl rfl rfl rfl (sy_of2 rfl rfl) rfl rfl rfl rfl rfl rfl rfl rfl (dn_of rfl rfl rfl rfl)
          rw [hW] at hP hD
          exact f_mi hx hb hr hlocks (by unfold nxtF; rw [if_pos (by omega)]) hP hK hD hS dX2_next_90
        · have Is := I.s k9
          refine lv_aload_n hx hb dX2_next_32 rfl (lv_at hl 1 rfl) ?_
          refine va_get (D := (dC, dI)) (ci := 3) (v := .ref (ad 3)) (C := RX2) (T := TX2) (N := 27) hx hb hts hin hown hK hP 0 rfl rfl 3 (by decide) hf_16 (fun _ h9 => h9) rfl dX2_next_33 ?_
          refine lv_iload_n hx hb dX2_next_36 rfl (lv_at hl 0 rfl) ?_
          refine f_zald hx hb hK hP 3 2 rfl rfl (k := k9) (by omega) (by decide) (v := (bI (sOut S k9))) (rfl) dX2_next_37 ?_
          refine f_beq (tgt := 45) hx hb dX2_next_38 (by decide) (fun c_3 => ?_) (fun c_3 => ?_)
          · have hz : nwT S k9 = sStk S k9 := by simp [nwT, c_3]
            refine lv_aload_n hx hb dX2_next_45 rfl (lv_at hl 1 rfl) ?_
            refine va_get (D := (dC, dI)) (ci := 3) (v := .ref (ad 1)) (C := RX2) (T := TX2) (N := 27) hx hb hts hin hown hK hP 0 rfl rfl 1 (by decide) hf_7 (fun _ h9 => h9) rfl dX2_next_46 ?_
            refine lv_iload_n hx hb dX2_next_49 rfl (lv_at hl 0 rfl) ?_
            refine f_lald hx hb hK hP 1 0 rfl rfl (k := k9) (by omega) (by decide) (v := (lN (sStk S k9))) (rfl) dX2_next_50 ?_
            refine lv_lstore_n (lv' := [(2, .long (lN (sStk S k9))), (1, .int (nI k9)), (0, .ref (ad 0))]) hx hb dX2_next_51 rfl hl (by decide) rfl (fun ls hl => ?_)
            refine lv_aload_n hx hb dX2_next_52 rfl (lv_at hl 2 rfl) ?_
            refine va_get (D := (dC, dI)) (ci := 3) (v := .ref (ad 4)) (C := RX2) (T := TX2) (N := 27) hx hb hts hin hown hK hP 0 rfl rfl 5 (by decide) hf_20 (fun _ h9 => h9) rfl dX2_next_53 ?_
            refine lv_bipush (v := (nI 8)) hx hb dX2_next_56 (by decide) ?_
            refine lv_aload_n hx hb dX2_next_58 rfl (lv_at hl 2 rfl) ?_
            refine va_get (D := (dC, dI)) (ci := 3) (v := .int (nI ((sHh S) + 1))) (C := RX2) (T := TX2) (N := 27) hx hb hts hin hown hK hP 0 rfl rfl 4 (by decide) hf_82 (fun _ h9 => h9) rfl dX2_next_59 ?_
            refine lv_imul hx hb dX2_next_62 ?_
            refine f_ti (y := (nI (8 * ((sHh S) + 1)))) (pk_mul _ _) ?_
            refine lv_iload_n hx hb dX2_next_63 rfl (lv_at hl 1 rfl) ?_
            refine lv_iadd hx hb dX2_next_64 ?_
            refine f_ti (y := (nI ((8 * ((sHh S) + 1)) + k9))) (nI_add _ _) ?_
            refine lv_lload_n hx hb dX2_next_65 rfl (lv_at hl 0 rfl) ?_
            refine f_last hx hb hK hP hD hS 4 3 rfl rfl (k := ((8 * ((sHh S) + 1)) + k9)) (by omega) (by decide) dX2_next_66 (fun H locs hP hD hS => ?_)
            have hP : va_P (dC, dI) vwCl (mwr ad cy (nI (sNn S)) (nI ((sHh S) + 1)) (nI (sVn S)) (nI (sRul S 3)) (lN (sRul S 4)) (lN (sBrn S)) (nI (sTn S)) (fun jj => lN (sStk S jj)) (fun jj => lN (sPrs S jj)) (fun jj => bI (sOut S jj)) (vp_updL f4 ((8 * ((sHh S) + 1)) + k9) (lN (sStk S k9))) f5 (fun jj => nI (sVts S jj / 256 % 8)) (fun jj => nI (sVts S jj / 2048)) (fun jj => nI (sVts S jj / 32 % 8)) (fun jj => nI (sVts S jj / 16 % 2)) (fun jj => nI (sVts S jj % 16)) (fun jj => nI (syF S jj)) (fun jj => nI (rtF S jj)) (fun jj => nI (sTk S jj)) (fun jj => nI (sTa S jj)) (fun jj => sTb S jj) (fun jj => sTy S jj) (fun jj => nI (sTt S jj)) (fun jj => lN (sTc S jj)) (fun jj => lN (sTs S jj)) (fun jj => bI (dnF S jj))) H := hP
            have hD : va_D A (mwr ad cy (nI (sNn S)) (nI ((sHh S) + 1)) (nI (sVn S)) (nI (sRul S 3)) (lN (sRul S 4)) (lN (sBrn S)) (nI (sTn S)) (fun jj => lN (sStk S jj)) (fun jj => lN (sPrs S jj)) (fun jj => bI (sOut S jj)) (vp_updL f4 ((8 * ((sHh S) + 1)) + k9) (lN (sStk S k9))) f5 (fun jj => nI (sVts S jj / 256 % 8)) (fun jj => nI (sVts S jj / 2048)) (fun jj => nI (sVts S jj / 32 % 8)) (fun jj => nI (sVts S jj / 16 % 2)) (fun jj => nI (sVts S jj % 16)) (fun jj => nI (syF S jj)) (fun jj => nI (rtF S jj)) (fun jj => nI (sTk S jj)) (fun jj => nI (sTa S jj)) (fun jj => sTb S jj) (fun jj => sTy S jj) (fun jj => nI (sTt S jj)) (fun jj => lN (sTc S jj)) (fun jj => lN (sTs S jj)) (fun jj => bI (dnF S jj))) := hD
            refine lv_aload_n hx hb dX2_next_67 rfl (lv_at hl 2 rfl) ?_
            refine va_get (D := (dC, dI)) (ci := 3) (v := .ref (ad 5)) (C := RX2) (T := TX2) (N := 27) hx hb hts hin hown hK hP 0 rfl rfl 6 (by decide) hf_23 (fun _ h9 => h9) rfl dX2_next_68 ?_
            refine lv_aload_n hx hb dX2_next_71 rfl (lv_at hl 2 rfl) ?_
            refine va_get (D := (dC, dI)) (ci := 3) (v := .int (nI ((sHh S) + 1))) (C := RX2) (T := TX2) (N := 27) hx hb hts hin hown hK hP 0 rfl rfl 4 (by decide) hf_82 (fun _ h9 => h9) rfl dX2_next_72 ?_
            refine lv_dup2_11 hx hb dX2_next_75 rfl rfl ?_
            refine f_lald hx hb hK hP 5 4 rfl rfl (k := ((sHh S) + 1)) (by omega) (by decide) (v := (lN (sm k9 (nwT S)))) (by rw [hg]; exact congrArg lN va_upS) dX2_next_76 ?_
            refine lv_lload_n hx hb dX2_next_77 rfl (lv_at hl 0 rfl) ?_
            refine lv_ladd hx hb dX2_next_78 ?_
            refine f_tl (y := (lN ((sm k9 (nwT S)) + (sStk S k9)))) (lN_add _ _) ?_
            refine f_last hx hb hK hP hD hS 5 4 rfl rfl (k := ((sHh S) + 1)) (by omega) (by decide) dX2_next_79 (fun H locs hP hD hS => ?_)
            have hP : va_P (dC, dI) vwCl (mwr ad cy (nI (sNn S)) (nI ((sHh S) + 1)) (nI (sVn S)) (nI (sRul S 3)) (lN (sRul S 4)) (lN (sBrn S)) (nI (sTn S)) (fun jj => lN (sStk S jj)) (fun jj => lN (sPrs S jj)) (fun jj => bI (sOut S jj)) (vp_updL f4 ((8 * ((sHh S) + 1)) + k9) (lN (sStk S k9))) (vp_updL f5 ((sHh S) + 1) (lN ((sm k9 (nwT S)) + (sStk S k9)))) (fun jj => nI (sVts S jj / 256 % 8)) (fun jj => nI (sVts S jj / 2048)) (fun jj => nI (sVts S jj / 32 % 8)) (fun jj => nI (sVts S jj / 16 % 2)) (fun jj => nI (sVts S jj % 16)) (fun jj => nI (syF S jj)) (fun jj => nI (rtF S jj)) (fun jj => nI (sTk S jj)) (fun jj => nI (sTa S jj)) (fun jj => sTb S jj) (fun jj => sTy S jj) (fun jj => nI (sTt S jj)) (fun jj => lN (sTc S jj)) (fun jj => lN (sTs S jj)) (fun jj => bI (dnF S jj))) H := hP
            have hD : va_D A (mwr ad cy (nI (sNn S)) (nI ((sHh S) + 1)) (nI (sVn S)) (nI (sRul S 3)) (lN (sRul S 4)) (lN (sBrn S)) (nI (sTn S)) (fun jj => lN (sStk S jj)) (fun jj => lN (sPrs S jj)) (fun jj => bI (sOut S jj)) (vp_updL f4 ((8 * ((sHh S) + 1)) + k9) (lN (sStk S k9))) (vp_updL f5 ((sHh S) + 1) (lN ((sm k9 (nwT S)) + (sStk S k9)))) (fun jj => nI (sVts S jj / 256 % 8)) (fun jj => nI (sVts S jj / 2048)) (fun jj => nI (sVts S jj / 32 % 8)) (fun jj => nI (sVts S jj / 16 % 2)) (fun jj => nI (sVts S jj % 16)) (fun jj => nI (syF S jj)) (fun jj => nI (rtF S jj)) (fun jj => nI (sTk S jj)) (fun jj => nI (sTa S jj)) (fun jj => sTb S jj) (fun jj => sTy S jj) (fun jj => nI (sTt S jj)) (fun jj => lN (sTc S jj)) (fun jj => lN (sTs S jj)) (fun jj => bI (dnF S jj))) := hD
            refine lv_iinc (v := (nI (k9 + 1))) (lv' := [(1, .int (nI (k9 + 1))), (2, .long (lN (sStk S k9))), (0, .ref (ad 0))]) hx hb dX2_next_80 hl (k := 1) rfl (nI_add k9 1) (by decide) rfl (fun ls hl => ?_)
            refine lv_goto (tgt := 24) hx hb dX2_next_83 (by decide) ?_
            exact ih_24 (k9 + 1) (vp_updL f4 ((8 * ((sHh S) + 1)) + k9) (lN (sStk S k9))) (vp_updL f5 ((sHh S) + 1) (lN ((sm k9 (nwT S)) + (sStk S k9)))) (by omega) (by rw [hf, ← hz, show 8 * (sHh S + 1) + k9 = (sHh S + 1) * 8 + k9 by omega]; exact nw_step (by omega)) (by rw [hg, updL_lN]; funext j9; congr 1; unfold va_up; split; (rw [sm, hz]); rfl) (by omega) _ _ hP hD hS ls (lv_sub hl [0, 2] rfl)
          · have hz : nwT S k9 = 0 := by simp [nwT, c_3]
            refine lv_lconst (v := (lN 0)) hx hb dX2_next_41 (by decide) ?_
            refine lv_goto (tgt := 51) hx hb dX2_next_42 (by decide) ?_
            refine lv_lstore_n (lv' := [(2, .long (lN 0)), (1, .int (nI k9)), (0, .ref (ad 0))]) hx hb dX2_next_51 rfl hl (by decide) rfl (fun ls hl => ?_)
            refine lv_aload_n hx hb dX2_next_52 rfl (lv_at hl 2 rfl) ?_
            refine va_get (D := (dC, dI)) (ci := 3) (v := .ref (ad 4)) (C := RX2) (T := TX2) (N := 27) hx hb hts hin hown hK hP 0 rfl rfl 5 (by decide) hf_20 (fun _ h9 => h9) rfl dX2_next_53 ?_
            refine lv_bipush (v := (nI 8)) hx hb dX2_next_56 (by decide) ?_
            refine lv_aload_n hx hb dX2_next_58 rfl (lv_at hl 2 rfl) ?_
            refine va_get (D := (dC, dI)) (ci := 3) (v := .int (nI ((sHh S) + 1))) (C := RX2) (T := TX2) (N := 27) hx hb hts hin hown hK hP 0 rfl rfl 4 (by decide) hf_82 (fun _ h9 => h9) rfl dX2_next_59 ?_
            refine lv_imul hx hb dX2_next_62 ?_
            refine f_ti (y := (nI (8 * ((sHh S) + 1)))) (pk_mul _ _) ?_
            refine lv_iload_n hx hb dX2_next_63 rfl (lv_at hl 1 rfl) ?_
            refine lv_iadd hx hb dX2_next_64 ?_
            refine f_ti (y := (nI ((8 * ((sHh S) + 1)) + k9))) (nI_add _ _) ?_
            refine lv_lload_n hx hb dX2_next_65 rfl (lv_at hl 0 rfl) ?_
            refine f_last hx hb hK hP hD hS 4 3 rfl rfl (k := ((8 * ((sHh S) + 1)) + k9)) (by omega) (by decide) dX2_next_66 (fun H locs hP hD hS => ?_)
            have hP : va_P (dC, dI) vwCl (mwr ad cy (nI (sNn S)) (nI ((sHh S) + 1)) (nI (sVn S)) (nI (sRul S 3)) (lN (sRul S 4)) (lN (sBrn S)) (nI (sTn S)) (fun jj => lN (sStk S jj)) (fun jj => lN (sPrs S jj)) (fun jj => bI (sOut S jj)) (vp_updL f4 ((8 * ((sHh S) + 1)) + k9) (lN 0)) f5 (fun jj => nI (sVts S jj / 256 % 8)) (fun jj => nI (sVts S jj / 2048)) (fun jj => nI (sVts S jj / 32 % 8)) (fun jj => nI (sVts S jj / 16 % 2)) (fun jj => nI (sVts S jj % 16)) (fun jj => nI (syF S jj)) (fun jj => nI (rtF S jj)) (fun jj => nI (sTk S jj)) (fun jj => nI (sTa S jj)) (fun jj => sTb S jj) (fun jj => sTy S jj) (fun jj => nI (sTt S jj)) (fun jj => lN (sTc S jj)) (fun jj => lN (sTs S jj)) (fun jj => bI (dnF S jj))) H := hP
            have hD : va_D A (mwr ad cy (nI (sNn S)) (nI ((sHh S) + 1)) (nI (sVn S)) (nI (sRul S 3)) (lN (sRul S 4)) (lN (sBrn S)) (nI (sTn S)) (fun jj => lN (sStk S jj)) (fun jj => lN (sPrs S jj)) (fun jj => bI (sOut S jj)) (vp_updL f4 ((8 * ((sHh S) + 1)) + k9) (lN 0)) f5 (fun jj => nI (sVts S jj / 256 % 8)) (fun jj => nI (sVts S jj / 2048)) (fun jj => nI (sVts S jj / 32 % 8)) (fun jj => nI (sVts S jj / 16 % 2)) (fun jj => nI (sVts S jj % 16)) (fun jj => nI (syF S jj)) (fun jj => nI (rtF S jj)) (fun jj => nI (sTk S jj)) (fun jj => nI (sTa S jj)) (fun jj => sTb S jj) (fun jj => sTy S jj) (fun jj => nI (sTt S jj)) (fun jj => lN (sTc S jj)) (fun jj => lN (sTs S jj)) (fun jj => bI (dnF S jj))) := hD
            refine lv_aload_n hx hb dX2_next_67 rfl (lv_at hl 2 rfl) ?_
            refine va_get (D := (dC, dI)) (ci := 3) (v := .ref (ad 5)) (C := RX2) (T := TX2) (N := 27) hx hb hts hin hown hK hP 0 rfl rfl 6 (by decide) hf_23 (fun _ h9 => h9) rfl dX2_next_68 ?_
            refine lv_aload_n hx hb dX2_next_71 rfl (lv_at hl 2 rfl) ?_
            refine va_get (D := (dC, dI)) (ci := 3) (v := .int (nI ((sHh S) + 1))) (C := RX2) (T := TX2) (N := 27) hx hb hts hin hown hK hP 0 rfl rfl 4 (by decide) hf_82 (fun _ h9 => h9) rfl dX2_next_72 ?_
            refine lv_dup2_11 hx hb dX2_next_75 rfl rfl ?_
            refine f_lald hx hb hK hP 5 4 rfl rfl (k := ((sHh S) + 1)) (by omega) (by decide) (v := (lN (sm k9 (nwT S)))) (by rw [hg]; exact congrArg lN va_upS) dX2_next_76 ?_
            refine lv_lload_n hx hb dX2_next_77 rfl (lv_at hl 0 rfl) ?_
            refine lv_ladd hx hb dX2_next_78 ?_
            refine f_tl (y := (lN ((sm k9 (nwT S)) + 0))) (lN_add _ _) ?_
            refine f_last hx hb hK hP hD hS 5 4 rfl rfl (k := ((sHh S) + 1)) (by omega) (by decide) dX2_next_79 (fun H locs hP hD hS => ?_)
            have hP : va_P (dC, dI) vwCl (mwr ad cy (nI (sNn S)) (nI ((sHh S) + 1)) (nI (sVn S)) (nI (sRul S 3)) (lN (sRul S 4)) (lN (sBrn S)) (nI (sTn S)) (fun jj => lN (sStk S jj)) (fun jj => lN (sPrs S jj)) (fun jj => bI (sOut S jj)) (vp_updL f4 ((8 * ((sHh S) + 1)) + k9) (lN 0)) (vp_updL f5 ((sHh S) + 1) (lN ((sm k9 (nwT S)) + 0))) (fun jj => nI (sVts S jj / 256 % 8)) (fun jj => nI (sVts S jj / 2048)) (fun jj => nI (sVts S jj / 32 % 8)) (fun jj => nI (sVts S jj / 16 % 2)) (fun jj => nI (sVts S jj % 16)) (fun jj => nI (syF S jj)) (fun jj => nI (rtF S jj)) (fun jj => nI (sTk S jj)) (fun jj => nI (sTa S jj)) (fun jj => sTb S jj) (fun jj => sTy S jj) (fun jj => nI (sTt S jj)) (fun jj => lN (sTc S jj)) (fun jj => lN (sTs S jj)) (fun jj => bI (dnF S jj))) H := hP
            have hD : va_D A (mwr ad cy (nI (sNn S)) (nI ((sHh S) + 1)) (nI (sVn S)) (nI (sRul S 3)) (lN (sRul S 4)) (lN (sBrn S)) (nI (sTn S)) (fun jj => lN (sStk S jj)) (fun jj => lN (sPrs S jj)) (fun jj => bI (sOut S jj)) (vp_updL f4 ((8 * ((sHh S) + 1)) + k9) (lN 0)) (vp_updL f5 ((sHh S) + 1) (lN ((sm k9 (nwT S)) + 0))) (fun jj => nI (sVts S jj / 256 % 8)) (fun jj => nI (sVts S jj / 2048)) (fun jj => nI (sVts S jj / 32 % 8)) (fun jj => nI (sVts S jj / 16 % 2)) (fun jj => nI (sVts S jj % 16)) (fun jj => nI (syF S jj)) (fun jj => nI (rtF S jj)) (fun jj => nI (sTk S jj)) (fun jj => nI (sTa S jj)) (fun jj => sTb S jj) (fun jj => sTy S jj) (fun jj => nI (sTt S jj)) (fun jj => lN (sTc S jj)) (fun jj => lN (sTs S jj)) (fun jj => bI (dnF S jj))) := hD
            refine lv_iinc (v := (nI (k9 + 1))) (lv' := [(1, .int (nI (k9 + 1))), (2, .long (lN 0)), (0, .ref (ad 0))]) hx hb dX2_next_80 hl (k := 1) rfl (nI_add k9 1) (by decide) rfl (fun ls hl => ?_)
            refine lv_goto (tgt := 24) hx hb dX2_next_83 (by decide) ?_
            exact ih_24 (k9 + 1) (vp_updL f4 ((8 * ((sHh S) + 1)) + k9) (lN 0)) (vp_updL f5 ((sHh S) + 1) (lN ((sm k9 (nwT S)) + 0))) (by omega) (by rw [hf, ← hz, show 8 * (sHh S + 1) + k9 = (sHh S + 1) * 8 + k9 by omega]; exact nw_step (by omega)) (by rw [hg, updL_lN]; funext j9; congr 1; unfold va_up; split; (rw [sm, hz]); rfl) (by omega) _ _ hP hD hS ls (lv_sub hl [0, 2] rfl)
    exact loop_24 (sNn S - 0 + 1) 0 (fun jj => lN (sWts S jj)) (fun jj => lN (sTot S jj)) (Nat.lt_succ_self _) (nw_0 S) (by funext j9; congr 1; unfold va_up; split; (rename_i e9; rw [e9, h0]; rfl); rfl) (Nat.zero_le _) _ _ hP hD hS ls (lv_sub hl [0, 1] rfl)
  · refine lv_bipush (v := (-104)) hx hb dX2_next_9 (by decide) ?_
    have hW : (mwr ad cy (nI (sNn S)) (nI (sHh S)) (nI (sVn S)) (nI (sRul S 3)) (lN (sRul S 4)) (lN (sBrn S)) (nI (sTn S)) (fun jj => lN (sStk S jj)) (fun jj => lN (sPrs S jj)) (fun jj => bI (sOut S jj)) (fun jj => lN (sWts S jj)) (fun jj => lN (sTot S jj)) (fun jj => nI (sVts S jj / 256 % 8)) (fun jj => nI (sVts S jj / 2048)) (fun jj => nI (sVts S jj / 32 % 8)) (fun jj => nI (sVts S jj / 16 % 2)) (fun jj => nI (sVts S jj % 16)) (fun jj => nI (syF S jj)) (fun jj => nI (rtF S jj)) (fun jj => nI (sTk S jj)) (fun jj => nI (sTa S jj)) (fun jj => sTb S jj) (fun jj => sTy S jj) (fun jj => nI (sTt S jj)) (fun jj => lN (sTc S jj)) (fun jj => lN (sTs S jj)) (fun jj => bI (dnF S jj))) = mw ad cy (nxtG S) := by rw [show nxtG S = S by unfold nxtG; rw [if_neg (by omega)]]
    rw [hW] at hP hD
    exact f_mi hx hb hr hlocks (by unfold nxtF; rw [if_neg (by omega)]) hP hK hD hS dX2_next_11
