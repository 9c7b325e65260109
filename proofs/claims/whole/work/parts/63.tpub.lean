abbrev rm_X1_about : Room := { frames := 1, cells := 0, slots := 0, locals := 20 }
set_option maxHeartbeats 4000000 in
set_option maxRecDepth 100000 in
theorem c_X1_about (l9 : Launch) (dC : Nat → ClassId) (dI : Nat → Nat → Nat) (ad : Nat → Nat) (cy : Nat → ClassId) (S : St) (mc : Int32) (ed nn : Nat) (cO : ClassId) (pa : Nat → Nat) (Z : va_W) (tz : List (ClassId × FieldType)) (x9 : Int32) (I : Inv S) (hT : sTn S ≤ 512) (hZ : lstZ S ed nn cO pa Z tz) : RoL l9 yX1_about wsX1_about rm_X1_about [.ref (ad 0), .int x9] (tB dC dI ad cy S mc ed Z tz) (abF S x9) := by
  refine Ro_start (cc := cX1_about) (maxL := 2) (ret := (some .long)) (lv := [(0, .ref (ad 0)), (1, .int x9)]) (by decide) rfl (Nat.le_of_ble_eq_true rfl) rfl ?_
  intro pp ee ss mm aa bl me co hx hb hr hml hts hown hlocks hnm hB ls hl
  obtain ⟨⟨hP, hK⟩, hN⟩ := hB
  have hPx : va_P (dC, dI) vwCl (xw ad cy S) ss.heap := pl_left hP
  have hKx : va_K (dC, dI) vwCl (xty cy) ss := kl_left hK
  have hPl : va_P (dC, dI) vwCl [lwO (ad 10) mc ed (sTn S)] ss.heap := hP.sub [10] rfl
  have hKl : va_K (dC, dI) vwCl [] ss := hK.sub [] rfl
  have hin : ∀ w9 ∈ wsX10, w9 ∈ wsX1_about := fun w9 h9 => by simp only [wsX1_about, List.mem_cons, List.mem_append]; exact Or.inr (Or.inl (Or.inr h9))
  have hf_17 := hts (.fieldLink RX1 17 "FaultEvidence" "rules" "[J") (by decide +kernel)
  have hf_31 := hts (.fieldLink RX1 31 "FaultEvidence" "nodeCount" "I") (by decide +kernel)
  have hf_35 := hts (.fieldLink RX1 35 "FaultEvidence" "currentHeight" "I") (by decide +kernel)
  have hf_48 := hts (.fieldLink RX1 48 "FaultEvidence" "voteCount" "I") (by decide +kernel)
  have hf_60 := hts (.fieldLink RX1 60 "FaultEvidence" "takenBreaks" "Ljava/util/ArrayList;") (by decide +kernel)
  have hf_64 := hts (.fieldLink RX1 64 "FaultEvidence" "burnt" "J") (by decide +kernel)
  have hc_76 := hts (.constantLong RX1 76 (-102)) (by decide +kernel)
  have I1 := I.n
  have I2 := I.r
  refine lv_iload_n hx hb dX1_about_0 rfl (lv_at hl 1 rfl) ?_
  by_cases c_1 : Int32.toInt x9 = 0
  · refine lv_tableIn (tgt := 56) hx hb dX1_about_1 (by omega) (by omega) (off := 55) (by rw [c_1]; rfl) (by decide) ?_
    refine lv_aload_n hx hb dX1_about_56 rfl (lv_at hl 0 rfl) ?_
    refine va_get (D := (dC, dI)) (ci := 2) (v := .int (nI (sHh S))) (C := RX1) (T := TX1) (N := 14) hx hb hts hin hown hK hP 0 rfl rfl 5 (by decide) hf_35 (fun _ h9 => h9) rfl dX1_about_57 ?_
    refine lv_i2l (v := (lN (sHh S))) hx hb dX1_about_60 (nI_l (by omega)) ?_
    exact f_rl hx hb hr hlocks (by unfold abF; (repeat' split) <;> first | rfl | contradiction | (exfalso; omega)) dX1_about_61
  by_cases c_2 : Int32.toInt x9 = 1
  · refine lv_tableIn (tgt := 62) hx hb dX1_about_1 (by omega) (by omega) (off := 61) (by rw [c_2]; rfl) (by decide) ?_
    refine lv_aload_n hx hb dX1_about_62 rfl (lv_at hl 0 rfl) ?_
    refine va_get (D := (dC, dI)) (ci := 2) (v := .int (nI (sNn S))) (C := RX1) (T := TX1) (N := 14) hx hb hts hin hown hK hP 0 rfl rfl 4 (by decide) hf_31 (fun _ h9 => h9) rfl dX1_about_63 ?_
    refine lv_i2l (v := (lN (sNn S))) hx hb dX1_about_66 (nI_l (by omega)) ?_
    exact f_rl hx hb hr hlocks (by unfold abF; (repeat' split) <;> first | rfl | contradiction | (exfalso; omega)) dX1_about_67
  by_cases c_3 : Int32.toInt x9 = 2
  · refine lv_tableIn (tgt := 68) hx hb dX1_about_1 (by omega) (by omega) (off := 67) (by rw [c_3]; rfl) (by decide) ?_
    refine lv_aload_n hx hb dX1_about_68 rfl (lv_at hl 0 rfl) ?_
    refine va_get (D := (dC, dI)) (ci := 2) (v := .int (nI (sVn S))) (C := RX1) (T := TX1) (N := 14) hx hb hts hin hown hK hP 0 rfl rfl 9 (by decide) hf_48 (fun _ h9 => h9) rfl dX1_about_69 ?_
    refine lv_i2l (v := (lN (sVn S))) hx hb dX1_about_72 (nI_l (by omega)) ?_
    exact f_rl hx hb hr hlocks (by unfold abF; (repeat' split) <;> first | rfl | contradiction | (exfalso; omega)) dX1_about_73
  by_cases c_4 : Int32.toInt x9 = 3
  · refine lv_tableIn (tgt := 74) hx hb dX1_about_1 (by omega) (by omega) (off := 73) (by rw [c_4]; rfl) (by decide) ?_
    refine lv_aload_n hx hb dX1_about_74 rfl (lv_at hl 0 rfl) ?_
    refine va_get (D := (dC, dI)) (ci := 2) (v := .ref (ad 10)) (C := RX1) (T := TX1) (N := 14) hx hb hts hin hown hK hP 0 rfl rfl 12 (by decide) hf_60 (fun _ h9 => h9) rfl dX1_about_75 ?_
    refine f_cVi (As := []) (rest := []) ⟨hx, hb, hml, hown, hts⟩ (c_size l9 dC dI (ad 10) mc ed (sTn S)) (cwV 0 hts gX1_about_Jx4a65c_size_8abf5 rfl rfl rfl (by decide +kernel) ⟨Nat.le_of_ble_eq_true rfl, Nat.le_of_ble_eq_true rfl⟩) roB_bl (va_recv hKl hPl (ci := 0) (q0 := 0) rfl rfl) (roB_at hPl hKl) rfl hl.1 rfl (Nat.le_of_ble_eq_true rfl) dX1_about_78 ⟨Nat.zero_le _, Nat.zero_le _⟩ ?_
    refine lv_i2l (v := (lN (sTn S))) hx hb dX1_about_81 (nI_l (by omega)) ?_
    exact f_rl hx hb hr hlocks (by unfold abF; (repeat' split) <;> first | rfl | contradiction | (exfalso; omega)) dX1_about_82
  by_cases c_5 : Int32.toInt x9 = 4
  · refine lv_tableIn (tgt := 83) hx hb dX1_about_1 (by omega) (by omega) (off := 82) (by rw [c_5]; rfl) (by decide) ?_
    refine lv_aload_n hx hb dX1_about_83 rfl (lv_at hl 0 rfl) ?_
    refine va_get (D := (dC, dI)) (ci := 2) (v := .long (lN (sBrn S))) (C := RX1) (T := TX1) (N := 14) hx hb hts hin hown hK hP 0 rfl rfl 13 (by decide) hf_64 (fun _ h9 => h9) rfl dX1_about_84 ?_
    exact f_rl hx hb hr hlocks (by unfold abF; (repeat' split) <;> first | rfl | contradiction | (exfalso; omega)) dX1_about_87
  by_cases c_6 : Int32.toInt x9 = 5
  · refine lv_tableIn (tgt := 88) hx hb dX1_about_1 (by omega) (by omega) (off := 87) (by rw [c_6]; rfl) (by decide) ?_
    refine lv_aload_n hx hb dX1_about_88 rfl (lv_at hl 0 rfl) ?_
    refine va_get (D := (dC, dI)) (ci := 2) (v := .ref (ad 1)) (C := RX1) (T := TX1) (N := 14) hx hb hts hin hown hK hP 0 rfl rfl 0 (by decide) hf_17 (fun _ h9 => h9) rfl dX1_about_89 ?_
    refine lv_iconst (v := (nI 0)) hx hb dX1_about_92 (by decide) ?_
    refine f_lald hx hb hK hP 1 0 rfl rfl (k := 0) (by omega) (by decide) (v := (lN (sRul S 0))) rfl dX1_about_93 ?_
    exact f_rl hx hb hr hlocks (by unfold abF; (repeat' split) <;> first | rfl | contradiction | (exfalso; omega) | (rw [show tn x9 = 5 from (by unfold tn; omega)])) dX1_about_94
  by_cases c_7 : Int32.toInt x9 = 6
  · refine lv_tableIn (tgt := 95) hx hb dX1_about_1 (by omega) (by omega) (off := 94) (by rw [c_7]; rfl) (by decide) ?_
    refine lv_aload_n hx hb dX1_about_95 rfl (lv_at hl 0 rfl) ?_
    refine va_get (D := (dC, dI)) (ci := 2) (v := .ref (ad 1)) (C := RX1) (T := TX1) (N := 14) hx hb hts hin hown hK hP 0 rfl rfl 0 (by decide) hf_17 (fun _ h9 => h9) rfl dX1_about_96 ?_
    refine lv_iconst (v := (nI 1)) hx hb dX1_about_99 (by decide) ?_
    refine f_lald hx hb hK hP 1 0 rfl rfl (k := 1) (by omega) (by decide) (v := (lN (sRul S 1))) rfl dX1_about_100 ?_
    exact f_rl hx hb hr hlocks (by unfold abF; (repeat' split) <;> first | rfl | contradiction | (exfalso; omega) | (rw [show tn x9 = 6 from (by unfold tn; omega)])) dX1_about_101
  by_cases c_8 : Int32.toInt x9 = 7
  · refine lv_tableIn (tgt := 102) hx hb dX1_about_1 (by omega) (by omega) (off := 101) (by rw [c_8]; rfl) (by decide) ?_
    refine lv_aload_n hx hb dX1_about_102 rfl (lv_at hl 0 rfl) ?_
    refine va_get (D := (dC, dI)) (ci := 2) (v := .ref (ad 1)) (C := RX1) (T := TX1) (N := 14) hx hb hts hin hown hK hP 0 rfl rfl 0 (by decide) hf_17 (fun _ h9 => h9) rfl dX1_about_103 ?_
    refine lv_iconst (v := (nI 2)) hx hb dX1_about_106 (by decide) ?_
    refine f_lald hx hb hK hP 1 0 rfl rfl (k := 2) (by omega) (by decide) (v := (lN (sRul S 2))) rfl dX1_about_107 ?_
    exact f_rl hx hb hr hlocks (by unfold abF; (repeat' split) <;> first | rfl | contradiction | (exfalso; omega) | (rw [show tn x9 = 7 from (by unfold tn; omega)])) dX1_about_108
  by_cases c_9 : Int32.toInt x9 = 8
  · refine lv_tableIn (tgt := 109) hx hb dX1_about_1 (by omega) (by omega) (off := 108) (by rw [c_9]; rfl) (by decide) ?_
    refine lv_aload_n hx hb dX1_about_109 rfl (lv_at hl 0 rfl) ?_
    refine va_get (D := (dC, dI)) (ci := 2) (v := .ref (ad 1)) (C := RX1) (T := TX1) (N := 14) hx hb hts hin hown hK hP 0 rfl rfl 0 (by decide) hf_17 (fun _ h9 => h9) rfl dX1_about_110 ?_
    refine lv_iconst (v := (nI 3)) hx hb dX1_about_113 (by decide) ?_
    refine f_lald hx hb hK hP 1 0 rfl rfl (k := 3) (by omega) (by decide) (v := (lN (sRul S 3))) rfl dX1_about_114 ?_
    exact f_rl hx hb hr hlocks (by unfold abF; (repeat' split) <;> first | rfl | contradiction | (exfalso; omega)) dX1_about_115
  by_cases c_10 : Int32.toInt x9 = 9
  · refine lv_tableIn (tgt := 116) hx hb dX1_about_1 (by omega) (by omega) (off := 115) (by rw [c_10]; rfl) (by decide) ?_
    refine lv_aload_n hx hb dX1_about_116 rfl (lv_at hl 0 rfl) ?_
    refine va_get (D := (dC, dI)) (ci := 2) (v := .ref (ad 1)) (C := RX1) (T := TX1) (N := 14) hx hb hts hin hown hK hP 0 rfl rfl 0 (by decide) hf_17 (fun _ h9 => h9) rfl dX1_about_117 ?_
    refine lv_iconst (v := (nI 4)) hx hb dX1_about_120 (by decide) ?_
    refine f_lald hx hb hK hP 1 0 rfl rfl (k := 4) (by omega) (by decide) (v := (lN (sRul S 4))) rfl dX1_about_121 ?_
    exact f_rl hx hb hr hlocks (by unfold abF; (repeat' split) <;> first | rfl | contradiction | (exfalso; omega)) dX1_about_122
  refine lv_tableOut (tgt := 123) hx hb dX1_about_1 (by omega) (by decide) ?_
  refine lv_ldc2 (v := -102) hx hb hown hc_76 dX1_about_123 ?_
  exact f_rl hx hb hr hlocks (by unfold abF; (repeat' split) <;> first | rfl | contradiction | (exfalso; omega)) dX1_about_126

abbrev rm_X1_holds : Room := { frames := 4, cells := 0, slots := 0, locals := 87 }
set_option maxHeartbeats 4000000 in
set_option maxRecDepth 100000 in
theorem c_X1_holds (l9 : Launch) (dC : Nat → ClassId) (dI : Nat → Nat → Nat) (ad : Nat → Nat) (cy : Nat → ClassId) (S : St) (mc : Int32) (ed nn : Nat) (cO : ClassId) (pa : Nat → Nat) (Z : va_W) (tz : List (ClassId × FieldType)) (x9 : Int32) (y9 : Int32) (I : Inv S) (hT : sTn S ≤ 512) (hZ : lstZ S ed nn cO pa Z tz) : RoL l9 yX1_holds wsX1_holds rm_X1_holds [.ref (ad 0), .int x9, .int y9] (tB dC dI ad cy S mc ed Z tz) (hoF S x9 y9) := by
  refine Ro_start (cc := cX1_holds) (maxL := 3) (ret := (some .long)) (lv := [(0, .ref (ad 0)), (1, .int x9), (2, .int y9)]) (by decide) rfl (Nat.le_of_ble_eq_true rfl) rfl ?_
  intro pp ee ss mm aa bl me co hx hb hr hml hts hown hlocks hnm hB ls hl
  obtain ⟨⟨hP, hK⟩, hN⟩ := hB
  have hPx : va_P (dC, dI) vwCl (xw ad cy S) ss.heap := pl_left hP
  have hKx : va_K (dC, dI) vwCl (xty cy) ss := kl_left hK
  have hPl : va_P (dC, dI) vwCl [lwO (ad 10) mc ed (sTn S)] ss.heap := hP.sub [10] rfl
  have hKl : va_K (dC, dI) vwCl [] ss := hK.sub [] rfl
  have hin : ∀ w9 ∈ wsX10, w9 ∈ wsX1_holds := fun w9 h9 => by simp only [wsX1_holds, List.mem_cons, List.mem_append]; exact Or.inr (Or.inl (Or.inl (Or.inr h9)))
  have hf_21 := hts (.fieldLink RX1 21 "FaultEvidence" "stakes" "[J") (by decide +kernel)
  have hf_24 := hts (.fieldLink RX1 24 "FaultEvidence" "purses" "[J") (by decide +kernel)
  have hf_27 := hts (.fieldLink RX1 27 "FaultEvidence" "out" "[Z") (by decide +kernel)
  have hc_74 := hts (.constantLong RX1 74 (-101)) (by decide +kernel)
  have hc_76 := hts (.constantLong RX1 76 (-102)) (by decide +kernel)
  have I1 := I.n
  have hsm : ∀ k9, sm (sTn S) (hoT S k9) ≤ sTn S * 1 := fun k9 => sm_le (fun i9 _ => by unfold hoT; split <;> omega)
  refine lv_aload_n hx hb dX1_holds_0 rfl (lv_at hl 0 rfl) ?_
  refine lv_iload_n hx hb dX1_holds_1 rfl (lv_at hl 1 rfl) ?_
  refine f_cVi (As := [.int x9]) (rest := []) ⟨hx, hb, hml, hown, hts⟩ (c_X1_isNode l9 dC dI ad cy S x9 I) (cwV 1 hts gX1_holds_X1_isNode rfl rfl rfl (by decide +kernel) ⟨Nat.le_of_ble_eq_true rfl, Nat.le_of_ble_eq_true rfl⟩) roB_bl (va_recv hK hP (ci := 2) (q0 := 0) rfl rfl) (roB_at hPx hKx) rfl hl.1 rfl (Nat.le_of_ble_eq_true rfl) dX1_holds_2 ⟨Nat.zero_le _, Nat.zero_le _⟩ ?_
  refine f_bne (tgt := 12) hx hb dX1_holds_5 (by decide) (fun c_1 => ?_) (fun c_1 => ?_)
  · obtain ⟨k9, hk, rfl⟩ := nd_of c_1
    have ht := tn_nI (n := k9) (by omega)
    have hs9 := hsm k9
    refine lv_iload_n hx hb dX1_holds_12 rfl (lv_at hl 2 rfl) ?_
    by_cases c_2 : Int32.toInt y9 = 0
    · refine lv_tableIn (tgt := 44) hx hb dX1_holds_13 (by omega) (by omega) (off := 31) (by rw [c_2]; rfl) (by decide) ?_
      refine lv_aload_n hx hb dX1_holds_44 rfl (lv_at hl 0 rfl) ?_
      refine va_get (D := (dC, dI)) (ci := 2) (v := .ref (ad 2)) (C := RX1) (T := TX1) (N := 14) hx hb hts hin hown hK hP 0 rfl rfl 1 (by decide) hf_21 (fun _ h9 => h9) rfl dX1_holds_45 ?_
      refine lv_iload_n hx hb dX1_holds_48 rfl (lv_at hl 1 rfl) ?_
      refine f_lald hx hb hK hP 2 1 rfl rfl (k := k9) (by omega) (by decide) (v := (lN (sStk S k9))) rfl dX1_holds_49 ?_
      exact f_rl hx hb hr hlocks (by simp only [hoF, ht, c_1]; (repeat' split) <;> first | rfl | contradiction | (exfalso; omega)) dX1_holds_50
    by_cases c_3 : Int32.toInt y9 = 1
    · refine lv_tableIn (tgt := 51) hx hb dX1_holds_13 (by omega) (by omega) (off := 38) (by rw [c_3]; rfl) (by decide) ?_
      refine lv_aload_n hx hb dX1_holds_51 rfl (lv_at hl 0 rfl) ?_
      refine va_get (D := (dC, dI)) (ci := 2) (v := .ref (ad 3)) (C := RX1) (T := TX1) (N := 14) hx hb hts hin hown hK hP 0 rfl rfl 2 (by decide) hf_24 (fun _ h9 => h9) rfl dX1_holds_52 ?_
      refine lv_iload_n hx hb dX1_holds_55 rfl (lv_at hl 1 rfl) ?_
      refine f_lald hx hb hK hP 3 2 rfl rfl (k := k9) (by omega) (by decide) (v := (lN (sPrs S k9))) rfl dX1_holds_56 ?_
      exact f_rl hx hb hr hlocks (by simp only [hoF, ht, c_1]; (repeat' split) <;> first | rfl | contradiction | (exfalso; omega)) dX1_holds_57
    by_cases c_4 : Int32.toInt y9 = 2
    · refine lv_tableIn (tgt := 58) hx hb dX1_holds_13 (by omega) (by omega) (off := 45) (by rw [c_4]; rfl) (by decide) ?_
      refine lv_aload_n hx hb dX1_holds_58 rfl (lv_at hl 0 rfl) ?_
      refine va_get (D := (dC, dI)) (ci := 2) (v := .ref (ad 4)) (C := RX1) (T := TX1) (N := 14) hx hb hts hin hown hK hP 0 rfl rfl 3 (by decide) hf_27 (fun _ h9 => h9) rfl dX1_holds_59 ?_
      refine lv_iload_n hx hb dX1_holds_62 rfl (lv_at hl 1 rfl) ?_
      refine f_zald hx hb hK hP 4 3 rfl rfl (k := k9) (by omega) (by decide) (v := (bI (sOut S k9))) rfl dX1_holds_63 ?_
      refine f_beq (tgt := 71) hx hb dX1_holds_64 (by decide) (fun c_5 => ?_) (fun c_5 => ?_)
      · refine lv_lconst (v := (lN 0)) hx hb dX1_holds_71 (by decide) ?_
        exact f_rl hx hb hr hlocks (by simp only [hoF, ht, c_1, c_5]; (repeat' split) <;> first | rfl | contradiction | (exfalso; omega)) dX1_holds_72
      · refine lv_lconst (v := (lN 1)) hx hb dX1_holds_67 (by decide) ?_
        refine lv_goto (tgt := 72) hx hb dX1_holds_68 (by decide) ?_
        exact f_rl hx hb hr hlocks (by simp only [hoF, ht, c_1, c_5]; (repeat' split) <;> first | rfl | contradiction | (exfalso; omega)) dX1_holds_72
    by_cases c_6 : Int32.toInt y9 = 3
    · refine lv_tableIn (tgt := 73) hx hb dX1_holds_13 (by omega) (by omega) (off := 60) (by rw [c_6]; rfl) (by decide) ?_
      refine lv_aload_n hx hb dX1_holds_73 rfl (lv_at hl 0 rfl) ?_
      refine lv_iload_n hx hb dX1_holds_74 rfl (lv_at hl 1 rfl) ?_
      refine f_cVi (As := [.int (nI k9)]) (rest := []) ⟨hx, hb, hml, hown, hts⟩ (c_X1_countTakenOf l9 dC dI ad cy S mc ed nn cO pa Z tz k9 I hT hZ (by omega)) (cwV 1 hts gX1_holds_X1_countTakenOf rfl rfl rfl (by decide +kernel) ⟨Nat.le_of_ble_eq_true rfl, Nat.le_of_ble_eq_true rfl⟩) tB_bl (va_recv hK hP (ci := 2) (q0 := 0) rfl rfl) (tB_at hP hK hN) rfl hl.1 rfl (Nat.le_of_ble_eq_true rfl) dX1_holds_75 ⟨Nat.zero_le _, Nat.zero_le _⟩ ?_
      refine lv_i2l (v := (lN (sm (sTn S) (hoT S k9)))) hx hb dX1_holds_78 (nI_l (by omega)) ?_
      exact f_rl hx hb hr hlocks (by simp only [hoF, ht, c_1]; (repeat' split) <;> first | rfl | contradiction | (exfalso; omega)) dX1_holds_79
    refine lv_tableOut (tgt := 80) hx hb dX1_holds_13 (by omega) (by decide) ?_
    refine lv_ldc2 (v := -102) hx hb hown hc_76 dX1_holds_80 ?_
    exact f_rl hx hb hr hlocks (by simp only [hoF, ht, c_1]; (repeat' split) <;> first | rfl | contradiction | (exfalso; omega)) dX1_holds_83
  · refine lv_ldc2 (v := -101) hx hb hown hc_74 dX1_holds_8 ?_
    exact f_rl hx hb hr hlocks (by simp [hoF, c_1]) dX1_holds_11

abbrev rm_X1_taken : Room := { frames := 3, cells := 0, slots := 0, locals := 64 }
set_option maxHeartbeats 4000000 in
set_option maxRecDepth 100000 in
theorem c_X1_taken (l9 : Launch) (dC : Nat → ClassId) (dI : Nat → Nat → Nat) (ad : Nat → Nat) (cy : Nat → ClassId) (S : St) (mc : Int32) (ed nn : Nat) (cO : ClassId) (pa : Nat → Nat) (Z : va_W) (tz : List (ClassId × FieldType)) (x9 : Int32) (y9 : Int32) (I : Inv S) (hT : sTn S ≤ 512) (hZ : lstZ S ed nn cO pa Z tz) : RoL l9 yX1_taken wsX1_taken rm_X1_taken [.ref (ad 0), .int x9, .int y9] (tB dC dI ad cy S mc ed Z tz) (tkF S x9 y9) := by
  refine Ro_start (cc := cX1_taken) (maxL := 4) (ret := (some .long)) (lv := [(0, .ref (ad 0)), (1, .int x9), (2, .int y9)]) (by decide) rfl (Nat.le_of_ble_eq_true rfl) rfl ?_
  intro pp ee ss mm aa bl me co hx hb hr hml hts hown hlocks hnm hB ls hl
  obtain ⟨⟨hP, hK⟩, hN⟩ := hB
  have hPx : va_P (dC, dI) vwCl (xw ad cy S) ss.heap := pl_left hP
  have hKx : va_K (dC, dI) vwCl (xty cy) ss := kl_left hK
  have hPl : va_P (dC, dI) vwCl [lwO (ad 10) mc ed (sTn S)] ss.heap := hP.sub [10] rfl
  have hKl : va_K (dC, dI) vwCl [] ss := hK.sub [] rfl
  have hcl := hts (.classLink RX1 182 "FaultEvidence$Taken") (by decide +kernel)
  have hin0 : ∀ w9 ∈ wsX00, w9 ∈ wsX1_taken := fun w9 h9 => by simp only [wsX1_taken, List.mem_cons, List.mem_append]; exact Or.inr (Or.inl (Or.inr h9))
  have hin : ∀ w9 ∈ wsX10, w9 ∈ wsX1_taken := fun w9 h9 => by simp only [wsX1_taken, List.mem_cons, List.mem_append]; exact Or.inr (Or.inl (Or.inl (Or.inr h9)))
  have hf_60 := hts (.fieldLink RX1 60 "FaultEvidence" "takenBreaks" "Ljava/util/ArrayList;") (by decide +kernel)
  have hc_74 := hts (.constantLong RX1 74 (-101)) (by decide +kernel)
  have hc_76 := hts (.constantLong RX1 76 (-102)) (by decide +kernel)
  have I1 := I.n
  unfold lstZ at hZ
  refine lv_iload_n hx hb dX1_taken_0 rfl (lv_at hl 1 rfl) ?_
  refine f_0lt (tgt := 15) hx hb (rfl) dX1_taken_1 (by decide) (fun c_1 => ?_) (fun c_1 => ?_)
  · refine lv_ldc2 (v := -101) hx hb hown hc_74 dX1_taken_15 ?_
    exact f_rl hx hb hr hlocks (by unfold tkF; rw [if_pos (by omega)]) dX1_taken_18
  · refine lv_iload_n hx hb dX1_taken_4 rfl (lv_at hl 1 rfl) ?_
    refine lv_aload_n hx hb dX1_taken_5 rfl (lv_at hl 0 rfl) ?_
    refine va_get (D := (dC, dI)) (ci := 2) (v := .ref (ad 10)) (C := RX1) (T := TX1) (N := 14) hx hb hts hin hown hK hP 0 rfl rfl 12 (by decide) hf_60 (fun _ h9 => h9) rfl dX1_taken_6 ?_
    refine f_cVi (As := []) (rest := [.int x9]) ⟨hx, hb, hml, hown, hts⟩ (c_size l9 dC dI (ad 10) mc ed (sTn S)) (cwV 0 hts gX1_taken_Jx4a65c_size_8abf5 rfl rfl rfl (by decide +kernel) ⟨Nat.le_of_ble_eq_true rfl, Nat.le_of_ble_eq_true rfl⟩) roB_bl (va_recv hKl hPl (ci := 0) (q0 := 0) rfl rfl) (roB_at hPl hKl) rfl hl.1 rfl (Nat.le_of_ble_eq_true rfl) dX1_taken_9 ⟨Nat.zero_le _, Nat.zero_le _⟩ ?_
    refine f_ilt (tgt := 19) hx hb (rfl) (nI_toInt (by omega)) dX1_taken_12 (by decide) (fun c_2 => ?_) (fun c_2 => ?_)
    · obtain ⟨i9, hi, rfl⟩ := in_nI (n := sTn S) (x := x9) (by omega) (by omega)
      have ht := tn_nI (n := i9) (by omega)
      have hxi := nI_toInt (n := i9) (by omega)
      have hk := I.k hi
      refine lv_aload_n hx hb dX1_taken_19 rfl (lv_at hl 0 rfl) ?_
      refine va_get (D := (dC, dI)) (ci := 2) (v := .ref (ad 10)) (C := RX1) (T := TX1) (N := 14) hx hb hts hin hown hK hP 0 rfl rfl 12 (by decide) hf_60 (fun _ h9 => h9) rfl dX1_taken_20 ?_
      refine lv_iload_n hx hb dX1_taken_23 rfl (lv_at hl 1 rfl) ?_
      obtain ⟨rfl, rfl, hn1, hn2⟩ := hZ.resolve_left (by omega)
      have hPg : va_P (dC, dI) vwCl [lwO (ad 10) mc ed (sTn S), lwA ed cO nn (foF pa S)] ss.heap := hP.sub [10, 11] rfl
      have hKg : va_K (dC, dI) vwCl [(cO, .object "java/lang/Object")] ss := hK.sub [9] rfl
      refine f_cVr (As := [.int (nI i9)]) (rest := []) ⟨hx, hb, hml, hown, hts⟩ (c_get l9 dC dI (ad 10) mc ed (sTn S) cO nn (foF pa S) i9 (pa i9) (by omega) hn1 hn2 (if_pos (by omega))) (cwV 1 hts gX1_taken_Jx4a65c_get_915e3 rfl rfl rfl (by decide +kernel) ⟨Nat.le_of_ble_eq_true rfl, Nat.le_of_ble_eq_true rfl⟩) roB_bl (va_recv hKg hPg (ci := 0) (q0 := 0) rfl rfl) (roB_at hPg hKg) rfl hl.1 rfl (Nat.le_of_ble_eq_true rfl) dX1_taken_24 ⟨Nat.zero_le _, Nat.zero_le _⟩ ?_
      refine va_castS hx hb hown hcl (hK.1 1 _ rfl).2 (va_recv hK hP (ci := 1) (q0 := i9 + 12) rfl (tw_get (by omega))) dX1_taken_27 ?_
      refine lv_astore_n (lv' := [(3, .ref (pa i9)), (0, .ref (ad 0)), (1, .int (nI i9)), (2, .int y9)]) hx hb dX1_taken_30 rfl hl (by decide) rfl (fun ls hl => ?_)
      refine lv_iload_n hx hb dX1_taken_31 rfl (lv_at hl 3 rfl) ?_
      by_cases c_3 : Int32.toInt y9 = 0
      · refine lv_tableIn (tgt := 76) hx hb dX1_taken_32 (by omega) (by omega) (off := 44) (by rw [c_3]; rfl) (by decide) ?_
        refine lv_aload_n hx hb dX1_taken_76 rfl (lv_at hl 0 rfl) ?_
        refine va_getN (D := (dC, dI)) (ci := 1) (v := .int (nI (sTk S i9))) (C := RX0) (T := TX0) (N := 7) hx hb hts hin0 hown hK hP (i9 + 12) (tw_get (by omega)) rfl 0 (by decide) (va_Nw.use rfl hN.1) (fun _ h9 => h9) rfl dX1_taken_77 ?_
        refine lv_i2l (v := (lN (sTk S i9))) hx hb dX1_taken_80 (nI_l (by omega)) ?_
        exact f_rl hx hb hr hlocks (by simp only [tkF, ht]; (repeat' split) <;> first | rfl | contradiction | (exfalso; omega)) dX1_taken_81
      by_cases c_4 : Int32.toInt y9 = 1
      · refine lv_tableIn (tgt := 82) hx hb dX1_taken_32 (by omega) (by omega) (off := 50) (by rw [c_4]; rfl) (by decide) ?_
        refine lv_aload_n hx hb dX1_taken_82 rfl (lv_at hl 0 rfl) ?_
        refine va_getN (D := (dC, dI)) (ci := 1) (v := .int (nI (sTa S i9))) (C := RX0) (T := TX0) (N := 7) hx hb hts hin0 hown hK hP (i9 + 12) (tw_get (by omega)) rfl 1 (by decide) (va_Nw.use rfl hN.2.1) (fun _ h9 => h9) rfl dX1_taken_83 ?_
        refine lv_i2l (v := (lN (sTa S i9))) hx hb dX1_taken_86 (nI_l (by omega)) ?_
        exact f_rl hx hb hr hlocks (by simp only [tkF, ht]; (repeat' split) <;> first | rfl | contradiction | (exfalso; omega)) dX1_taken_87
      by_cases c_5 : Int32.toInt y9 = 2
      · refine lv_tableIn (tgt := 88) hx hb dX1_taken_32 (by omega) (by omega) (off := 56) (by rw [c_5]; rfl) (by decide) ?_
        refine lv_aload_n hx hb dX1_taken_88 rfl (lv_at hl 0 rfl) ?_
        refine va_getN (D := (dC, dI)) (ci := 1) (v := .int (sTb S i9)) (C := RX0) (T := TX0) (N := 7) hx hb hts hin0 hown hK hP (i9 + 12) (tw_get (by omega)) rfl 2 (by decide) (va_Nw.use rfl hN.2.2.1) (fun _ h9 => h9) rfl dX1_taken_89 ?_
        refine lv_i2l (v := (Int32.toInt64 (sTb S i9))) hx hb dX1_taken_92 rfl ?_
        exact f_rl hx hb hr hlocks (by simp only [tkF, ht]; (repeat' split) <;> first | rfl | contradiction | (exfalso; omega)) dX1_taken_93
      by_cases c_6 : Int32.toInt y9 = 3
      · refine lv_tableIn (tgt := 94) hx hb dX1_taken_32 (by omega) (by omega) (off := 62) (by rw [c_6]; rfl) (by decide) ?_
        refine lv_aload_n hx hb dX1_taken_94 rfl (lv_at hl 0 rfl) ?_
        refine va_getN (D := (dC, dI)) (ci := 1) (v := .int (sTy S i9)) (C := RX0) (T := TX0) (N := 7) hx hb hts hin0 hown hK hP (i9 + 12) (tw_get (by omega)) rfl 3 (by decide) (va_Nw.use rfl hN.2.2.2.1) (fun _ h9 => h9) rfl dX1_taken_95 ?_
        refine lv_i2l (v := (Int32.toInt64 (sTy S i9))) hx hb dX1_taken_98 rfl ?_
        exact f_rl hx hb hr hlocks (by simp only [tkF, ht]; (repeat' split) <;> first | rfl | contradiction | (exfalso; omega)) dX1_taken_99
      by_cases c_7 : Int32.toInt y9 = 4
      · refine lv_tableIn (tgt := 100) hx hb dX1_taken_32 (by omega) (by omega) (off := 68) (by rw [c_7]; rfl) (by decide) ?_
        refine lv_aload_n hx hb dX1_taken_100 rfl (lv_at hl 0 rfl) ?_
        refine va_getN (D := (dC, dI)) (ci := 1) (v := .int (nI (sTt S i9))) (C := RX0) (T := TX0) (N := 7) hx hb hts hin0 hown hK hP (i9 + 12) (tw_get (by omega)) rfl 4 (by decide) (va_Nw.use rfl hN.2.2.2.2.1) (fun _ h9 => h9) rfl dX1_taken_101 ?_
        refine lv_i2l (v := (lN (sTt S i9))) hx hb dX1_taken_104 (nI_l (by omega)) ?_
        exact f_rl hx hb hr hlocks (by simp only [tkF, ht]; (repeat' split) <;> first | rfl | contradiction | (exfalso; omega)) dX1_taken_105
      by_cases c_8 : Int32.toInt y9 = 5
      · refine lv_tableIn (tgt := 106) hx hb dX1_taken_32 (by omega) (by omega) (off := 74) (by rw [c_8]; rfl) (by decide) ?_
        refine lv_aload_n hx hb dX1_taken_106 rfl (lv_at hl 0 rfl) ?_
        refine va_getN (D := (dC, dI)) (ci := 1) (v := .long (lN (sTc S i9))) (C := RX0) (T := TX0) (N := 7) hx hb hts hin0 hown hK hP (i9 + 12) (tw_get (by omega)) rfl 5 (by decide) (va_Nw.use rfl hN.2.2.2.2.2.1) (fun _ h9 => h9) rfl dX1_taken_107 ?_
        exact f_rl hx hb hr hlocks (by simp only [tkF, ht]; (repeat' split) <;> first | rfl | contradiction | (exfalso; omega)) dX1_taken_110
      by_cases c_9 : Int32.toInt y9 = 6
      · refine lv_tableIn (tgt := 111) hx hb dX1_taken_32 (by omega) (by omega) (off := 79) (by rw [c_9]; rfl) (by decide) ?_
        refine lv_aload_n hx hb dX1_taken_111 rfl (lv_at hl 0 rfl) ?_
        refine va_getN (D := (dC, dI)) (ci := 1) (v := .long (lN (sTs S i9))) (C := RX0) (T := TX0) (N := 7) hx hb hts hin0 hown hK hP (i9 + 12) (tw_get (by omega)) rfl 6 (by decide) (va_Nw.use rfl hN.2.2.2.2.2.2) (fun _ h9 => h9) rfl dX1_taken_112 ?_
        exact f_rl hx hb hr hlocks (by simp only [tkF, ht]; (repeat' split) <;> first | rfl | contradiction | (exfalso; omega)) dX1_taken_115
      refine lv_tableOut (tgt := 116) hx hb dX1_taken_32 (by omega) (by decide) ?_
      refine lv_ldc2 (v := -102) hx hb hown hc_76 dX1_taken_116 ?_
      exact f_rl hx hb hr hlocks (by simp only [tkF, ht]; (repeat' split) <;> first | rfl | contradiction | (exfalso; omega)) dX1_taken_119
    · refine lv_ldc2 (v := -101) hx hb hown hc_74 dX1_taken_15 ?_
      exact f_rl hx hb hr hlocks (by unfold tkF; rw [if_pos (by omega)]) dX1_taken_18
