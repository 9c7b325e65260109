abbrev rm_X1_may : Room := { frames := 6, cells := 0, slots := 0, locals := 137 }
set_option maxHeartbeats 4000000 in
set_option maxRecDepth 100000 in
theorem c_X1_may (l : Launch) (dC : Nat → ClassId) (dI : Nat → Nat → Nat) (ad : Nat → Nat) (cy : Nat → ClassId) (S : St) (x : Int32) (y : Int32) (u : Int32) (t : Int32) (b : Int32) (I : Inv S) : RoI l yX1_may wsX1_may rm_X1_may [.ref (ad 0), .int x, .int y, .int u, .int t, .int b] (xB dC dI ad cy S) (maF S x y u t b) := by
  refine Ro_start (cc := cX1_may) (maxL := 7) (ret := (some .int)) (lv := [(0, .ref (ad 0)), (1, .int x), (2, .int y), (3, .int u), (4, .int t), (5, .int b)]) (by decide) rfl (Nat.le_of_ble_eq_true rfl) rfl ?_
  intro pp ee ss mm aa bl me co hx hb hr hml hts hown hlocks hnm hB ls hl
  obtain ⟨hP, hK⟩ := hB
  have I1 := I.n
  refine lv_aload_n hx hb dX1_may_0 rfl (lv_at hl 0 rfl) ?_
  refine lv_iload_n hx hb dX1_may_1 rfl (lv_at hl 1 rfl) ?_
  refine lv_iload_n hx hb dX1_may_2 rfl (lv_at hl 2 rfl) ?_
  refine lv_iload_n hx hb dX1_may_3 rfl (lv_at hl 3 rfl) ?_
  refine lv_iload hx hb dX1_may_4 (lv_at hl 4 rfl) ?_
  refine lv_iload hx hb dX1_may_6 (lv_at hl 5 rfl) ?_
  refine f_cVi (As := [.int x, .int y, .int u, .int t, .int b]) (rest := []) ⟨hx, hb, hml, hown, hts⟩ (c_X1_voteRefusal l dC dI ad cy S x y u t b I) (cwV 5 hts gX1_may_X1_voteRefusal rfl rfl rfl (by decide +kernel) ⟨Nat.le_of_ble_eq_true rfl, Nat.le_of_ble_eq_true rfl⟩) roB_bl (va_recv hK hP (ci := 2) (q0 := 0) rfl rfl) (roB_at hP hK) rfl hl.1 rfl (Nat.le_of_ble_eq_true rfl) dX1_may_8 ⟨Nat.zero_le _, Nat.zero_le _⟩ ?_
  refine lv_istore (lv' := [(6, .int (vrF S x y u t b)), (0, .ref (ad 0)), (1, .int x), (2, .int y), (3, .int u), (4, .int t), (5, .int b)]) hx hb dX1_may_11 hl (by decide) rfl (fun ls hl => ?_)
  refine lv_iload hx hb dX1_may_13 (lv_at hl 0 rfl) ?_
  refine f_0eq (tgt := 21) hx hb (rfl) dX1_may_15 (by decide) (fun c_1 => ?_) (fun c_1 => ?_)
  · obtain ⟨k, h, i, j, z, rfl, rfl, rfl, rfl, rfl, hk, h1, h2, h3, hi, hj, hz, hw, hv⟩ := vr_fine I c_1
    refine lv_aload_n hx hb dX1_may_21 rfl (lv_at hl 1 rfl) ?_
    refine lv_iload_n hx hb dX1_may_22 rfl (lv_at hl 2 rfl) ?_
    refine lv_iload_n hx hb dX1_may_23 rfl (lv_at hl 3 rfl) ?_
    refine lv_iload_n hx hb dX1_may_24 rfl (lv_at hl 4 rfl) ?_
    refine lv_iload hx hb dX1_may_25 (lv_at hl 5 rfl) ?_
    refine lv_iload hx hb dX1_may_27 (lv_at hl 6 rfl) ?_
    refine f_cSi (As := [.int (nI k), .int (nI h), .int (nI i), .int (nI j), .int (nI z)]) (rest := [.ref (ad 0)]) ⟨hx, hb, hml, hown, hts⟩ (c_X1_packed l k h i j z (by omega) (by omega) (by omega) (by omega) (by omega)) (va_cwS 5 hts gX1_may_X1_packed rfl rfl rfl (by decide +kernel) ⟨Nat.le_of_ble_eq_true rfl, Nat.le_of_ble_eq_true rfl⟩) noB_bl noB_at rfl hl.1 rfl (Nat.le_of_ble_eq_true rfl) dX1_may_29 ⟨Nat.zero_le _, Nat.zero_le _⟩ ?_
    have hcc : vC k h i j z < 83968 ∧ vC k h i j z % 16 < 10 := by unfold vC; omega
    refine f_cVi (As := [.int (nI (vC k h i j z))]) (rest := []) ⟨hx, hb, hml, hown, hts⟩ (c_X1_makesBreak l dC dI ad cy S (vC k h i j z) I (by omega) (by omega)) (cwV 1 hts gX1_may_X1_makesBreak rfl rfl rfl (by decide +kernel) ⟨Nat.le_of_ble_eq_true rfl, Nat.le_of_ble_eq_true rfl⟩) roB_bl (va_recv hK hP (ci := 2) (q0 := 0) rfl rfl) (roB_at hP hK) rfl hl.1 rfl (Nat.le_of_ble_eq_true rfl) dX1_may_32 ⟨Nat.zero_le _, Nat.zero_le _⟩ ?_
    refine f_beq (tgt := 42) hx hb dX1_may_35 (by decide) (fun c_2 => ?_) (fun c_2 => ?_)
    · refine lv_iconst (v := (nI 1)) hx hb dX1_may_42 (by decide) ?_
      exact f_ri hx hb hr hlocks (by simp only [maF]; rw [if_pos hv, tn_nI (by omega), tn_nI (by omega), tn_nI (by omega), tn_nI (by omega), tn_nI (by omega), c_2]; rfl) dX1_may_43
    · refine lv_iconst (v := (nI 0)) hx hb dX1_may_38 (by decide) ?_
      refine lv_goto (tgt := 43) hx hb dX1_may_39 (by decide) ?_
      exact f_ri hx hb hr hlocks (by simp only [maF]; rw [if_pos hv, tn_nI (by omega), tn_nI (by omega), tn_nI (by omega), tn_nI (by omega), tn_nI (by omega), c_2]; rfl) dX1_may_43
  · refine lv_iload hx hb dX1_may_18 (lv_at hl 0 rfl) ?_
    exact f_ri hx hb hr hlocks (by have e : ¬ vrF S x y u t b = nI 0 := (fun e => c_1 (by rw [e]; rfl)); rw [maF, if_neg e]) dX1_may_20

abbrev rm_X1_said : Room := { frames := 1, cells := 0, slots := 0, locals := 21 }
set_option maxHeartbeats 4000000 in
set_option maxRecDepth 100000 in
theorem c_X1_said (l : Launch) (dC : Nat → ClassId) (dI : Nat → Nat → Nat) (ad : Nat → Nat) (cy : Nat → ClassId) (S : St) (x : Int32) (y : Int32) (I : Inv S) : RoI l yX1_said wsX1_said rm_X1_said [.ref (ad 0), .int x, .int y] (xB dC dI ad cy S) (sdF S x y) := by
  refine Ro_start (cc := cX1_said) (maxL := 3) (ret := (some .int)) (lv := [(0, .ref (ad 0)), (1, .int x), (2, .int y)]) (by decide) rfl (Nat.le_of_ble_eq_true rfl) rfl ?_
  intro pp ee ss mm aa bl me co hx hb hr hml hts hown hlocks hnm hB ls hl
  obtain ⟨hP, hK⟩ := hB
  have hin : ∀ w ∈ wsX10, w ∈ wsX1_said := fun w h => List.mem_cons_of_mem _ (List.mem_append_right _ h)
  have hf_44 := hts (.fieldLink RX1 44 "FaultEvidence" "votes" "[I") (by decide +kernel)
  have I1 := I.n
  refine lv_aload_n hx hb dX1_said_0 rfl (lv_at hl 0 rfl) ?_
  refine lv_iload_n hx hb dX1_said_1 rfl (lv_at hl 1 rfl) ?_
  refine f_cVi (As := [.int x]) (rest := []) ⟨hx, hb, hml, hown, hts⟩ (c_X1_isVote l dC dI ad cy S x I) (cwV 1 hts gX1_said_X1_isVote rfl rfl rfl (by decide +kernel) ⟨Nat.le_of_ble_eq_true rfl, Nat.le_of_ble_eq_true rfl⟩) roB_bl (va_recv hK hP (ci := 2) (q0 := 0) rfl rfl) (roB_at hP hK) rfl hl.1 rfl (Nat.le_of_ble_eq_true rfl) dX1_said_2 ⟨Nat.zero_le _, Nat.zero_le _⟩ ?_
  refine f_bne (tgt := 11) hx hb dX1_said_5 (by decide) (fun c_1 => ?_) (fun c_1 => ?_)
  · obtain ⟨v, hv, rfl⟩ := vt_of c_1
    have hw := I.v hv
    have ht := tn_nI (n := v) (by omega)
    have c0 := c_1
    refine lv_iload_n hx hb dX1_said_11 rfl (lv_at hl 2 rfl) ?_
    by_cases c_2 : Int32.toInt y = 0
    · refine lv_tableIn (tgt := 48) hx hb dX1_said_12 (by omega) (by omega) (off := 36) (by rw [c_2]; rfl) (by decide) ?_
      refine lv_aload_n hx hb dX1_said_48 rfl (lv_at hl 0 rfl) ?_
      refine va_get (D := (dC, dI)) (ci := 2) (v := .ref (ad 7)) (C := RX1) (T := TX1) (N := 14) hx hb hts hin hown hK hP 0 rfl rfl 8 (by decide) hf_44 (fun _ h9 => h9) rfl dX1_said_49 ?_
      refine lv_iload_n hx hb dX1_said_52 rfl (lv_at hl 1 rfl) ?_
      refine f_iald hx hb hK hP 7 6 rfl rfl (k := v) (by omega) (by decide) (v := (nI (sVts S v))) rfl dX1_said_53 ?_
      refine f_cSi (As := [.int (nI (sVts S v))]) (rest := []) ⟨hx, hb, hml, hown, hts⟩ (c_X1_nodeOf l (sVts S v) (by omega)) (va_cwS 1 hts gX1_said_X1_nodeOf rfl rfl rfl (by decide +kernel) ⟨Nat.le_of_ble_eq_true rfl, Nat.le_of_ble_eq_true rfl⟩) noB_bl noB_at rfl hl.1 rfl (Nat.le_of_ble_eq_true rfl) dX1_said_54 ⟨Nat.zero_le _, Nat.zero_le _⟩ ?_
      exact f_ri hx hb hr hlocks (by simp [sdF, ht, *]) dX1_said_57
    by_cases c_3 : Int32.toInt y = 1
    · refine lv_tableIn (tgt := 58) hx hb dX1_said_12 (by omega) (by omega) (off := 46) (by rw [c_3]; rfl) (by decide) ?_
      refine lv_aload_n hx hb dX1_said_58 rfl (lv_at hl 0 rfl) ?_
      refine va_get (D := (dC, dI)) (ci := 2) (v := .ref (ad 7)) (C := RX1) (T := TX1) (N := 14) hx hb hts hin hown hK hP 0 rfl rfl 8 (by decide) hf_44 (fun _ h9 => h9) rfl dX1_said_59 ?_
      refine lv_iload_n hx hb dX1_said_62 rfl (lv_at hl 1 rfl) ?_
      refine f_iald hx hb hK hP 7 6 rfl rfl (k := v) (by omega) (by decide) (v := (nI (sVts S v))) rfl dX1_said_63 ?_
      refine f_cSi (As := [.int (nI (sVts S v))]) (rest := []) ⟨hx, hb, hml, hown, hts⟩ (c_X1_heightOf l (sVts S v) (by omega)) (va_cwS 1 hts gX1_said_X1_heightOf rfl rfl rfl (by decide +kernel) ⟨Nat.le_of_ble_eq_true rfl, Nat.le_of_ble_eq_true rfl⟩) noB_bl noB_at rfl hl.1 rfl (Nat.le_of_ble_eq_true rfl) dX1_said_64 ⟨Nat.zero_le _, Nat.zero_le _⟩ ?_
      exact f_ri hx hb hr hlocks (by simp [sdF, ht, *]) dX1_said_67
    by_cases c_4 : Int32.toInt y = 2
    · refine lv_tableIn (tgt := 68) hx hb dX1_said_12 (by omega) (by omega) (off := 56) (by rw [c_4]; rfl) (by decide) ?_
      refine lv_aload_n hx hb dX1_said_68 rfl (lv_at hl 0 rfl) ?_
      refine va_get (D := (dC, dI)) (ci := 2) (v := .ref (ad 7)) (C := RX1) (T := TX1) (N := 14) hx hb hts hin hown hK hP 0 rfl rfl 8 (by decide) hf_44 (fun _ h9 => h9) rfl dX1_said_69 ?_
      refine lv_iload_n hx hb dX1_said_72 rfl (lv_at hl 1 rfl) ?_
      refine f_iald hx hb hK hP 7 6 rfl rfl (k := v) (by omega) (by decide) (v := (nI (sVts S v))) rfl dX1_said_73 ?_
      refine f_cSi (As := [.int (nI (sVts S v))]) (rest := []) ⟨hx, hb, hml, hown, hts⟩ (c_X1_roundOf l (sVts S v) (by omega)) (va_cwS 1 hts gX1_said_X1_roundOf rfl rfl rfl (by decide +kernel) ⟨Nat.le_of_ble_eq_true rfl, Nat.le_of_ble_eq_true rfl⟩) noB_bl noB_at rfl hl.1 rfl (Nat.le_of_ble_eq_true rfl) dX1_said_74 ⟨Nat.zero_le _, Nat.zero_le _⟩ ?_
      exact f_ri hx hb hr hlocks (by simp [sdF, ht, *]) dX1_said_77
    by_cases c_5 : Int32.toInt y = 3
    · refine lv_tableIn (tgt := 78) hx hb dX1_said_12 (by omega) (by omega) (off := 66) (by rw [c_5]; rfl) (by decide) ?_
      refine lv_aload_n hx hb dX1_said_78 rfl (lv_at hl 0 rfl) ?_
      refine va_get (D := (dC, dI)) (ci := 2) (v := .ref (ad 7)) (C := RX1) (T := TX1) (N := 14) hx hb hts hin hown hK hP 0 rfl rfl 8 (by decide) hf_44 (fun _ h9 => h9) rfl dX1_said_79 ?_
      refine lv_iload_n hx hb dX1_said_82 rfl (lv_at hl 1 rfl) ?_
      refine f_iald hx hb hK hP 7 6 rfl rfl (k := v) (by omega) (by decide) (v := (nI (sVts S v))) rfl dX1_said_83 ?_
      refine f_cSi (As := [.int (nI (sVts S v))]) (rest := []) ⟨hx, hb, hml, hown, hts⟩ (c_X1_stepOf l (sVts S v) (by omega)) (va_cwS 1 hts gX1_said_X1_stepOf rfl rfl rfl (by decide +kernel) ⟨Nat.le_of_ble_eq_true rfl, Nat.le_of_ble_eq_true rfl⟩) noB_bl noB_at rfl hl.1 rfl (Nat.le_of_ble_eq_true rfl) dX1_said_84 ⟨Nat.zero_le _, Nat.zero_le _⟩ ?_
      exact f_ri hx hb hr hlocks (by simp [sdF, ht, *]) dX1_said_87
    by_cases c_6 : Int32.toInt y = 4
    · refine lv_tableIn (tgt := 88) hx hb dX1_said_12 (by omega) (by omega) (off := 76) (by rw [c_6]; rfl) (by decide) ?_
      refine lv_aload_n hx hb dX1_said_88 rfl (lv_at hl 0 rfl) ?_
      refine va_get (D := (dC, dI)) (ci := 2) (v := .ref (ad 7)) (C := RX1) (T := TX1) (N := 14) hx hb hts hin hown hK hP 0 rfl rfl 8 (by decide) hf_44 (fun _ h9 => h9) rfl dX1_said_89 ?_
      refine lv_iload_n hx hb dX1_said_92 rfl (lv_at hl 1 rfl) ?_
      refine f_iald hx hb hK hP 7 6 rfl rfl (k := v) (by omega) (by decide) (v := (nI (sVts S v))) rfl dX1_said_93 ?_
      refine f_cSi (As := [.int (nI (sVts S v))]) (rest := []) ⟨hx, hb, hml, hown, hts⟩ (c_X1_blockOf l (sVts S v) (by omega)) (va_cwS 1 hts gX1_said_X1_blockOf rfl rfl rfl (by decide +kernel) ⟨Nat.le_of_ble_eq_true rfl, Nat.le_of_ble_eq_true rfl⟩) noB_bl noB_at rfl hl.1 rfl (Nat.le_of_ble_eq_true rfl) dX1_said_94 ⟨Nat.zero_le _, Nat.zero_le _⟩ ?_
      exact f_ri hx hb hr hlocks (by simp [sdF, ht, *]) dX1_said_97
    refine lv_tableOut (tgt := 98) hx hb dX1_said_12 (by omega) (by decide) ?_
    refine lv_bipush (v := (-102)) hx hb dX1_said_98 (by decide) ?_
    exact f_ri hx hb hr hlocks (by simp [sdF, ht, *]) dX1_said_100
  · refine lv_bipush (v := (-101)) hx hb dX1_said_8 (by decide) ?_
    exact f_ri hx hb hr hlocks (by simp [sdF, c_1]) dX1_said_10

abbrev rm_X1_weight : Room := { frames := 2, cells := 0, slots := 0, locals := 42 }
set_option maxHeartbeats 4000000 in
set_option maxRecDepth 100000 in
theorem c_X1_weight (l : Launch) (dC : Nat → ClassId) (dI : Nat → Nat → Nat) (ad : Nat → Nat) (cy : Nat → ClassId) (S : St) (x : Int32) (y : Int32) (I : Inv S) : RoL l yX1_weight wsX1_weight rm_X1_weight [.ref (ad 0), .int x, .int y] (xB dC dI ad cy S) (wtF S x y) := by
  refine Ro_start (cc := cX1_weight) (maxL := 3) (ret := (some .long)) (lv := [(0, .ref (ad 0)), (1, .int x), (2, .int y)]) (by decide) rfl (Nat.le_of_ble_eq_true rfl) rfl ?_
  intro pp ee ss mm aa bl me co hx hb hr hml hts hown hlocks hnm hB ls hl
  obtain ⟨hP, hK⟩ := hB
  have hin : ∀ w ∈ wsX10, w ∈ wsX1_weight := fun w h => List.mem_cons_of_mem _ (List.mem_append_right _ h)
  have hf_38 := hts (.fieldLink RX1 38 "FaultEvidence" "weights" "[J") (by decide +kernel)
  have hf_41 := hts (.fieldLink RX1 41 "FaultEvidence" "totals" "[J") (by decide +kernel)
  have hc_74 := hts (.constantLong RX1 74 (-101)) (by decide +kernel)
  have hc_76 := hts (.constantLong RX1 76 (-102)) (by decide +kernel)
  have I1 := I.n
  refine lv_aload_n hx hb dX1_weight_0 rfl (lv_at hl 0 rfl) ?_
  refine lv_iload_n hx hb dX1_weight_1 rfl (lv_at hl 2 rfl) ?_
  refine f_cVi (As := [.int y]) (rest := []) ⟨hx, hb, hml, hown, hts⟩ (c_X1_isNodeOrNone l dC dI ad cy S y I) (cwV 1 hts gX1_weight_X1_isNodeOrNone rfl rfl rfl (by decide +kernel) ⟨Nat.le_of_ble_eq_true rfl, Nat.le_of_ble_eq_true rfl⟩) roB_bl (va_recv hK hP (ci := 2) (q0 := 0) rfl rfl) (roB_at hP hK) rfl hl.1 rfl (Nat.le_of_ble_eq_true rfl) dX1_weight_2 ⟨Nat.zero_le _, Nat.zero_le _⟩ ?_
  refine f_bne (tgt := 12) hx hb dX1_weight_5 (by decide) (fun c_1 => ?_) (fun c_1 => ?_)
  · refine lv_aload_n hx hb dX1_weight_12 rfl (lv_at hl 0 rfl) ?_
    refine lv_iload_n hx hb dX1_weight_13 rfl (lv_at hl 1 rfl) ?_
    refine f_cVi (As := [.int x]) (rest := []) ⟨hx, hb, hml, hown, hts⟩ (c_X1_hasBegun l dC dI ad cy S x I) (cwV 1 hts gX1_weight_X1_hasBegun rfl rfl rfl (by decide +kernel) ⟨Nat.le_of_ble_eq_true rfl, Nat.le_of_ble_eq_true rfl⟩) roB_bl (va_recv hK hP (ci := 2) (q0 := 0) rfl rfl) (roB_at hP hK) rfl hl.1 rfl (Nat.le_of_ble_eq_true rfl) dX1_weight_14 ⟨Nat.zero_le _, Nat.zero_le _⟩ ?_
    refine f_bne (tgt := 24) hx hb dX1_weight_17 (by decide) (fun c_2 => ?_) (fun c_2 => ?_)
    · obtain ⟨h, h1, h2, rfl⟩ := bg_of c_2
      have ht := tn_nI (n := h) (by omega)
      refine lv_iload_n hx hb dX1_weight_24 rfl (lv_at hl 2 rfl) ?_
      refine lv_iconst (v := (-1)) hx hb dX1_weight_25 (by decide) ?_
      refine f_ine (tgt := 38) hx hb (rfl) ((by decide : ((-1) : Int32).toInt = -1)) dX1_weight_26 (by decide) (fun c_3 => ?_) (fun c_3 => ?_)
      · obtain ⟨k, hk, rfl⟩ : ∃ k : Nat, k < sNn S ∧ y = nI k := by
          have d := c_1
          simp only [isNN, Bool.or_eq_true, decide_eq_true_eq] at d
          exact nd_of (d.resolve_left (by omega))
        have hu := tn_nI (n := k) (by omega)
        have hu2 := nI_toInt (n := k) (by omega)
        refine lv_aload_n hx hb dX1_weight_38 rfl (lv_at hl 0 rfl) ?_
        refine va_get (D := (dC, dI)) (ci := 2) (v := .ref (ad 5)) (C := RX1) (T := TX1) (N := 14) hx hb hts hin hown hK hP 0 rfl rfl 6 (by decide) hf_38 (fun _ h9 => h9) rfl dX1_weight_39 ?_
        refine lv_iload_n hx hb dX1_weight_42 rfl (lv_at hl 1 rfl) ?_
        refine lv_iload_n hx hb dX1_weight_43 rfl (lv_at hl 2 rfl) ?_
        refine f_cSi (As := [.int (nI h), .int (nI k)]) (rest := [.ref (ad 5)]) ⟨hx, hb, hml, hown, hts⟩ (c_X1_weightIndex l h k) (va_cwS 2 hts gX1_weight_X1_weightIndex rfl rfl rfl (by decide +kernel) ⟨Nat.le_of_ble_eq_true rfl, Nat.le_of_ble_eq_true rfl⟩) noB_bl noB_at rfl hl.1 rfl (Nat.le_of_ble_eq_true rfl) dX1_weight_44 ⟨Nat.zero_le _, Nat.zero_le _⟩ ?_
        refine f_lald hx hb hK hP 5 4 rfl rfl (k := (h * 8 + k)) (by omega) (by decide) (v := (lN (sWts S (h * 8 + k)))) rfl dX1_weight_47 ?_
        exact f_rl hx hb hr hlocks (by simp only [wtF, c_1, c_2]; first | (rw [if_neg (by decide), if_neg (by decide), if_pos (by omega), ht]) | (rw [if_neg (by decide), if_neg (by decide), if_neg (by omega), ht, hu])) dX1_weight_48
      · refine lv_aload_n hx hb dX1_weight_29 rfl (lv_at hl 0 rfl) ?_
        refine va_get (D := (dC, dI)) (ci := 2) (v := .ref (ad 6)) (C := RX1) (T := TX1) (N := 14) hx hb hts hin hown hK hP 0 rfl rfl 7 (by decide) hf_41 (fun _ h9 => h9) rfl dX1_weight_30 ?_
        refine lv_iload_n hx hb dX1_weight_33 rfl (lv_at hl 1 rfl) ?_
        refine f_lald hx hb hK hP 6 5 rfl rfl (k := h) (by omega) (by decide) (v := (lN (sTot S h))) rfl dX1_weight_34 ?_
        refine lv_goto (tgt := 48) hx hb dX1_weight_35 (by decide) ?_
        exact f_rl hx hb hr hlocks (by simp only [wtF, c_1, c_2]; first | (rw [if_neg (by decide), if_neg (by decide), if_pos (by omega), ht]) | (rw [if_neg (by decide), if_neg (by decide), if_neg (by omega), ht, hu])) dX1_weight_48
    · refine lv_ldc2 (v := -102) hx hb hown hc_76 dX1_weight_20 ?_
      exact f_rl hx hb hr hlocks (by simp [wtF, c_1, c_2]) dX1_weight_23
  · refine lv_ldc2 (v := -101) hx hb hown hc_74 dX1_weight_8 ?_
    exact f_rl hx hb hr hlocks (by simp [wtF, c_1]) dX1_weight_11

abbrev rm_X1_backed : Room := { frames := 2, cells := 0, slots := 0, locals := 47 }
set_option maxHeartbeats 4000000 in
set_option maxRecDepth 100000 in
theorem c_X1_backed (l : Launch) (dC : Nat → ClassId) (dI : Nat → Nat → Nat) (ad : Nat → Nat) (cy : Nat → ClassId) (S : St) (x : Int32) (u : Int32) (t : Int32) (b : Int32) (I : Inv S) : RoL l yX1_backed wsX1_backed rm_X1_backed [.ref (ad 0), .int x, .int u, .int t, .int b] (xB dC dI ad cy S) (bdF S x u t b) := by
  refine Ro_start (cc := cX1_backed) (maxL := 5) (ret := (some .long)) (lv := [(0, .ref (ad 0)), (1, .int x), (2, .int u), (3, .int t), (4, .int b)]) (by decide) rfl (Nat.le_of_ble_eq_true rfl) rfl ?_
  intro pp ee ss mm aa bl me co hx hb hr hml hts hown hlocks hnm hB ls hl
  obtain ⟨hP, hK⟩ := hB
  have hc_76 := hts (.constantLong RX1 76 (-102)) (by decide +kernel)
  have I1 := I.n
  refine lv_aload_n hx hb dX1_backed_0 rfl (lv_at hl 0 rfl) ?_
  refine lv_iload_n hx hb dX1_backed_1 rfl (lv_at hl 1 rfl) ?_
  refine f_cVi (As := [.int x]) (rest := []) ⟨hx, hb, hml, hown, hts⟩ (c_X1_hasBegun l dC dI ad cy S x I) (cwV 1 hts gX1_backed_X1_hasBegun rfl rfl rfl (by decide +kernel) ⟨Nat.le_of_ble_eq_true rfl, Nat.le_of_ble_eq_true rfl⟩) roB_bl (va_recv hK hP (ci := 2) (q0 := 0) rfl rfl) (roB_at hP hK) rfl hl.1 rfl (Nat.le_of_ble_eq_true rfl) dX1_backed_2 ⟨Nat.zero_le _, Nat.zero_le _⟩ ?_
  refine f_beq (tgt := 18) hx hb dX1_backed_5 (by decide) (fun c_1 => ?_) (fun c_1 => ?_)
  · refine lv_ldc2 (v := -102) hx hb hown hc_76 dX1_backed_18 ?_
    exact f_rl hx hb hr hlocks (by simp [bdF, c_1]) dX1_backed_21
  · refine lv_iload_n hx hb dX1_backed_8 rfl (lv_at hl 2 rfl) ?_
    refine lv_iload_n hx hb dX1_backed_9 rfl (lv_at hl 3 rfl) ?_
    refine lv_iload hx hb dX1_backed_10 (lv_at hl 4 rfl) ?_
    refine f_cSi (As := [.int u, .int t, .int b]) (rest := []) ⟨hx, hb, hml, hown, hts⟩ (c_X1_isSayable l u t b) (va_cwS 3 hts gX1_backed_X1_isSayable rfl rfl rfl (by decide +kernel) ⟨Nat.le_of_ble_eq_true rfl, Nat.le_of_ble_eq_true rfl⟩) noB_bl noB_at rfl hl.1 rfl (Nat.le_of_ble_eq_true rfl) dX1_backed_12 ⟨Nat.zero_le _, Nat.zero_le _⟩ ?_
    refine f_bne (tgt := 22) hx hb dX1_backed_15 (by decide) (fun c_2 => ?_) (fun c_2 => ?_)
    · obtain ⟨h, h1, h2, rfl⟩ := bg_of c_1
      obtain ⟨i, j, z, hi, hj, hz, rfl, rfl, rfl⟩ := sy_of c_2
      refine lv_aload_n hx hb dX1_backed_22 rfl (lv_at hl 0 rfl) ?_
      refine lv_iconst (v := (nI 0)) hx hb dX1_backed_23 (by decide) ?_
      refine lv_iload_n hx hb dX1_backed_24 rfl (lv_at hl 1 rfl) ?_
      refine lv_iload_n hx hb dX1_backed_25 rfl (lv_at hl 2 rfl) ?_
      refine lv_iload_n hx hb dX1_backed_26 rfl (lv_at hl 3 rfl) ?_
      refine lv_iload hx hb dX1_backed_27 (lv_at hl 4 rfl) ?_
      refine f_cSi (As := [.int (nI 0), .int (nI h), .int (nI i), .int (nI j), .int (nI z)]) (rest := [.ref (ad 0)]) ⟨hx, hb, hml, hown, hts⟩ (c_X1_packed l 0 h i j z (by omega) (by omega) (by omega) (by omega) (by omega)) (va_cwS 5 hts gX1_backed_X1_packed rfl rfl rfl (by decide +kernel) ⟨Nat.le_of_ble_eq_true rfl, Nat.le_of_ble_eq_true rfl⟩) noB_bl noB_at rfl hl.1 rfl (Nat.le_of_ble_eq_true rfl) dX1_backed_29 ⟨Nat.zero_le _, Nat.zero_le _⟩ ?_
      have hcc : vC 0 h i j z < 83968 := by unfold vC; omega
      refine f_cVl (As := [.int (nI (vC 0 h i j z))]) (rest := []) ⟨hx, hb, hml, hown, hts⟩ (c_X1_weightFor l dC dI ad cy S (vC 0 h i j z) I (by omega)) (cwV 1 hts gX1_backed_X1_weightFor rfl rfl rfl (by decide +kernel) ⟨Nat.le_of_ble_eq_true rfl, Nat.le_of_ble_eq_true rfl⟩) roB_bl (va_recv hK hP (ci := 2) (q0 := 0) rfl rfl) (roB_at hP hK) rfl hl.1 rfl (Nat.le_of_ble_eq_true rfl) dX1_backed_32 ⟨Nat.zero_le _, Nat.zero_le _⟩ ?_
      exact f_rl hx hb hr hlocks (by simp only [bdF, c_1, c_2]; rw [tn_nI (by omega), tn_nI (by omega), tn_nI (by omega), tn_nI (by omega)]; rfl) dX1_backed_35
    · refine lv_ldc2 (v := -102) hx hb hown hc_76 dX1_backed_18 ?_
      exact f_rl hx hb hr hlocks (by simp [bdF, c_1, c_2]) dX1_backed_21

abbrev rm_X1_certain : Room := { frames := 1, cells := 0, slots := 0, locals := 21 }
set_option maxHeartbeats 4000000 in
set_option maxRecDepth 100000 in
theorem c_X1_certain (l : Launch) (dC : Nat → ClassId) (dI : Nat → Nat → Nat) (ad : Nat → Nat) (cy : Nat → ClassId) (S : St) (x : Int32) (y : Int32) (I : Inv S) : RoI l yX1_certain wsX1_certain rm_X1_certain [.ref (ad 0), .int x, .int y] (xB dC dI ad cy S) (cnF S x y) := by
  refine Ro_start (cc := cX1_certain) (maxL := 5) (ret := (some .int)) (lv := [(0, .ref (ad 0)), (1, .int x), (2, .int y)]) (by decide) rfl (Nat.le_of_ble_eq_true rfl) rfl ?_
  intro pp ee ss mm aa bl me co hx hb hr hml hts hown hlocks hnm hB ls hl
  obtain ⟨hP, hK⟩ := hB
  have hin : ∀ w ∈ wsX10, w ∈ wsX1_certain := fun w h => List.mem_cons_of_mem _ (List.mem_append_right _ h)
  have hf_54 := hts (.fieldLink RX1 54 "FaultEvidence" "certainBlocks" "[I") (by decide +kernel)
  have I1 := I.n
  refine lv_aload_n hx hb dX1_certain_0 rfl (lv_at hl 0 rfl) ?_
  refine lv_iload_n hx hb dX1_certain_1 rfl (lv_at hl 1 rfl) ?_
  refine f_cVi (As := [.int x]) (rest := []) ⟨hx, hb, hml, hown, hts⟩ (c_X1_hasBegun l dC dI ad cy S x I) (cwV 1 hts gX1_certain_X1_hasBegun rfl rfl rfl (by decide +kernel) ⟨Nat.le_of_ble_eq_true rfl, Nat.le_of_ble_eq_true rfl⟩) roB_bl (va_recv hK hP (ci := 2) (q0 := 0) rfl rfl) (roB_at hP hK) rfl hl.1 rfl (Nat.le_of_ble_eq_true rfl) dX1_certain_2 ⟨Nat.zero_le _, Nat.zero_le _⟩ ?_
  refine f_bne (tgt := 11) hx hb dX1_certain_5 (by decide) (fun c_1 => ?_) (fun c_1 => ?_)
  · obtain ⟨h, h1, h2, rfl⟩ := bg_of c_1
    have ht := tn_nI (n := h) (by omega)
    have hcb := cb_lt S h
    refine lv_iconst (v := (nI 0)) hx hb dX1_certain_11 (by decide) ?_
    refine lv_istore_n (lv' := [(3, .int (nI 0)), (0, .ref (ad 0)), (1, .int (nI h)), (2, .int y)]) hx hb dX1_certain_12 rfl hl (by decide) rfl (fun ls hl => ?_)
    refine lv_iconst (v := (nI 1)) hx hb dX1_certain_13 (by decide) ?_
    refine lv_istore (lv' := [(4, .int (nI 1)), (3, .int (nI 0)), (0, .ref (ad 0)), (1, .int (nI h)), (2, .int y)]) hx hb dX1_certain_14 hl (by decide) rfl (fun ls hl => ?_)
    have loop_16 : ∀ (n : Nat) (b : Nat) (k : Nat), 10 - b < n → k = sm b (cnO S h) → b ≤ 10 → (∀ i, i < b → cnT S h y.toInt i = false) → k ≤ b → ∀ ls : Array Slot, lv_has ls 5 [(4, .int (nI b)), (3, .int (nI k)), (0, .ref (ad 0)), (1, .int (nI h)), (2, .int y)] → W pp l ee rm_X1_certain ss mm aa bl me co ss.heap [] 0 0 (MQ bl (vp_Si (fun z_ => z_ = cnF S (nI h) y)) aa ss 0 0 (fun _ => False)) (F0 mm 16 ls []) := by
      intro n
      induction n with
      | zero => intro b k hm; exact absurd hm (Nat.not_lt_zero _)
      | succ n ih_16 =>
        intro b k hm hk hb1 hno hk2 ls hl
        refine lv_iload hx hb dX1_certain_16 (lv_at hl 0 rfl) ?_
        refine lv_bipush (v := (nI 10)) hx hb dX1_certain_18 (by decide) ?_
        refine f_ige (tgt := 54) hx hb (nI_toInt (by omega)) (nI_toInt (by omega)) dX1_certain_20 (by decide) (fun c_2 => ?_) (fun c_2 => ?_)
        · refine lv_iconst (v := (-1)) hx hb dX1_certain_54 (by decide) ?_
          exact f_ri hx hb hr hlocks (by have e2 := fi_no (n := 10) (fun i hi => hno i (by omega)); simp only [cnF, ht, e2]; rw [c_1, if_neg (by decide), if_neg (by omega)]) dX1_certain_55
        · refine lv_aload_n hx hb dX1_certain_23 rfl (lv_at hl 2 rfl) ?_
          refine va_get (D := (dC, dI)) (ci := 2) (v := .ref (ad 9)) (C := RX1) (T := TX1) (N := 14) hx hb hts hin hown hK hP 0 rfl rfl 11 (by decide) hf_54 (fun _ h9 => h9) rfl dX1_certain_24 ?_
          refine lv_iload_n hx hb dX1_certain_27 rfl (lv_at hl 3 rfl) ?_
          refine f_iald hx hb hK hP 9 8 rfl rfl (k := h) (by omega) (by decide) (v := (nI (cbF S h))) rfl dX1_certain_28 ?_
          refine lv_iload hx hb dX1_certain_29 (lv_at hl 0 rfl) ?_
          refine f_cSi (As := [.int (nI (cbF S h)), .int (nI b)]) (rest := []) ⟨hx, hb, hml, hown, hts⟩ (c_X1_hasBlock l (cbF S h) b (by omega) (by omega)) (va_cwS 2 hts gX1_certain_X1_hasBlock rfl rfl rfl (by decide +kernel) ⟨Nat.le_of_ble_eq_true rfl, Nat.le_of_ble_eq_true rfl⟩) noB_bl noB_at rfl hl.1 rfl (Nat.le_of_ble_eq_true rfl) dX1_certain_31 ⟨Nat.zero_le _, Nat.zero_le _⟩ ?_
          refine f_beq (tgt := 48) hx hb dX1_certain_34 (by decide) (fun c_3 => ?_) (fun c_3 => ?_)
          · have hz : cnO S h b = 0 := by simp [cnO, ← cb_at S (h := h) (show b < 10 by omega), c_3]
            have hz2 : cnT S h y.toInt b = false := by simp [cnT, ← cb_at S (h := h) (show b < 10 by omega), c_3]
            refine lv_iinc (v := (nI (b + 1))) (lv' := [(4, .int (nI (b + 1))), (3, .int (nI k)), (0, .ref (ad 0)), (1, .int (nI h)), (2, .int y)]) hx hb dX1_certain_48 hl (k := 0) rfl (nI_add b 1) (by decide) rfl (fun ls hl => ?_)
            refine lv_goto (tgt := 16) hx hb dX1_certain_51 (by decide) ?_
            exact ih_16 (b + 1) k (by omega) (by simp only [sm, hz]; omega) (by omega) (lt_s hno hz2) (by omega) ls (lv_sub hl [0, 1, 2, 3, 4] rfl)
          · have hz : cnO S h b = 1 := by simp [cnO, ← cb_at S (h := h) (show b < 10 by omega), c_3]
            refine lv_iload_n hx hb dX1_certain_37 rfl (lv_at hl 1 rfl) ?_
            refine lv_iload_n hx hb dX1_certain_38 rfl (lv_at hl 4 rfl) ?_
            refine f_ine (tgt := 45) hx hb (nI_toInt (by omega)) (rfl) dX1_certain_39 (by decide) (fun c_4 => ?_) (fun c_4 => ?_)
            · have hz2 : cnT S h y.toInt b = false := by
                have e : ¬ ((sm b (cnO S h) : Nat) : Int) = y.toInt := by omega
                simp [cnT, e]
              refine lv_iinc (v := (nI (k + 1))) (lv' := [(3, .int (nI (k + 1))), (4, .int (nI b)), (0, .ref (ad 0)), (1, .int (nI h)), (2, .int y)]) hx hb dX1_certain_45 hl (k := 1) rfl (nI_add k 1) (by decide) rfl (fun ls hl => ?_)
              refine lv_iinc (v := (nI (b + 1))) (lv' := [(4, .int (nI (b + 1))), (3, .int (nI (k + 1))), (0, .ref (ad 0)), (1, .int (nI h)), (2, .int y)]) hx hb dX1_certain_48 hl (k := 1) rfl (nI_add b 1) (by decide) rfl (fun ls hl => ?_)
              refine lv_goto (tgt := 16) hx hb dX1_certain_51 (by decide) ?_
              exact ih_16 (b + 1) (k + 1) (by omega) (by simp only [sm, hz]; omega) (by omega) (lt_s hno hz2) (by omega) ls (lv_sub hl [0, 1, 2, 3, 4] rfl)
            · refine lv_iload hx hb dX1_certain_42 (lv_at hl 0 rfl) ?_
              exact f_ri hx hb hr hlocks (by have e : ((sm b (cnO S h) : Nat) : Int) = y.toInt := (by omega); have e2 := fi_at (n := 10) hno (by simp [cnT, e, ← cb_at S (h := h) (show b < 10 by omega), c_1, c_3]) (by omega); simp only [cnF, ht, e2]; rw [c_1, if_neg (by decide), if_pos (by omega)]) dX1_certain_44
    exact loop_16 (10 - 1 + 1) 1 0 (Nat.lt_succ_self _) (by simp [sm, cnO, ctF]) (by decide) (fun i hi => (by have e : i = 0 := (by omega); subst e; simp [cnT, ctF])) (by decide) ls (lv_sub hl [0, 1, 2, 3, 4] rfl)
  · refine lv_bipush (v := (-102)) hx hb dX1_certain_8 (by decide) ?_
    exact f_ri hx hb hr hlocks (by simp [cnF, c_1]) dX1_certain_10

abbrev rm_X1_breaks : Room := { frames := 6, cells := 0, slots := 0, locals := 141 }
set_option maxHeartbeats 4000000 in
set_option maxRecDepth 100000 in
theorem c_X1_breaks (l : Launch) (dC : Nat → ClassId) (dI : Nat → Nat → Nat) (ad : Nat → Nat) (cy : Nat → ClassId) (S : St) (x : Int32) (y : Int32) (I : Inv S) : RoI l yX1_breaks wsX1_breaks rm_X1_breaks [.ref (ad 0), .int x, .int y] (xB dC dI ad cy S) (bsF S x y) := by
  refine Ro_start (cc := cX1_breaks) (maxL := 5) (ret := (some .int)) (lv := [(0, .ref (ad 0)), (1, .int x), (2, .int y)]) (by decide) rfl (Nat.le_of_ble_eq_true rfl) rfl ?_
  intro pp ee ss mm aa bl me co hx hb hr hml hts hown hlocks hnm hB ls hl
  obtain ⟨hP, hK⟩ := hB
  have hin : ∀ w ∈ wsX10, w ∈ wsX1_breaks := fun w h => List.mem_cons_of_mem _ (List.mem_append_right _ h)
  have hf_44 := hts (.fieldLink RX1 44 "FaultEvidence" "votes" "[I") (by decide +kernel)
  have hf_48 := hts (.fieldLink RX1 48 "FaultEvidence" "voteCount" "I") (by decide +kernel)
  have I1 := I.n
  refine lv_aload_n hx hb dX1_breaks_0 rfl (lv_at hl 0 rfl) ?_
  refine lv_iload_n hx hb dX1_breaks_1 rfl (lv_at hl 1 rfl) ?_
  refine f_cVi (As := [.int x]) (rest := []) ⟨hx, hb, hml, hown, hts⟩ (c_X1_hasBegun l dC dI ad cy S x I) (cwV 1 hts gX1_breaks_X1_hasBegun rfl rfl rfl (by decide +kernel) ⟨Nat.le_of_ble_eq_true rfl, Nat.le_of_ble_eq_true rfl⟩) roB_bl (va_recv hK hP (ci := 2) (q0 := 0) rfl rfl) (roB_at hP hK) rfl hl.1 rfl (Nat.le_of_ble_eq_true rfl) dX1_breaks_2 ⟨Nat.zero_le _, Nat.zero_le _⟩ ?_
  refine f_beq (tgt := 15) hx hb dX1_breaks_5 (by decide) (fun c_1 => ?_) (fun c_1 => ?_)
  · refine lv_bipush (v := (-102)) hx hb dX1_breaks_15 (by decide) ?_
    exact f_ri hx hb hr hlocks (by simp [bsF, c_1]) dX1_breaks_17
  · refine lv_iload_n hx hb dX1_breaks_8 rfl (lv_at hl 2 rfl) ?_
    refine f_cSi (As := [.int y]) (rest := []) ⟨hx, hb, hml, hown, hts⟩ (c_X1_isKind l y) (va_cwS 1 hts gX1_breaks_X1_isKind rfl rfl rfl (by decide +kernel) ⟨Nat.le_of_ble_eq_true rfl, Nat.le_of_ble_eq_true rfl⟩) noB_bl noB_at rfl hl.1 rfl (Nat.le_of_ble_eq_true rfl) dX1_breaks_9 ⟨Nat.zero_le _, Nat.zero_le _⟩ ?_
    refine f_bne (tgt := 18) hx hb dX1_breaks_12 (by decide) (fun c_2 => ?_) (fun c_2 => ?_)
    · obtain ⟨h, h1, h2, rfl⟩ := bg_of c_1
      obtain ⟨q, hq, rfl⟩ := kd_of c_2
      have ht := tn_nI (n := h) (by omega)
      have hu := tn_nI (n := q) (by omega)
      refine lv_iconst (v := (nI 0)) hx hb dX1_breaks_18 (by decide) ?_
      refine lv_istore_n (lv' := [(3, .int (nI 0)), (0, .ref (ad 0)), (1, .int (nI h)), (2, .int (nI q))]) hx hb dX1_breaks_19 rfl hl (by decide) rfl (fun ls hl => ?_)
      refine lv_iconst (v := (nI 0)) hx hb dX1_breaks_20 (by decide) ?_
      refine lv_istore (lv' := [(4, .int (nI 0)), (3, .int (nI 0)), (0, .ref (ad 0)), (1, .int (nI h)), (2, .int (nI q))]) hx hb dX1_breaks_21 hl (by decide) rfl (fun ls hl => ?_)
      have loop_23 : ∀ (n : Nat) (a : Nat) (k : Nat), sVn S - a < n → k = sm a (bsT S h q) → a ≤ sVn S → ∀ ls : Array Slot, lv_has ls 5 [(4, .int (nI a)), (3, .int (nI k)), (0, .ref (ad 0)), (1, .int (nI h)), (2, .int (nI q))] → W pp l ee rm_X1_breaks ss mm aa bl me co ss.heap [] 0 0 (MQ bl (vp_Si (fun z_ => z_ = bsF S (nI h) (nI q))) aa ss 0 0 (fun _ => False)) (F0 mm 23 ls []) := by
        intro n
        induction n with
        | zero => intro a k hm; exact absurd hm (Nat.not_lt_zero _)
        | succ n ih_23 =>
          intro a k hm hk han ls hl
          refine lv_iload hx hb dX1_breaks_23 (lv_at hl 0 rfl) ?_
          refine lv_aload_n hx hb dX1_breaks_25 rfl (lv_at hl 2 rfl) ?_
          refine va_get (D := (dC, dI)) (ci := 2) (v := .int (nI (sVn S))) (C := RX1) (T := TX1) (N := 14) hx hb hts hin hown hK hP 0 rfl rfl 9 (by decide) hf_48 (fun _ h9 => h9) rfl dX1_breaks_26 ?_
          refine f_ige (tgt := 62) hx hb (nI_toInt (by omega)) (nI_toInt (by omega)) dX1_breaks_29 (by decide) (fun c_3 => ?_) (fun c_3 => ?_)
          · refine lv_iload_n hx hb dX1_breaks_62 rfl (lv_at hl 1 rfl) ?_
            exact f_ri hx hb hr hlocks (by have e : a = sVn S := (by omega); simp only [bsF, ht, hu]; rw [c_1, c_2, if_neg (by decide), hk, e]) dX1_breaks_63
          · have hv := I.v (v := a) (by omega)
            refine lv_aload_n hx hb dX1_breaks_32 rfl (lv_at hl 2 rfl) ?_
            refine va_get (D := (dC, dI)) (ci := 2) (v := .ref (ad 7)) (C := RX1) (T := TX1) (N := 14) hx hb hts hin hown hK hP 0 rfl rfl 8 (by decide) hf_44 (fun _ h9 => h9) rfl dX1_breaks_33 ?_
            refine lv_iload hx hb dX1_breaks_36 (lv_at hl 0 rfl) ?_
            refine f_iald hx hb hK hP 7 6 rfl rfl (k := a) (by omega) (by decide) (v := (nI (sVts S a))) rfl dX1_breaks_38 ?_
            refine f_cSi (As := [.int (nI (sVts S a))]) (rest := []) ⟨hx, hb, hml, hown, hts⟩ (c_X1_heightOf l (sVts S a) (by omega)) (va_cwS 1 hts gX1_breaks_X1_heightOf rfl rfl rfl (by decide +kernel) ⟨Nat.le_of_ble_eq_true rfl, Nat.le_of_ble_eq_true rfl⟩) noB_bl noB_at rfl hl.1 rfl (Nat.le_of_ble_eq_true rfl) dX1_breaks_39 ⟨Nat.zero_le _, Nat.zero_le _⟩ ?_
            refine lv_iload_n hx hb dX1_breaks_42 rfl (lv_at hl 3 rfl) ?_
            refine f_ine (tgt := 56) hx hb (nI_toInt (by omega)) (nI_toInt (by omega)) dX1_breaks_43 (by decide) (fun c_4 => ?_) (fun c_4 => ?_)
            · refine lv_iinc (v := (nI (a + 1))) (lv' := [(4, .int (nI (a + 1))), (3, .int (nI k)), (0, .ref (ad 0)), (1, .int (nI h)), (2, .int (nI q))]) hx hb dX1_breaks_56 hl (k := 0) rfl (nI_add a 1) (by decide) rfl (fun ls hl => ?_)
              refine lv_goto (tgt := 23) hx hb dX1_breaks_59 (by decide) ?_
              exact ih_23 (a + 1) k (by omega) (by rw [sm, ← hk]; unfold bsT; split <;> omega) (by omega) ls (lv_sub hl [0, 1, 2, 3, 4] rfl)
            · refine lv_iload_n hx hb dX1_breaks_46 rfl (lv_at hl 1 rfl) ?_
              refine lv_aload_n hx hb dX1_breaks_47 rfl (lv_at hl 2 rfl) ?_
              refine lv_iload_n hx hb dX1_breaks_48 rfl (lv_at hl 4 rfl) ?_
              refine lv_iload hx hb dX1_breaks_49 (lv_at hl 0 rfl) ?_
              refine f_cVi (As := [.int (nI q), .int (nI a)]) (rest := [.int (nI k)]) ⟨hx, hb, hml, hown, hts⟩ (c_X1_countBreaksFrom l dC dI ad cy S q a I (by omega) (by omega)) (cwV 2 hts gX1_breaks_X1_countBreaksFrom rfl rfl rfl (by decide +kernel) ⟨Nat.le_of_ble_eq_true rfl, Nat.le_of_ble_eq_true rfl⟩) roB_bl (va_recv hK hP (ci := 2) (q0 := 0) rfl rfl) (roB_at hP hK) rfl hl.1 rfl (Nat.le_of_ble_eq_true rfl) dX1_breaks_51 ⟨Nat.zero_le _, Nat.zero_le _⟩ ?_
              refine lv_iadd hx hb dX1_breaks_54 ?_
              refine f_ti (y := (nI (k + (cfF S q a)))) (nI_add _ _) ?_
              refine lv_istore_n (lv' := [(3, .int (nI (k + (cfF S q a)))), (4, .int (nI a)), (0, .ref (ad 0)), (1, .int (nI h)), (2, .int (nI q))]) hx hb dX1_breaks_55 rfl hl (by decide) rfl (fun ls hl => ?_)
              refine lv_iinc (v := (nI (a + 1))) (lv' := [(4, .int (nI (a + 1))), (3, .int (nI (k + (cfF S q a)))), (0, .ref (ad 0)), (1, .int (nI h)), (2, .int (nI q))]) hx hb dX1_breaks_56 hl (k := 1) rfl (nI_add a 1) (by decide) rfl (fun ls hl => ?_)
              refine lv_goto (tgt := 23) hx hb dX1_breaks_59 (by decide) ?_
              exact ih_23 (a + 1) (k + (cfF S q a)) (by omega) (by rw [sm, ← hk]; unfold bsT; split <;> omega) (by omega) ls (lv_sub hl [0, 1, 2, 3, 4] rfl)
      exact loop_23 (sVn S - 0 + 1) 0 0 (Nat.lt_succ_self _) (rfl) (Nat.zero_le _) ls (lv_sub hl [0, 1, 2, 3, 4] rfl)
    · refine lv_bipush (v := (-102)) hx hb dX1_breaks_15 (by decide) ?_
      exact f_ri hx hb hr hlocks (by simp [bsF, c_1, c_2]) dX1_breaks_17

abbrev rm_X1_broken : Room := { frames := 6, cells := 0, slots := 0, locals := 141 }
set_option maxHeartbeats 4000000 in
set_option maxRecDepth 100000 in
theorem c_X1_broken (l : Launch) (dC : Nat → ClassId) (dI : Nat → Nat → Nat) (ad : Nat → Nat) (cy : Nat → ClassId) (S : St) (x : Int32) (y : Int32) (z : Int32) (u : Int32) (I : Inv S) : RoI l yX1_broken wsX1_broken rm_X1_broken [.ref (ad 0), .int x, .int y, .int z, .int u] (xB dC dI ad cy S) (bnF S x y z u) := by
  refine Ro_start (cc := cX1_broken) (maxL := 8) (ret := (some .int)) (lv := [(0, .ref (ad 0)), (1, .int x), (2, .int y), (3, .int z), (4, .int u)]) (by decide) rfl (Nat.le_of_ble_eq_true rfl) rfl ?_
  intro pp ee ss mm aa bl me co hx hb hr hml hts hown hlocks hnm hB ls hl
  obtain ⟨hP, hK⟩ := hB
  have hin : ∀ w ∈ wsX10, w ∈ wsX1_broken := fun w h => List.mem_cons_of_mem _ (List.mem_append_right _ h)
  have hf_44 := hts (.fieldLink RX1 44 "FaultEvidence" "votes" "[I") (by decide +kernel)
  have hf_48 := hts (.fieldLink RX1 48 "FaultEvidence" "voteCount" "I") (by decide +kernel)
  have I1 := I.n
  refine lv_aload_n hx hb dX1_broken_0 rfl (lv_at hl 0 rfl) ?_
  refine lv_iload_n hx hb dX1_broken_1 rfl (lv_at hl 1 rfl) ?_
  refine f_cVi (As := [.int x]) (rest := []) ⟨hx, hb, hml, hown, hts⟩ (c_X1_hasBegun l dC dI ad cy S x I) (cwV 1 hts gX1_broken_X1_hasBegun rfl rfl rfl (by decide +kernel) ⟨Nat.le_of_ble_eq_true rfl, Nat.le_of_ble_eq_true rfl⟩) roB_bl (va_recv hK hP (ci := 2) (q0 := 0) rfl rfl) (roB_at hP hK) rfl hl.1 rfl (Nat.le_of_ble_eq_true rfl) dX1_broken_2 ⟨Nat.zero_le _, Nat.zero_le _⟩ ?_
  refine f_beq (tgt := 26) hx hb dX1_broken_5 (by decide) (fun c_1 => ?_) (fun c_1 => ?_)
  · refine lv_bipush (v := (-102)) hx hb dX1_broken_26 (by decide) ?_
    exact f_ri hx hb hr hlocks (by simp [bnF, c_1]; try omega) dX1_broken_28
  · refine lv_iload_n hx hb dX1_broken_8 rfl (lv_at hl 2 rfl) ?_
    refine f_cSi (As := [.int y]) (rest := []) ⟨hx, hb, hml, hown, hts⟩ (c_X1_isKind l y) (va_cwS 1 hts gX1_broken_X1_isKind rfl rfl rfl (by decide +kernel) ⟨Nat.le_of_ble_eq_true rfl, Nat.le_of_ble_eq_true rfl⟩) noB_bl noB_at rfl hl.1 rfl (Nat.le_of_ble_eq_true rfl) dX1_broken_9 ⟨Nat.zero_le _, Nat.zero_le _⟩ ?_
    refine f_beq (tgt := 26) hx hb dX1_broken_12 (by decide) (fun c_2 => ?_) (fun c_2 => ?_)
    · refine lv_bipush (v := (-102)) hx hb dX1_broken_26 (by decide) ?_
      exact f_ri hx hb hr hlocks (by simp [bnF, c_1, c_2]; try omega) dX1_broken_28
    · refine lv_iload hx hb dX1_broken_15 (lv_at hl 4 rfl) ?_
      refine f_0lt (tgt := 26) hx hb (rfl) dX1_broken_17 (by decide) (fun c_3 => ?_) (fun c_3 => ?_)
      · refine lv_bipush (v := (-102)) hx hb dX1_broken_26 (by decide) ?_
        exact f_ri hx hb hr hlocks (by simp [bnF, c_1, c_2]; try omega) dX1_broken_28
      · refine lv_iload hx hb dX1_broken_20 (lv_at hl 4 rfl) ?_
        refine lv_iconst (v := (nI 1)) hx hb dX1_broken_22 (by decide) ?_
        refine f_ile (tgt := 29) hx hb (rfl) (nI_toInt (by omega)) dX1_broken_23 (by decide) (fun c_4 => ?_) (fun c_4 => ?_)
        · obtain ⟨h, h1, h2, rfl⟩ := bg_of c_1
          obtain ⟨q, hq, rfl⟩ := kd_of c_2
          have ht := tn_nI (n := h) (by omega)
          have hu := tn_nI (n := q) (by omega)
          refine lv_iload_n hx hb dX1_broken_29 rfl (lv_at hl 3 rfl) ?_
          refine f_0ge (tgt := 35) hx hb (rfl) dX1_broken_30 (by decide) (fun c_5 => ?_) (fun c_5 => ?_)
          · obtain ⟨i, hi, rfl⟩ := in_nI (n := 2147483648) (x := z) (by omega) (by have := z.toInt_lt; omega)
            have hzt := tn_nI (n := i) (by omega)
            have hzi := nI_toInt (n := i) (by omega)
            refine lv_iload_n hx hb dX1_broken_35 rfl (lv_at hl 3 rfl) ?_
            refine lv_istore (lv' := [(5, .int (nI i)), (0, .ref (ad 0)), (1, .int (nI h)), (2, .int (nI q)), (3, .int (nI i)), (4, .int u)]) hx hb dX1_broken_36 hl (by decide) rfl (fun ls hl => ?_)
            refine lv_iconst (v := (nI 0)) hx hb dX1_broken_38 (by decide) ?_
            refine lv_istore (lv' := [(6, .int (nI 0)), (5, .int (nI i)), (0, .ref (ad 0)), (1, .int (nI h)), (2, .int (nI q)), (3, .int (nI i)), (4, .int u)]) hx hb dX1_broken_39 hl (by decide) rfl (fun ls hl => ?_)
            have loop_41 : ∀ (n : Nat) (a : Nat) (k : Nat), sVn S - a < n → k + sm a (bsT S h q) = i → a ≤ sVn S → (∀ j, j < a → bnT S h q i j = false) → ∀ ls : Array Slot, lv_has ls 8 [(6, .int (nI a)), (5, .int (nI k)), (0, .ref (ad 0)), (1, .int (nI h)), (2, .int (nI q)), (3, .int (nI i)), (4, .int u)] → W pp l ee rm_X1_broken ss mm aa bl me co ss.heap [] 0 0 (MQ bl (vp_Si (fun z_ => z_ = bnF S (nI h) (nI q) (nI i) u)) aa ss 0 0 (fun _ => False)) (F0 mm 41 ls []) := by
              intro n
              induction n with
              | zero => intro a k hm; exact absurd hm (Nat.not_lt_zero _)
              | succ n ih_41 =>
                intro a k hm hk han hno ls hl
                refine lv_iload hx hb dX1_broken_41 (lv_at hl 0 rfl) ?_
                refine lv_aload_n hx hb dX1_broken_43 rfl (lv_at hl 2 rfl) ?_
                refine va_get (D := (dC, dI)) (ci := 2) (v := .int (nI (sVn S))) (C := RX1) (T := TX1) (N := 14) hx hb hts hin hown hK hP 0 rfl rfl 9 (by decide) hf_48 (fun _ h9 => h9) rfl dX1_broken_44 ?_
                refine f_ige (tgt := 113) hx hb (nI_toInt (by omega)) (nI_toInt (by omega)) dX1_broken_47 (by decide) (fun c_6 => ?_) (fun c_6 => ?_)
                · refine lv_iconst (v := (-1)) hx hb dX1_broken_113 (by decide) ?_
                  exact f_ri hx hb hr hlocks (by have e2 := fi_no (n := sVn S) (fun j hj => hno j (by omega)); have e3 : bnA S h q i = sVn S := e2; simp only [bnF, ht, hu, hzt, e3]; rw [c_1, c_2, if_neg (by simp; omega), if_neg (by omega), if_neg (by omega)]) dX1_broken_114
                · have hv := I.v (v := a) (by omega)
                  refine lv_aload_n hx hb dX1_broken_50 rfl (lv_at hl 2 rfl) ?_
                  refine va_get (D := (dC, dI)) (ci := 2) (v := .ref (ad 7)) (C := RX1) (T := TX1) (N := 14) hx hb hts hin hown hK hP 0 rfl rfl 8 (by decide) hf_44 (fun _ h9 => h9) rfl dX1_broken_51 ?_
                  refine lv_iload hx hb dX1_broken_54 (lv_at hl 0 rfl) ?_
                  refine f_iald hx hb hK hP 7 6 rfl rfl (k := a) (by omega) (by decide) (v := (nI (sVts S a))) rfl dX1_broken_56 ?_
                  refine f_cSi (As := [.int (nI (sVts S a))]) (rest := []) ⟨hx, hb, hml, hown, hts⟩ (c_X1_heightOf l (sVts S a) (by omega)) (va_cwS 1 hts gX1_broken_X1_heightOf rfl rfl rfl (by decide +kernel) ⟨Nat.le_of_ble_eq_true rfl, Nat.le_of_ble_eq_true rfl⟩) noB_bl noB_at rfl hl.1 rfl (Nat.le_of_ble_eq_true rfl) dX1_broken_57 ⟨Nat.zero_le _, Nat.zero_le _⟩ ?_
                  refine lv_iload_n hx hb dX1_broken_60 rfl (lv_at hl 3 rfl) ?_
                  refine f_ine (tgt := 107) hx hb (nI_toInt (by omega)) (nI_toInt (by omega)) dX1_broken_61 (by decide) (fun c_7 => ?_) (fun c_7 => ?_)
                  · have hz : bsT S h q a = 0 := by unfold bsT; rw [if_neg]; omega
                    have hz2 : bnT S h q i a = false := by
                      have e : ¬ i < sm a (bsT S h q) + bsT S h q a := by omega
                      simp [bnT, e]
                    refine lv_iinc (v := (nI (a + 1))) (lv' := [(6, .int (nI (a + 1))), (5, .int (nI k)), (0, .ref (ad 0)), (1, .int (nI h)), (2, .int (nI q)), (3, .int (nI i)), (4, .int u)]) hx hb dX1_broken_107 hl (k := 0) rfl (nI_add a 1) (by decide) rfl (fun ls hl => ?_)
                    refine lv_goto (tgt := 41) hx hb dX1_broken_110 (by decide) ?_
                    exact ih_41 (a + 1) k (by omega) (by simp only [sm, hz]; omega) (by omega) (lt_s hno hz2) ls (lv_sub hl [0, 1, 2, 3, 4, 5, 6] rfl)
                  · have hz : bsT S h q a = cfF S q a := by unfold bsT; rw [if_pos]; omega
                    have hcf := cfF_le I q a
                    refine lv_aload_n hx hb dX1_broken_64 rfl (lv_at hl 2 rfl) ?_
                    refine lv_iload_n hx hb dX1_broken_65 rfl (lv_at hl 4 rfl) ?_
                    refine lv_iload hx hb dX1_broken_66 (lv_at hl 0 rfl) ?_
                    refine f_cVi (As := [.int (nI q), .int (nI a)]) (rest := []) ⟨hx, hb, hml, hown, hts⟩ (c_X1_countBreaksFrom l dC dI ad cy S q a I (by omega) (by omega)) (cwV 2 hts gX1_broken_X1_countBreaksFrom rfl rfl rfl (by decide +kernel) ⟨Nat.le_of_ble_eq_true rfl, Nat.le_of_ble_eq_true rfl⟩) roB_bl (va_recv hK hP (ci := 2) (q0 := 0) rfl rfl) (roB_at hP hK) rfl hl.1 rfl (Nat.le_of_ble_eq_true rfl) dX1_broken_68 ⟨Nat.zero_le _, Nat.zero_le _⟩ ?_
                    refine lv_istore (lv' := [(7, .int (nI (cfF S q a))), (6, .int (nI a)), (5, .int (nI k)), (0, .ref (ad 0)), (1, .int (nI h)), (2, .int (nI q)), (3, .int (nI i)), (4, .int u)]) hx hb dX1_broken_71 hl (by decide) rfl (fun ls hl => ?_)
                    refine lv_iload hx hb dX1_broken_73 (lv_at hl 2 rfl) ?_
                    refine lv_iload hx hb dX1_broken_75 (lv_at hl 0 rfl) ?_
                    refine f_ige (tgt := 100) hx hb (nI_toInt (by omega)) (nI_toInt (by omega)) dX1_broken_77 (by decide) (fun c_8 => ?_) (fun c_8 => ?_)
                    · refine lv_iload hx hb dX1_broken_100 (lv_at hl 2 rfl) ?_
                      refine lv_iload hx hb dX1_broken_102 (lv_at hl 0 rfl) ?_
                      refine lv_isub hx hb dX1_broken_104 ?_
                      refine f_ti (y := (nI (k - cfF S q a))) (pk_sub (by omega)) ?_
                      refine lv_istore (lv' := [(5, .int (nI (k - cfF S q a))), (7, .int (nI (cfF S q a))), (6, .int (nI a)), (0, .ref (ad 0)), (1, .int (nI h)), (2, .int (nI q)), (3, .int (nI i)), (4, .int u)]) hx hb dX1_broken_105 hl (by decide) rfl (fun ls hl => ?_)
                      have hz2 : bnT S h q i a = false := by
                        have e : ¬ i < sm a (bsT S h q) + bsT S h q a := by omega
                        simp [bnT, e]
                      refine lv_iinc (v := (nI (a + 1))) (lv' := [(6, .int (nI (a + 1))), (5, .int (nI (k - cfF S q a))), (7, .int (nI (cfF S q a))), (0, .ref (ad 0)), (1, .int (nI h)), (2, .int (nI q)), (3, .int (nI i)), (4, .int u)]) hx hb dX1_broken_107 hl (k := 2) rfl (nI_add a 1) (by decide) rfl (fun ls hl => ?_)
                      refine lv_goto (tgt := 41) hx hb dX1_broken_110 (by decide) ?_
                      exact ih_41 (a + 1) (k - cfF S q a) (by omega) (by simp only [sm, hz]; omega) (by omega) (lt_s hno hz2) ls (lv_sub hl [0, 1, 3, 4, 5, 6, 7] rfl)
                    · refine lv_iload hx hb dX1_broken_80 (lv_at hl 7 rfl) ?_
                      refine f_0ne (tgt := 90) hx hb (rfl) dX1_broken_82 (by decide) (fun c_9 => ?_) (fun c_9 => ?_)
                      · refine lv_aload_n hx hb dX1_broken_90 rfl (lv_at hl 3 rfl) ?_
                        refine lv_iload_n hx hb dX1_broken_91 rfl (lv_at hl 5 rfl) ?_
                        refine lv_iload hx hb dX1_broken_92 (lv_at hl 1 rfl) ?_
                        refine lv_iload hx hb dX1_broken_94 (lv_at hl 2 rfl) ?_
                        refine f_cVi (As := [.int (nI q), .int (nI a), .int (nI k)]) (rest := []) ⟨hx, hb, hml, hown, hts⟩ (c_X1_partner l dC dI ad cy S q a k I (by omega) (by omega) (by omega)) (cwV 3 hts gX1_broken_X1_partner rfl rfl rfl (by decide +kernel) ⟨Nat.le_of_ble_eq_true rfl, Nat.le_of_ble_eq_true rfl⟩) roB_bl (va_recv hK hP (ci := 2) (q0 := 0) rfl rfl) (roB_at hP hK) rfl hl.1 rfl (Nat.le_of_ble_eq_true rfl) dX1_broken_96 ⟨Nat.zero_le _, Nat.zero_le _⟩ ?_
                        exact f_ri hx hb hr hlocks (by have e2 := fi_at (n := sVn S) hno (by simp [bnT]; omega) (by omega); have e3 : bnA S h q i = a := e2; simp only [bnF, ht, hu, hzt, e3]; rw [c_1, c_2, if_neg (by simp; omega), if_neg (by omega), if_pos (by omega)]; first | (rw [if_pos (by omega)]; done) | (rw [if_neg (by omega)]; congr 1; omega)) dX1_broken_99
                      · refine lv_iload hx hb dX1_broken_85 (lv_at hl 1 rfl) ?_
                        refine lv_goto (tgt := 99) hx hb dX1_broken_87 (by decide) ?_
                        exact f_ri hx hb hr hlocks (by have e2 := fi_at (n := sVn S) hno (by simp [bnT]; omega) (by omega); have e3 : bnA S h q i = a := e2; simp only [bnF, ht, hu, hzt, e3]; rw [c_1, c_2, if_neg (by simp; omega), if_neg (by omega), if_pos (by omega)]; first | (rw [if_pos (by omega)]; done) | (rw [if_neg (by omega)]; congr 1; omega)) dX1_broken_99
            exact loop_41 (sVn S - 0 + 1) 0 i (Nat.lt_succ_self _) (rfl) (Nat.zero_le _) (fun j hj => absurd hj (Nat.not_lt_zero _)) ls (lv_sub hl [0, 1, 2, 3, 4, 5, 6] rfl)
          · refine lv_iconst (v := (-1)) hx hb dX1_broken_33 (by decide) ?_
            exact f_ri hx hb hr hlocks (by simp only [bnF, ht, hu]; rw [c_1, c_2, if_neg (by simp; omega), if_pos (by omega)]) dX1_broken_34
        · refine lv_bipush (v := (-102)) hx hb dX1_broken_26 (by decide) ?_
          exact f_ri hx hb hr hlocks (by simp [bnF, c_1, c_2]; try omega) dX1_broken_28

abbrev rm_X1_named : Room := { frames := 6, cells := 0, slots := 0, locals := 137 }
set_option maxHeartbeats 4000000 in
set_option maxRecDepth 100000 in
theorem c_X1_named (l : Launch) (dC : Nat → ClassId) (dI : Nat → Nat → Nat) (ad : Nat → Nat) (cy : Nat → ClassId) (S : St) (x : Int32) (I : Inv S) : RoI l yX1_named wsX1_named rm_X1_named [.ref (ad 0), .int x] (xB dC dI ad cy S) (nmF S x) := by
  refine Ro_start (cc := cX1_named) (maxL := 5) (ret := (some .int)) (lv := [(0, .ref (ad 0)), (1, .int x)]) (by decide) rfl (Nat.le_of_ble_eq_true rfl) rfl ?_
  intro pp ee ss mm aa bl me co hx hb hr hml hts hown hlocks hnm hB ls hl
  obtain ⟨hP, hK⟩ := hB
  have hin : ∀ w ∈ wsX10, w ∈ wsX1_named := fun w h => List.mem_cons_of_mem _ (List.mem_append_right _ h)
  have hf_44 := hts (.fieldLink RX1 44 "FaultEvidence" "votes" "[I") (by decide +kernel)
  have hf_48 := hts (.fieldLink RX1 48 "FaultEvidence" "voteCount" "I") (by decide +kernel)
  have I1 := I.n
  refine lv_aload_n hx hb dX1_named_0 rfl (lv_at hl 0 rfl) ?_
  refine lv_iload_n hx hb dX1_named_1 rfl (lv_at hl 1 rfl) ?_
  refine f_cVi (As := [.int x]) (rest := []) ⟨hx, hb, hml, hown, hts⟩ (c_X1_hasBegun l dC dI ad cy S x I) (cwV 1 hts gX1_named_X1_hasBegun rfl rfl rfl (by decide +kernel) ⟨Nat.le_of_ble_eq_true rfl, Nat.le_of_ble_eq_true rfl⟩) roB_bl (va_recv hK hP (ci := 2) (q0 := 0) rfl rfl) (roB_at hP hK) rfl hl.1 rfl (Nat.le_of_ble_eq_true rfl) dX1_named_2 ⟨Nat.zero_le _, Nat.zero_le _⟩ ?_
  refine f_bne (tgt := 11) hx hb dX1_named_5 (by decide) (fun c_1 => ?_) (fun c_1 => ?_)
  · obtain ⟨h, h1, h2, rfl⟩ := bg_of c_1
    have ht := tn_nI (n := h) (by omega)
    refine lv_iconst (v := (nI 0)) hx hb dX1_named_11 (by decide) ?_
    refine lv_istore_n (lv' := [(2, .int (nI 0)), (0, .ref (ad 0)), (1, .int (nI h))]) hx hb dX1_named_12 rfl hl (by decide) rfl (fun ls hl => ?_)
    refine lv_iconst (v := (nI 0)) hx hb dX1_named_13 (by decide) ?_
    refine lv_istore_n (lv' := [(3, .int (nI 0)), (2, .int (nI 0)), (0, .ref (ad 0)), (1, .int (nI h))]) hx hb dX1_named_14 rfl hl (by decide) rfl (fun ls hl => ?_)
    have loop_15 : ∀ (n : Nat) (a : Nat) (M : Nat), sVn S - a < n → M = bitS 8 (fun k => ex a (nmT S h k)) → a ≤ sVn S → ∀ ls : Array Slot, lv_has ls 5 [(3, .int (nI a)), (2, .int (nI M)), (0, .ref (ad 0)), (1, .int (nI h))] → W pp l ee rm_X1_named ss mm aa bl me co ss.heap [] 0 0 (MQ bl (vp_Si (fun z_ => z_ = nmF S (nI h))) aa ss 0 0 (fun _ => False)) (F0 mm 15 ls []) := by
      intro n
      induction n with
      | zero => intro a M hm; exact absurd hm (Nat.not_lt_zero _)
      | succ n ih_15 =>
        intro a M hm hM han ls hl
        refine lv_iload_n hx hb dX1_named_15 rfl (lv_at hl 0 rfl) ?_
        refine lv_aload_n hx hb dX1_named_16 rfl (lv_at hl 2 rfl) ?_
        refine va_get (D := (dC, dI)) (ci := 2) (v := .int (nI (sVn S))) (C := RX1) (T := TX1) (N := 14) hx hb hts hin hown hK hP 0 rfl rfl 9 (by decide) hf_48 (fun _ h9 => h9) rfl dX1_named_17 ?_
        refine f_ige (tgt := 80) hx hb (nI_toInt (by omega)) (nI_toInt (by omega)) dX1_named_20 (by decide) (fun c_2 => ?_) (fun c_2 => ?_)
        · refine lv_iload_n hx hb dX1_named_80 rfl (lv_at hl 1 rfl) ?_
          exact f_ri hx hb hr hlocks (by have e : a = sVn S := (by omega); simp only [nmF, ht]; rw [c_1, if_neg (by decide), hM, e]) dX1_named_81
        · have hv := I.v (v := a) (by omega)
          have hp : 2 ^ (sVts S a / 256 % 8) < 2 ^ 8 := Nat.pow_lt_pow_right (by decide) (by omega)
          have hM2 : M < 256 := by rw [hM]; exact bitS_lt 8 _
          have hM3 : M &&& 2 ^ (sVts S a / 256 % 8) ≤ M := Nat.and_le_left
          refine lv_iconst (v := (nI 1)) hx hb dX1_named_23 (by decide) ?_
          refine lv_aload_n hx hb dX1_named_24 rfl (lv_at hl 2 rfl) ?_
          refine va_get (D := (dC, dI)) (ci := 2) (v := .ref (ad 7)) (C := RX1) (T := TX1) (N := 14) hx hb hts hin hown hK hP 0 rfl rfl 8 (by decide) hf_44 (fun _ h9 => h9) rfl dX1_named_25 ?_
          refine lv_iload_n hx hb dX1_named_28 rfl (lv_at hl 0 rfl) ?_
          refine f_iald hx hb hK hP 7 6 rfl rfl (k := a) (by omega) (by decide) (v := (nI (sVts S a))) rfl dX1_named_29 ?_
          refine f_cSi (As := [.int (nI (sVts S a))]) (rest := [.int (nI 1)]) ⟨hx, hb, hml, hown, hts⟩ (c_X1_nodeOf l (sVts S a) (by omega)) (va_cwS 1 hts gX1_named_X1_nodeOf rfl rfl rfl (by decide +kernel) ⟨Nat.le_of_ble_eq_true rfl, Nat.le_of_ble_eq_true rfl⟩) noB_bl noB_at rfl hl.1 rfl (Nat.le_of_ble_eq_true rfl) dX1_named_30 ⟨Nat.zero_le _, Nat.zero_le _⟩ ?_
          refine lv_ishl hx hb dX1_named_33 ?_
          refine f_ti (y := (nI (2 ^ (sVts S a / 256 % 8)))) (f_shl1 (by omega)) ?_
          refine lv_istore (lv' := [(4, .int (nI (2 ^ (sVts S a / 256 % 8)))), (3, .int (nI a)), (2, .int (nI M)), (0, .ref (ad 0)), (1, .int (nI h))]) hx hb dX1_named_34 hl (by decide) rfl (fun ls hl => ?_)
          refine lv_aload_n hx hb dX1_named_36 rfl (lv_at hl 3 rfl) ?_
          refine va_get (D := (dC, dI)) (ci := 2) (v := .ref (ad 7)) (C := RX1) (T := TX1) (N := 14) hx hb hts hin hown hK hP 0 rfl rfl 8 (by decide) hf_44 (fun _ h9 => h9) rfl dX1_named_37 ?_
          refine lv_iload_n hx hb dX1_named_40 rfl (lv_at hl 1 rfl) ?_
          refine f_iald hx hb hK hP 7 6 rfl rfl (k := a) (by omega) (by decide) (v := (nI (sVts S a))) rfl dX1_named_41 ?_
          refine f_cSi (As := [.int (nI (sVts S a))]) (rest := []) ⟨hx, hb, hml, hown, hts⟩ (c_X1_heightOf l (sVts S a) (by omega)) (va_cwS 1 hts gX1_named_X1_heightOf rfl rfl rfl (by decide +kernel) ⟨Nat.le_of_ble_eq_true rfl, Nat.le_of_ble_eq_true rfl⟩) noB_bl noB_at rfl hl.1 rfl (Nat.le_of_ble_eq_true rfl) dX1_named_42 ⟨Nat.zero_le _, Nat.zero_le _⟩ ?_
          refine lv_iload_n hx hb dX1_named_45 rfl (lv_at hl 4 rfl) ?_
          refine f_ine (tgt := 74) hx hb (nI_toInt (by omega)) (nI_toInt (by omega)) dX1_named_46 (by decide) (fun c_3 => ?_) (fun c_3 => ?_)
          · have hz : M = bitS 8 (fun k => ex (a + 1) (nmT S h k)) := nm_same hM (fun k _ hk => by
              simp only [nmT, Bool.and_eq_true, decide_eq_true_eq] at hk
              omega)
            refine lv_iinc (v := (nI (a + 1))) (lv' := [(3, .int (nI (a + 1))), (4, .int (nI (2 ^ (sVts S a / 256 % 8)))), (2, .int (nI M)), (0, .ref (ad 0)), (1, .int (nI h))]) hx hb dX1_named_74 hl (k := 1) rfl (nI_add a 1) (by decide) rfl (fun ls hl => ?_)
            refine lv_goto (tgt := 15) hx hb dX1_named_77 (by decide) ?_
            exact ih_15 (a + 1) M (by omega) (hz) (by omega) ls (lv_sub hl [0, 2, 3, 4] rfl)
          · refine lv_iload_n hx hb dX1_named_49 rfl (lv_at hl 2 rfl) ?_
            refine lv_iload hx hb dX1_named_50 (lv_at hl 0 rfl) ?_
            refine lv_iand hx hb dX1_named_52 ?_
            refine f_ti (y := (nI (M &&& 2 ^ (sVts S a / 256 % 8)))) (nx_and _ _) ?_
            refine f_0ne (tgt := 74) hx hb (nI_toInt (by omega)) dX1_named_53 (by decide) (fun c_4 => ?_) (fun c_4 => ?_)
            · have hz : M = bitS 8 (fun k => ex (a + 1) (nmT S h k)) := nm_same hM (fun k hk8 hk => by
                simp only [nmT, Bool.and_eq_true, decide_eq_true_eq] at hk
                have e := f_tb1 (x := M) (b := sVts S a / 256 % 8) (by omega)
                rw [hM, bitS_tb, hk.1.2] at e
                simpa [hk8] using e)
              refine lv_iinc (v := (nI (a + 1))) (lv' := [(3, .int (nI (a + 1))), (4, .int (nI (2 ^ (sVts S a / 256 % 8)))), (2, .int (nI M)), (0, .ref (ad 0)), (1, .int (nI h))]) hx hb dX1_named_74 hl (k := 1) rfl (nI_add a 1) (by decide) rfl (fun ls hl => ?_)
              refine lv_goto (tgt := 15) hx hb dX1_named_77 (by decide) ?_
              exact ih_15 (a + 1) M (by omega) (hz) (by omega) ls (lv_sub hl [0, 2, 3, 4] rfl)
            · refine lv_aload_n hx hb dX1_named_56 rfl (lv_at hl 3 rfl) ?_
              refine lv_aload_n hx hb dX1_named_57 rfl (lv_at hl 3 rfl) ?_
              refine va_get (D := (dC, dI)) (ci := 2) (v := .ref (ad 7)) (C := RX1) (T := TX1) (N := 14) hx hb hts hin hown hK hP 0 rfl rfl 8 (by decide) hf_44 (fun _ h9 => h9) rfl dX1_named_58 ?_
              refine lv_iload_n hx hb dX1_named_61 rfl (lv_at hl 1 rfl) ?_
              refine f_iald hx hb hK hP 7 6 rfl rfl (k := a) (by omega) (by decide) (v := (nI (sVts S a))) rfl dX1_named_62 ?_
              refine f_cVi (As := [.int (nI (sVts S a))]) (rest := []) ⟨hx, hb, hml, hown, hts⟩ (c_X1_makesBreak l dC dI ad cy S (sVts S a) I (by omega) (by omega)) (cwV 1 hts gX1_named_X1_makesBreak rfl rfl rfl (by decide +kernel) ⟨Nat.le_of_ble_eq_true rfl, Nat.le_of_ble_eq_true rfl⟩) roB_bl (va_recv hK hP (ci := 2) (q0 := 0) rfl rfl) (roB_at hP hK) rfl hl.1 rfl (Nat.le_of_ble_eq_true rfl) dX1_named_63 ⟨Nat.zero_le _, Nat.zero_le _⟩ ?_
              refine f_beq (tgt := 74) hx hb dX1_named_66 (by decide) (fun c_5 => ?_) (fun c_5 => ?_)
              · have hz : M = bitS 8 (fun k => ex (a + 1) (nmT S h k)) := nm_same hM (fun k _ hk => by
                  simp [nmT, c_5] at hk)
                refine lv_iinc (v := (nI (a + 1))) (lv' := [(3, .int (nI (a + 1))), (4, .int (nI (2 ^ (sVts S a / 256 % 8)))), (2, .int (nI M)), (0, .ref (ad 0)), (1, .int (nI h))]) hx hb dX1_named_74 hl (k := 1) rfl (nI_add a 1) (by decide) rfl (fun ls hl => ?_)
                refine lv_goto (tgt := 15) hx hb dX1_named_77 (by decide) ?_
                exact ih_15 (a + 1) M (by omega) (hz) (by omega) ls (lv_sub hl [0, 2, 3, 4] rfl)
              · have hz : M ||| 2 ^ (sVts S a / 256 % 8) = bitS 8 (fun k => ex (a + 1) (nmT S h k)) := nm_add hM (by omega) (fun j _ => by
                  have e : sVts S a / 2048 = h := by omega
                  simp [nmT, c_5, e])
                refine lv_iload_n hx hb dX1_named_69 rfl (lv_at hl 2 rfl) ?_
                refine lv_iload hx hb dX1_named_70 (lv_at hl 0 rfl) ?_
                refine lv_ior hx hb dX1_named_72 ?_
                refine f_ti (y := (nI (M ||| 2 ^ (sVts S a / 256 % 8)))) (nx_or _ _) ?_
                refine lv_istore_n (lv' := [(2, .int (nI (M ||| 2 ^ (sVts S a / 256 % 8)))), (4, .int (nI (2 ^ (sVts S a / 256 % 8)))), (3, .int (nI a)), (0, .ref (ad 0)), (1, .int (nI h))]) hx hb dX1_named_73 rfl hl (by decide) rfl (fun ls hl => ?_)
                refine lv_iinc (v := (nI (a + 1))) (lv' := [(3, .int (nI (a + 1))), (2, .int (nI (M ||| 2 ^ (sVts S a / 256 % 8)))), (4, .int (nI (2 ^ (sVts S a / 256 % 8)))), (0, .ref (ad 0)), (1, .int (nI h))]) hx hb dX1_named_74 hl (k := 2) rfl (nI_add a 1) (by decide) rfl (fun ls hl => ?_)
                refine lv_goto (tgt := 15) hx hb dX1_named_77 (by decide) ?_
                exact ih_15 (a + 1) (M ||| 2 ^ (sVts S a / 256 % 8)) (by omega) (hz) (by omega) ls (lv_sub hl [0, 1, 3, 4] rfl)
    exact loop_15 (sVn S - 0 + 1) 0 0 (Nat.lt_succ_self _) (rfl) (Nat.zero_le _) ls (lv_sub hl [0, 1, 2, 3] rfl)
  · refine lv_bipush (v := (-102)) hx hb dX1_named_8 (by decide) ?_
    exact f_ri hx hb hr hlocks (by simp [nmF, c_1]) dX1_named_10
