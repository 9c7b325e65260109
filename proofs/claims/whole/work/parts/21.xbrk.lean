abbrev rm_X1_isUnlocked : Room := { frames := 2, cells := 0, slots := 0, locals := 44 }
set_option maxHeartbeats 4000000 in
set_option maxRecDepth 100000 in
theorem c_X1_isUnlocked (l : Launch) (dC : Nat → ClassId) (dI : Nat → Nat → Nat) (ad : Nat → Nat) (cy : Nat → ClassId) (S : St) (h : Nat) (b : Nat) (f : Nat) (t : Nat) (I : Inv S) (hh : h ≤ 40) (hb1 : b < 10) (hf : f ≤ 8) (ht : t ≤ 8) : RoI l yX1_isUnlocked wsX1_isUnlocked rm_X1_isUnlocked [.ref (ad 0), .int (nI h), .int (nI b), .int (nI f), .int (nI t)] (xB dC dI ad cy S) (bI (ulF S h b f t)) := by
  refine Ro_start (cc := cX1_isUnlocked) (maxL := 6) (ret := (some .boolean)) (lv := [(0, .ref (ad 0)), (1, .int (nI h)), (2, .int (nI b)), (3, .int (nI f)), (4, .int (nI t))]) (by decide) rfl (Nat.le_of_ble_eq_true rfl) rfl ?_
  intro pp ee ss mm aa bl me co hx hb hr hml hts hown hlocks hnm hB ls hl
  obtain ⟨hP, hK⟩ := hB
  refine lv_iload_n hx hb dX1_isUnlocked_0 rfl (lv_at hl 3 rfl) ?_
  refine lv_istore (lv' := [(5, .int (nI f)), (0, .ref (ad 0)), (1, .int (nI h)), (2, .int (nI b)), (3, .int (nI f)), (4, .int (nI t))]) hx hb dX1_isUnlocked_1 hl (by decide) rfl (fun ls hl => ?_)
  have loop_3 : ∀ (n : Nat) (q : Nat), t - q < n → (∀ i, i < q → ulT S h b f i = false) → f ≤ q → q ≤ 8 → ∀ ls : Array Slot, lv_has ls 6 [(5, .int (nI q)), (0, .ref (ad 0)), (1, .int (nI h)), (2, .int (nI b)), (3, .int (nI f)), (4, .int (nI t))] → W pp l ee rm_X1_isUnlocked ss mm aa bl me co ss.heap [] 0 0 (MQ bl (vp_Si (fun z_ => z_ = bI (ulF S h b f t))) aa ss 0 0 (fun _ => False)) (F0 mm 3 ls []) := by
    intro n
    induction n with
    | zero => intro q hm; exact absurd hm (Nat.not_lt_zero _)
    | succ n ih_3 =>
      intro q hm hno hq hq2 ls hl
      refine lv_iload hx hb dX1_isUnlocked_3 (lv_at hl 0 rfl) ?_
      refine lv_iload hx hb dX1_isUnlocked_5 (lv_at hl 5 rfl) ?_
      refine f_ige (tgt := 29) hx hb (nI_toInt (by omega)) (nI_toInt (by omega)) dX1_isUnlocked_7 (by decide) (fun c_1 => ?_) (fun c_1 => ?_)
      · refine lv_iconst (v := (nI 0)) hx hb dX1_isUnlocked_29 (by decide) ?_
        exact f_r0 hx hb hr hlocks (ex_no (fun i hi => hno i (by omega))) dX1_isUnlocked_30
      · refine lv_aload_n hx hb dX1_isUnlocked_10 rfl (lv_at hl 1 rfl) ?_
        refine lv_iload_n hx hb dX1_isUnlocked_11 rfl (lv_at hl 2 rfl) ?_
        refine lv_iload hx hb dX1_isUnlocked_12 (lv_at hl 0 rfl) ?_
        refine lv_iload_n hx hb dX1_isUnlocked_14 rfl (lv_at hl 3 rfl) ?_
        refine f_cVi (As := [.int (nI h), .int (nI q), .int (nI b)]) (rest := []) ⟨hx, hb, hml, hown, hts⟩ (c_X1_isBacked l dC dI ad cy S h q b I (by omega) (by omega) (by omega)) (cwV 3 hts gX1_isUnlocked_X1_isBacked rfl rfl rfl (by decide +kernel) ⟨Nat.le_of_ble_eq_true rfl, Nat.le_of_ble_eq_true rfl⟩) roB_bl (va_recv hK hP (ci := 2) (q0 := 0) rfl rfl) (roB_at hP hK) rfl hl.1 rfl (Nat.le_of_ble_eq_true rfl) dX1_isUnlocked_15 ⟨Nat.zero_le _, Nat.zero_le _⟩ ?_
        refine f_beq (tgt := 23) hx hb dX1_isUnlocked_18 (by decide) (fun c_2 => ?_) (fun c_2 => ?_)
        · refine lv_iinc (v := (nI (q + 1))) (lv' := [(5, .int (nI (q + 1))), (0, .ref (ad 0)), (1, .int (nI h)), (2, .int (nI b)), (3, .int (nI f)), (4, .int (nI t))]) hx hb dX1_isUnlocked_23 hl (k := 0) rfl (nI_add q 1) (by decide) rfl (fun ls hl => ?_)
          refine lv_goto (tgt := 3) hx hb dX1_isUnlocked_26 (by decide) ?_
          exact ih_3 (q + 1) (by omega) (lt_s hno (by simp [ulT, c_2])) (by omega) (by omega) ls (lv_sub hl [0, 1, 2, 3, 4, 5] rfl)
        · refine lv_iconst (v := (nI 1)) hx hb dX1_isUnlocked_21 (by decide) ?_
          exact f_r1 hx hb hr hlocks (ex_yes q (by omega) (by simp [ulT, hq, c_2])) dX1_isUnlocked_22
  exact loop_3 (t - f + 1) f (Nat.lt_succ_self _) (fun i hi => (by have e : ¬ f ≤ i := (by omega); simp [ulT, e])) (Nat.le_refl _) (by omega) ls (lv_sub hl [0, 1, 2, 3, 4, 5] rfl)

abbrev rm_X1_isLock : Room := { frames := 3, cells := 0, slots := 0, locals := 69 }
set_option maxHeartbeats 4000000 in
set_option maxRecDepth 100000 in
theorem c_X1_isLock (l : Launch) (dC : Nat → ClassId) (dI : Nat → Nat → Nat) (ad : Nat → Nat) (cy : Nat → ClassId) (S : St) (c : Nat) (d : Nat) (I : Inv S) (hc : c < 83968) (hc1 : c % 16 < 10) (hd : d < 83968) (hd1 : d % 16 < 10) : RoI l yX1_isLock wsX1_isLock rm_X1_isLock [.ref (ad 0), .int (nI c), .int (nI d)] (xB dC dI ad cy S) (bI (lkF S c d)) := by
  refine Ro_start (cc := cX1_isLock) (maxL := 4) (ret := (some .boolean)) (lv := [(0, .ref (ad 0)), (1, .int (nI c)), (2, .int (nI d))]) (by decide) rfl (Nat.le_of_ble_eq_true rfl) rfl ?_
  intro pp ee ss mm aa bl me co hx hb hr hml hts hown hlocks hnm hB ls hl
  obtain ⟨hP, hK⟩ := hB
  refine lv_iload_n hx hb dX1_isLock_0 rfl (lv_at hl 1 rfl) ?_
  refine f_cSi (As := [.int (nI c)]) (rest := []) ⟨hx, hb, hml, hown, hts⟩ (c_X1_isLocking l c (by omega)) (va_cwS 1 hts gX1_isLock_X1_isLocking rfl rfl rfl (by decide +kernel) ⟨Nat.le_of_ble_eq_true rfl, Nat.le_of_ble_eq_true rfl⟩) noB_bl noB_at rfl hl.1 rfl (Nat.le_of_ble_eq_true rfl) dX1_isLock_1 ⟨Nat.zero_le _, Nat.zero_le _⟩ ?_
  refine f_beq (tgt := 29) hx hb dX1_isLock_4 (by decide) (fun c_1 => ?_) (fun c_1 => ?_)
  · refine lv_iconst (v := (nI 0)) hx hb dX1_isLock_29 (by decide) ?_
    exact f_r0 hx hb hr hlocks (by rw [← Bool.not_eq_true]; simp [lkF, c_1] <;> omega) dX1_isLock_30
  · refine lv_iload_n hx hb dX1_isLock_7 rfl (lv_at hl 1 rfl) ?_
    refine f_cSi (As := [.int (nI c)]) (rest := []) ⟨hx, hb, hml, hown, hts⟩ (c_X1_voterOf l c (by omega)) (va_cwS 1 hts gX1_isLock_X1_voterOf rfl rfl rfl (by decide +kernel) ⟨Nat.le_of_ble_eq_true rfl, Nat.le_of_ble_eq_true rfl⟩) noB_bl noB_at rfl hl.1 rfl (Nat.le_of_ble_eq_true rfl) dX1_isLock_8 ⟨Nat.zero_le _, Nat.zero_le _⟩ ?_
    refine lv_iload_n hx hb dX1_isLock_11 rfl (lv_at hl 2 rfl) ?_
    refine f_cSi (As := [.int (nI d)]) (rest := [.int (nI (c / 256))]) ⟨hx, hb, hml, hown, hts⟩ (c_X1_voterOf l d (by omega)) (va_cwS 1 hts gX1_isLock_X1_voterOf rfl rfl rfl (by decide +kernel) ⟨Nat.le_of_ble_eq_true rfl, Nat.le_of_ble_eq_true rfl⟩) noB_bl noB_at rfl hl.1 rfl (Nat.le_of_ble_eq_true rfl) dX1_isLock_12 ⟨Nat.zero_le _, Nat.zero_le _⟩ ?_
    refine f_ine (tgt := 29) hx hb (nI_toInt (by omega)) (nI_toInt (by omega)) dX1_isLock_15 (by decide) (fun c_2 => ?_) (fun c_2 => ?_)
    · refine lv_iconst (v := (nI 0)) hx hb dX1_isLock_29 (by decide) ?_
      exact f_r0 hx hb hr hlocks (by rw [← Bool.not_eq_true]; simp [lkF, c_1] <;> omega) dX1_isLock_30
    · refine lv_iload_n hx hb dX1_isLock_18 rfl (lv_at hl 1 rfl) ?_
      refine f_cSi (As := [.int (nI c)]) (rest := []) ⟨hx, hb, hml, hown, hts⟩ (c_X1_roundOf l c (by omega)) (va_cwS 1 hts gX1_isLock_X1_roundOf rfl rfl rfl (by decide +kernel) ⟨Nat.le_of_ble_eq_true rfl, Nat.le_of_ble_eq_true rfl⟩) noB_bl noB_at rfl hl.1 rfl (Nat.le_of_ble_eq_true rfl) dX1_isLock_19 ⟨Nat.zero_le _, Nat.zero_le _⟩ ?_
      refine lv_iload_n hx hb dX1_isLock_22 rfl (lv_at hl 2 rfl) ?_
      refine f_cSi (As := [.int (nI d)]) (rest := [.int (nI (c / 32 % 8))]) ⟨hx, hb, hml, hown, hts⟩ (c_X1_roundOf l d (by omega)) (va_cwS 1 hts gX1_isLock_X1_roundOf rfl rfl rfl (by decide +kernel) ⟨Nat.le_of_ble_eq_true rfl, Nat.le_of_ble_eq_true rfl⟩) noB_bl noB_at rfl hl.1 rfl (Nat.le_of_ble_eq_true rfl) dX1_isLock_23 ⟨Nat.zero_le _, Nat.zero_le _⟩ ?_
      refine f_ilt (tgt := 31) hx hb (nI_toInt (by omega)) (nI_toInt (by omega)) dX1_isLock_26 (by decide) (fun c_3 => ?_) (fun c_3 => ?_)
      · refine lv_iload_n hx hb dX1_isLock_31 rfl (lv_at hl 2 rfl) ?_
        refine f_cSi (As := [.int (nI d)]) (rest := []) ⟨hx, hb, hml, hown, hts⟩ (c_X1_blockOf l d (by omega)) (va_cwS 1 hts gX1_isLock_X1_blockOf rfl rfl rfl (by decide +kernel) ⟨Nat.le_of_ble_eq_true rfl, Nat.le_of_ble_eq_true rfl⟩) noB_bl noB_at rfl hl.1 rfl (Nat.le_of_ble_eq_true rfl) dX1_isLock_32 ⟨Nat.zero_le _, Nat.zero_le _⟩ ?_
        refine lv_istore_n (lv' := [(3, .int (nI (d % 16))), (0, .ref (ad 0)), (1, .int (nI c)), (2, .int (nI d))]) hx hb dX1_isLock_35 rfl hl (by decide) rfl (fun ls hl => ?_)
        refine lv_iload_n hx hb dX1_isLock_36 rfl (lv_at hl 3 rfl) ?_
        refine f_cSi (As := [.int (nI d)]) (rest := []) ⟨hx, hb, hml, hown, hts⟩ (c_X1_stepOf l d (by omega)) (va_cwS 1 hts gX1_isLock_X1_stepOf rfl rfl rfl (by decide +kernel) ⟨Nat.le_of_ble_eq_true rfl, Nat.le_of_ble_eq_true rfl⟩) noB_bl noB_at rfl hl.1 rfl (Nat.le_of_ble_eq_true rfl) dX1_isLock_37 ⟨Nat.zero_le _, Nat.zero_le _⟩ ?_
        refine f_0ne (tgt := 55) hx hb (nI_toInt (by omega)) dX1_isLock_40 (by decide) (fun c_4 => ?_) (fun c_4 => ?_)
        · refine lv_iconst (v := (nI 0)) hx hb dX1_isLock_55 (by decide) ?_
          exact f_r0 hx hb hr hlocks (by rw [← Bool.not_eq_true]; simp [lkF, c_1] <;> omega) dX1_isLock_56
        · refine lv_iload_n hx hb dX1_isLock_43 rfl (lv_at hl 0 rfl) ?_
          refine f_0eq (tgt := 55) hx hb (nI_toInt (by omega)) dX1_isLock_44 (by decide) (fun c_5 => ?_) (fun c_5 => ?_)
          · refine lv_iconst (v := (nI 0)) hx hb dX1_isLock_55 (by decide) ?_
            exact f_r0 hx hb hr hlocks (by rw [← Bool.not_eq_true]; simp [lkF, c_1] <;> omega) dX1_isLock_56
          · refine lv_iload_n hx hb dX1_isLock_47 rfl (lv_at hl 0 rfl) ?_
            refine lv_iload_n hx hb dX1_isLock_48 rfl (lv_at hl 2 rfl) ?_
            refine f_cSi (As := [.int (nI c)]) (rest := [.int (nI (d % 16))]) ⟨hx, hb, hml, hown, hts⟩ (c_X1_blockOf l c (by omega)) (va_cwS 1 hts gX1_isLock_X1_blockOf rfl rfl rfl (by decide +kernel) ⟨Nat.le_of_ble_eq_true rfl, Nat.le_of_ble_eq_true rfl⟩) noB_bl noB_at rfl hl.1 rfl (Nat.le_of_ble_eq_true rfl) dX1_isLock_49 ⟨Nat.zero_le _, Nat.zero_le _⟩ ?_
            refine f_ine (tgt := 57) hx hb (nI_toInt (by omega)) (nI_toInt (by omega)) dX1_isLock_52 (by decide) (fun c_6 => ?_) (fun c_6 => ?_)
            · refine lv_aload_n hx hb dX1_isLock_57 rfl (lv_at hl 1 rfl) ?_
              refine lv_iload_n hx hb dX1_isLock_58 rfl (lv_at hl 3 rfl) ?_
              refine f_cSi (As := [.int (nI d)]) (rest := [.ref (ad 0)]) ⟨hx, hb, hml, hown, hts⟩ (c_X1_heightOf l d (by omega)) (va_cwS 1 hts gX1_isLock_X1_heightOf rfl rfl rfl (by decide +kernel) ⟨Nat.le_of_ble_eq_true rfl, Nat.le_of_ble_eq_true rfl⟩) noB_bl noB_at rfl hl.1 rfl (Nat.le_of_ble_eq_true rfl) dX1_isLock_59 ⟨Nat.zero_le _, Nat.zero_le _⟩ ?_
              refine lv_iload_n hx hb dX1_isLock_62 rfl (lv_at hl 0 rfl) ?_
              refine lv_iload_n hx hb dX1_isLock_63 rfl (lv_at hl 2 rfl) ?_
              refine f_cSi (As := [.int (nI c)]) (rest := [.int (nI (d % 16)), .int (nI (d / 2048)), .ref (ad 0)]) ⟨hx, hb, hml, hown, hts⟩ (c_X1_roundOf l c (by omega)) (va_cwS 1 hts gX1_isLock_X1_roundOf rfl rfl rfl (by decide +kernel) ⟨Nat.le_of_ble_eq_true rfl, Nat.le_of_ble_eq_true rfl⟩) noB_bl noB_at rfl hl.1 rfl (Nat.le_of_ble_eq_true rfl) dX1_isLock_64 ⟨Nat.zero_le _, Nat.zero_le _⟩ ?_
              refine lv_iload_n hx hb dX1_isLock_67 rfl (lv_at hl 3 rfl) ?_
              refine f_cSi (As := [.int (nI d)]) (rest := [.int (nI (c / 32 % 8)), .int (nI (d % 16)), .int (nI (d / 2048)), .ref (ad 0)]) ⟨hx, hb, hml, hown, hts⟩ (c_X1_roundOf l d (by omega)) (va_cwS 1 hts gX1_isLock_X1_roundOf rfl rfl rfl (by decide +kernel) ⟨Nat.le_of_ble_eq_true rfl, Nat.le_of_ble_eq_true rfl⟩) noB_bl noB_at rfl hl.1 rfl (Nat.le_of_ble_eq_true rfl) dX1_isLock_68 ⟨Nat.zero_le _, Nat.zero_le _⟩ ?_
              refine f_cVi (As := [.int (nI (d / 2048)), .int (nI (d % 16)), .int (nI (c / 32 % 8)), .int (nI (d / 32 % 8))]) (rest := []) ⟨hx, hb, hml, hown, hts⟩ (c_X1_isUnlocked l dC dI ad cy S (d / 2048) (d % 16) (c / 32 % 8) (d / 32 % 8) I (by omega) (by omega) (by omega) (by omega)) (cwV 4 hts gX1_isLock_X1_isUnlocked rfl rfl rfl (by decide +kernel) ⟨Nat.le_of_ble_eq_true rfl, Nat.le_of_ble_eq_true rfl⟩) roB_bl (va_recv hK hP (ci := 2) (q0 := 0) rfl rfl) (roB_at hP hK) rfl hl.1 rfl (Nat.le_of_ble_eq_true rfl) dX1_isLock_71 ⟨Nat.zero_le _, Nat.zero_le _⟩ ?_
              refine f_bne (tgt := 81) hx hb dX1_isLock_74 (by decide) (fun c_7 => ?_) (fun c_7 => ?_)
              · refine lv_iconst (v := (nI 0)) hx hb dX1_isLock_81 (by decide) ?_
                exact f_r0 hx hb hr hlocks (by rw [← Bool.not_eq_true]; simp [lkF, c_1, c_7] <;> omega) dX1_isLock_82
              · refine lv_iconst (v := (nI 1)) hx hb dX1_isLock_77 (by decide) ?_
                refine lv_goto (tgt := 82) hx hb dX1_isLock_78 (by decide) ?_
                exact f_r1 hx hb hr hlocks (by simp [lkF, c_1, c_7] <;> omega) dX1_isLock_82
            · refine lv_iconst (v := (nI 0)) hx hb dX1_isLock_55 (by decide) ?_
              exact f_r0 hx hb hr hlocks (by rw [← Bool.not_eq_true]; simp [lkF, c_1] <;> omega) dX1_isLock_56
      · refine lv_iconst (v := (nI 0)) hx hb dX1_isLock_29 (by decide) ?_
        exact f_r0 hx hb hr hlocks (by rw [← Bool.not_eq_true]; simp [lkF, c_1] <;> omega) dX1_isLock_30

abbrev rm_X1_isBare : Room := { frames := 2, cells := 0, slots := 0, locals := 44 }
set_option maxHeartbeats 4000000 in
set_option maxRecDepth 100000 in
theorem c_X1_isBare (l : Launch) (dC : Nat → ClassId) (dI : Nat → Nat → Nat) (ad : Nat → Nat) (cy : Nat → ClassId) (S : St) (c : Nat) (I : Inv S) (hc : c < 83968) (hc1 : c % 16 < 10) : RoI l yX1_isBare wsX1_isBare rm_X1_isBare [.ref (ad 0), .int (nI c)] (xB dC dI ad cy S) (bI (brF S c)) := by
  refine Ro_start (cc := cX1_isBare) (maxL := 2) (ret := (some .boolean)) (lv := [(0, .ref (ad 0)), (1, .int (nI c))]) (by decide) rfl (Nat.le_of_ble_eq_true rfl) rfl ?_
  intro pp ee ss mm aa bl me co hx hb hr hml hts hown hlocks hnm hB ls hl
  obtain ⟨hP, hK⟩ := hB
  refine lv_iload_n hx hb dX1_isBare_0 rfl (lv_at hl 1 rfl) ?_
  refine f_cSi (As := [.int (nI c)]) (rest := []) ⟨hx, hb, hml, hown, hts⟩ (c_X1_isLocking l c (by omega)) (va_cwS 1 hts gX1_isBare_X1_isLocking rfl rfl rfl (by decide +kernel) ⟨Nat.le_of_ble_eq_true rfl, Nat.le_of_ble_eq_true rfl⟩) noB_bl noB_at rfl hl.1 rfl (Nat.le_of_ble_eq_true rfl) dX1_isBare_1 ⟨Nat.zero_le _, Nat.zero_le _⟩ ?_
  refine f_beq (tgt := 30) hx hb dX1_isBare_4 (by decide) (fun c_1 => ?_) (fun c_1 => ?_)
  · refine lv_iconst (v := (nI 0)) hx hb dX1_isBare_30 (by decide) ?_
    exact f_r0 hx hb hr hlocks (by rw [← Bool.not_eq_true]; simp [brF, c_1] <;> omega) dX1_isBare_31
  · refine lv_aload_n hx hb dX1_isBare_7 rfl (lv_at hl 0 rfl) ?_
    refine lv_iload_n hx hb dX1_isBare_8 rfl (lv_at hl 1 rfl) ?_
    refine f_cSi (As := [.int (nI c)]) (rest := [.ref (ad 0)]) ⟨hx, hb, hml, hown, hts⟩ (c_X1_heightOf l c (by omega)) (va_cwS 1 hts gX1_isBare_X1_heightOf rfl rfl rfl (by decide +kernel) ⟨Nat.le_of_ble_eq_true rfl, Nat.le_of_ble_eq_true rfl⟩) noB_bl noB_at rfl hl.1 rfl (Nat.le_of_ble_eq_true rfl) dX1_isBare_9 ⟨Nat.zero_le _, Nat.zero_le _⟩ ?_
    refine lv_iload_n hx hb dX1_isBare_12 rfl (lv_at hl 1 rfl) ?_
    refine f_cSi (As := [.int (nI c)]) (rest := [.int (nI (c / 2048)), .ref (ad 0)]) ⟨hx, hb, hml, hown, hts⟩ (c_X1_roundOf l c (by omega)) (va_cwS 1 hts gX1_isBare_X1_roundOf rfl rfl rfl (by decide +kernel) ⟨Nat.le_of_ble_eq_true rfl, Nat.le_of_ble_eq_true rfl⟩) noB_bl noB_at rfl hl.1 rfl (Nat.le_of_ble_eq_true rfl) dX1_isBare_13 ⟨Nat.zero_le _, Nat.zero_le _⟩ ?_
    refine lv_iload_n hx hb dX1_isBare_16 rfl (lv_at hl 1 rfl) ?_
    refine f_cSi (As := [.int (nI c)]) (rest := [.int (nI (c / 32 % 8)), .int (nI (c / 2048)), .ref (ad 0)]) ⟨hx, hb, hml, hown, hts⟩ (c_X1_blockOf l c (by omega)) (va_cwS 1 hts gX1_isBare_X1_blockOf rfl rfl rfl (by decide +kernel) ⟨Nat.le_of_ble_eq_true rfl, Nat.le_of_ble_eq_true rfl⟩) noB_bl noB_at rfl hl.1 rfl (Nat.le_of_ble_eq_true rfl) dX1_isBare_17 ⟨Nat.zero_le _, Nat.zero_le _⟩ ?_
    refine f_cVi (As := [.int (nI (c / 2048)), .int (nI (c / 32 % 8)), .int (nI (c % 16))]) (rest := []) ⟨hx, hb, hml, hown, hts⟩ (c_X1_isBacked l dC dI ad cy S (c / 2048) (c / 32 % 8) (c % 16) I (by omega) (by omega) (by omega)) (cwV 3 hts gX1_isBare_X1_isBacked rfl rfl rfl (by decide +kernel) ⟨Nat.le_of_ble_eq_true rfl, Nat.le_of_ble_eq_true rfl⟩) roB_bl (va_recv hK hP (ci := 2) (q0 := 0) rfl rfl) (roB_at hP hK) rfl hl.1 rfl (Nat.le_of_ble_eq_true rfl) dX1_isBare_20 ⟨Nat.zero_le _, Nat.zero_le _⟩ ?_
    refine f_bne (tgt := 30) hx hb dX1_isBare_23 (by decide) (fun c_2 => ?_) (fun c_2 => ?_)
    · refine lv_iconst (v := (nI 0)) hx hb dX1_isBare_30 (by decide) ?_
      exact f_r0 hx hb hr hlocks (by rw [← Bool.not_eq_true]; simp [brF, c_1, c_2] <;> omega) dX1_isBare_31
    · refine lv_iconst (v := (nI 1)) hx hb dX1_isBare_26 (by decide) ?_
      refine lv_goto (tgt := 31) hx hb dX1_isBare_27 (by decide) ?_
      exact f_r1 hx hb hr hlocks (by simp [brF, c_1, c_2] <;> omega) dX1_isBare_31

abbrev rm_X1_isPair : Room := { frames := 4, cells := 0, slots := 0, locals := 92 }
set_option maxHeartbeats 4000000 in
set_option maxRecDepth 100000 in
theorem c_X1_isPair (l : Launch) (dC : Nat → ClassId) (dI : Nat → Nat → Nat) (ad : Nat → Nat) (cy : Nat → ClassId) (S : St) (q : Nat) (c : Nat) (d : Nat) (I : Inv S) (hq : q < 3) (hc : c < 83968) (hc1 : c % 16 < 10) (hd : d < 83968) (hd1 : d % 16 < 10) : RoI l yX1_isPair wsX1_isPair rm_X1_isPair [.ref (ad 0), .int (nI q), .int (nI c), .int (nI d)] (xB dC dI ad cy S) (bI (prF S q c d)) := by
  refine Ro_start (cc := cX1_isPair) (maxL := 4) (ret := (some .boolean)) (lv := [(0, .ref (ad 0)), (1, .int (nI q)), (2, .int (nI c)), (3, .int (nI d))]) (by decide) rfl (Nat.le_of_ble_eq_true rfl) rfl ?_
  intro pp ee ss mm aa bl me co hx hb hr hml hts hown hlocks hnm hB ls hl
  obtain ⟨hP, hK⟩ := hB
  refine lv_iload_n hx hb dX1_isPair_0 rfl (lv_at hl 1 rfl) ?_
  refine f_0ne (tgt := 12) hx hb (nI_toInt (by omega)) dX1_isPair_1 (by decide) (fun c_1 => ?_) (fun c_1 => ?_)
  · refine lv_aload_n hx hb dX1_isPair_12 rfl (lv_at hl 0 rfl) ?_
    refine lv_iload_n hx hb dX1_isPair_13 rfl (lv_at hl 2 rfl) ?_
    refine lv_iload_n hx hb dX1_isPair_14 rfl (lv_at hl 3 rfl) ?_
    refine f_cVi (As := [.int (nI c), .int (nI d)]) (rest := []) ⟨hx, hb, hml, hown, hts⟩ (c_X1_isLock l dC dI ad cy S c d I (by omega) (by omega) (by omega) (by omega)) (cwV 2 hts gX1_isPair_X1_isLock rfl rfl rfl (by decide +kernel) ⟨Nat.le_of_ble_eq_true rfl, Nat.le_of_ble_eq_true rfl⟩) roB_bl (va_recv hK hP (ci := 2) (q0 := 0) rfl rfl) (roB_at hP hK) rfl hl.1 rfl (Nat.le_of_ble_eq_true rfl) dX1_isPair_15 ⟨Nat.zero_le _, Nat.zero_le _⟩ ?_
    exact f_rb hx hb hr hlocks (by unfold prF; split <;> first | rfl | (exfalso; omega)) dX1_isPair_18
  · refine lv_iload_n hx hb dX1_isPair_4 rfl (lv_at hl 2 rfl) ?_
    refine lv_iload_n hx hb dX1_isPair_5 rfl (lv_at hl 3 rfl) ?_
    refine f_cSi (As := [.int (nI c), .int (nI d)]) (rest := []) ⟨hx, hb, hml, hown, hts⟩ (c_X1_isTwice l c d (by omega) (by omega)) (va_cwS 2 hts gX1_isPair_X1_isTwice rfl rfl rfl (by decide +kernel) ⟨Nat.le_of_ble_eq_true rfl, Nat.le_of_ble_eq_true rfl⟩) noB_bl noB_at rfl hl.1 rfl (Nat.le_of_ble_eq_true rfl) dX1_isPair_6 ⟨Nat.zero_le _, Nat.zero_le _⟩ ?_
    refine lv_goto (tgt := 18) hx hb dX1_isPair_9 (by decide) ?_
    exact f_rb hx hb hr hlocks (by unfold prF; split <;> first | rfl | (exfalso; omega)) dX1_isPair_18

abbrev rm_X1_isClash : Room := { frames := 4, cells := 0, slots := 0, locals := 92 }
set_option maxHeartbeats 4000000 in
set_option maxRecDepth 100000 in
theorem c_X1_isClash (l : Launch) (dC : Nat → ClassId) (dI : Nat → Nat → Nat) (ad : Nat → Nat) (cy : Nat → ClassId) (S : St) (c : Nat) (d : Nat) (I : Inv S) (hc : c < 83968) (hc1 : c % 16 < 10) (hd : d < 83968) (hd1 : d % 16 < 10) : RoI l yX1_isClash wsX1_isClash rm_X1_isClash [.ref (ad 0), .int (nI c), .int (nI d)] (xB dC dI ad cy S) (bI (clF S c d)) := by
  refine Ro_start (cc := cX1_isClash) (maxL := 3) (ret := (some .boolean)) (lv := [(0, .ref (ad 0)), (1, .int (nI c)), (2, .int (nI d))]) (by decide) rfl (Nat.le_of_ble_eq_true rfl) rfl ?_
  intro pp ee ss mm aa bl me co hx hb hr hml hts hown hlocks hnm hB ls hl
  obtain ⟨hP, hK⟩ := hB
  refine lv_iload_n hx hb dX1_isClash_0 rfl (lv_at hl 1 rfl) ?_
  refine lv_iload_n hx hb dX1_isClash_1 rfl (lv_at hl 2 rfl) ?_
  refine f_cSi (As := [.int (nI c), .int (nI d)]) (rest := []) ⟨hx, hb, hml, hown, hts⟩ (c_X1_isTwice l c d (by omega) (by omega)) (va_cwS 2 hts gX1_isClash_X1_isTwice rfl rfl rfl (by decide +kernel) ⟨Nat.le_of_ble_eq_true rfl, Nat.le_of_ble_eq_true rfl⟩) noB_bl noB_at rfl hl.1 rfl (Nat.le_of_ble_eq_true rfl) dX1_isClash_2 ⟨Nat.zero_le _, Nat.zero_le _⟩ ?_
  refine f_bne (tgt := 26) hx hb dX1_isClash_5 (by decide) (fun c_1 => ?_) (fun c_1 => ?_)
  · refine lv_iconst (v := (nI 1)) hx hb dX1_isClash_26 (by decide) ?_
    refine lv_goto (tgt := 31) hx hb dX1_isClash_27 (by decide) ?_
    exact f_r1 hx hb hr hlocks (by simp [clF, c_1] <;> omega) dX1_isClash_31
  · refine lv_aload_n hx hb dX1_isClash_8 rfl (lv_at hl 0 rfl) ?_
    refine lv_iload_n hx hb dX1_isClash_9 rfl (lv_at hl 1 rfl) ?_
    refine lv_iload_n hx hb dX1_isClash_10 rfl (lv_at hl 2 rfl) ?_
    refine f_cVi (As := [.int (nI c), .int (nI d)]) (rest := []) ⟨hx, hb, hml, hown, hts⟩ (c_X1_isLock l dC dI ad cy S c d I (by omega) (by omega) (by omega) (by omega)) (cwV 2 hts gX1_isClash_X1_isLock rfl rfl rfl (by decide +kernel) ⟨Nat.le_of_ble_eq_true rfl, Nat.le_of_ble_eq_true rfl⟩) roB_bl (va_recv hK hP (ci := 2) (q0 := 0) rfl rfl) (roB_at hP hK) rfl hl.1 rfl (Nat.le_of_ble_eq_true rfl) dX1_isClash_11 ⟨Nat.zero_le _, Nat.zero_le _⟩ ?_
    refine f_bne (tgt := 26) hx hb dX1_isClash_14 (by decide) (fun c_2 => ?_) (fun c_2 => ?_)
    · refine lv_iconst (v := (nI 1)) hx hb dX1_isClash_26 (by decide) ?_
      refine lv_goto (tgt := 31) hx hb dX1_isClash_27 (by decide) ?_
      exact f_r1 hx hb hr hlocks (by simp [clF, c_1, c_2] <;> omega) dX1_isClash_31
    · refine lv_aload_n hx hb dX1_isClash_17 rfl (lv_at hl 0 rfl) ?_
      refine lv_iload_n hx hb dX1_isClash_18 rfl (lv_at hl 2 rfl) ?_
      refine lv_iload_n hx hb dX1_isClash_19 rfl (lv_at hl 1 rfl) ?_
      refine f_cVi (As := [.int (nI d), .int (nI c)]) (rest := []) ⟨hx, hb, hml, hown, hts⟩ (c_X1_isLock l dC dI ad cy S d c I (by omega) (by omega) (by omega) (by omega)) (cwV 2 hts gX1_isClash_X1_isLock rfl rfl rfl (by decide +kernel) ⟨Nat.le_of_ble_eq_true rfl, Nat.le_of_ble_eq_true rfl⟩) roB_bl (va_recv hK hP (ci := 2) (q0 := 0) rfl rfl) (roB_at hP hK) rfl hl.1 rfl (Nat.le_of_ble_eq_true rfl) dX1_isClash_20 ⟨Nat.zero_le _, Nat.zero_le _⟩ ?_
      refine f_beq (tgt := 30) hx hb dX1_isClash_23 (by decide) (fun c_3 => ?_) (fun c_3 => ?_)
      · refine lv_iconst (v := (nI 0)) hx hb dX1_isClash_30 (by decide) ?_
        exact f_r0 hx hb hr hlocks (by rw [← Bool.not_eq_true]; simp [clF, c_1, c_2, c_3] <;> omega) dX1_isClash_31
      · refine lv_iconst (v := (nI 1)) hx hb dX1_isClash_26 (by decide) ?_
        refine lv_goto (tgt := 31) hx hb dX1_isClash_27 (by decide) ?_
        exact f_r1 hx hb hr hlocks (by simp [clF, c_1, c_2, c_3] <;> omega) dX1_isClash_31

abbrev rm_X1_makesBreak : Room := { frames := 5, cells := 0, slots := 0, locals := 114 }
set_option maxHeartbeats 4000000 in
set_option maxRecDepth 100000 in
theorem c_X1_makesBreak (l : Launch) (dC : Nat → ClassId) (dI : Nat → Nat → Nat) (ad : Nat → Nat) (cy : Nat → ClassId) (S : St) (c : Nat) (I : Inv S) (hc : c < 83968) (hc1 : c % 16 < 10) : RoI l yX1_makesBreak wsX1_makesBreak rm_X1_makesBreak [.ref (ad 0), .int (nI c)] (xB dC dI ad cy S) (bI (mkF S c)) := by
  refine Ro_start (cc := cX1_makesBreak) (maxL := 4) (ret := (some .boolean)) (lv := [(0, .ref (ad 0)), (1, .int (nI c))]) (by decide) rfl (Nat.le_of_ble_eq_true rfl) rfl ?_
  intro pp ee ss mm aa bl me co hx hb hr hml hts hown hlocks hnm hB ls hl
  obtain ⟨hP, hK⟩ := hB
  have hin : ∀ w ∈ wsX10, w ∈ wsX1_makesBreak := fun w h => List.mem_cons_of_mem _ (List.mem_append_right _ h)
  have hf_44 := hts (.fieldLink RX1 44 "FaultEvidence" "votes" "[I") (by decide +kernel)
  have hf_48 := hts (.fieldLink RX1 48 "FaultEvidence" "voteCount" "I") (by decide +kernel)
  have I1 := I.n
  refine lv_aload_n hx hb dX1_makesBreak_0 rfl (lv_at hl 0 rfl) ?_
  refine lv_iload_n hx hb dX1_makesBreak_1 rfl (lv_at hl 1 rfl) ?_
  refine f_cVi (As := [.int (nI c)]) (rest := []) ⟨hx, hb, hml, hown, hts⟩ (c_X1_isBare l dC dI ad cy S c I (by omega) (by omega)) (cwV 1 hts gX1_makesBreak_X1_isBare rfl rfl rfl (by decide +kernel) ⟨Nat.le_of_ble_eq_true rfl, Nat.le_of_ble_eq_true rfl⟩) roB_bl (va_recv hK hP (ci := 2) (q0 := 0) rfl rfl) (roB_at hP hK) rfl hl.1 rfl (Nat.le_of_ble_eq_true rfl) dX1_makesBreak_2 ⟨Nat.zero_le _, Nat.zero_le _⟩ ?_
  refine f_beq (tgt := 10) hx hb dX1_makesBreak_5 (by decide) (fun c_1 => ?_) (fun c_1 => ?_)
  · refine lv_iload_n hx hb dX1_makesBreak_10 rfl (lv_at hl 1 rfl) ?_
    refine f_cSi (As := [.int (nI c)]) (rest := []) ⟨hx, hb, hml, hown, hts⟩ (c_X1_voterOf l c (by omega)) (va_cwS 1 hts gX1_makesBreak_X1_voterOf rfl rfl rfl (by decide +kernel) ⟨Nat.le_of_ble_eq_true rfl, Nat.le_of_ble_eq_true rfl⟩) noB_bl noB_at rfl hl.1 rfl (Nat.le_of_ble_eq_true rfl) dX1_makesBreak_11 ⟨Nat.zero_le _, Nat.zero_le _⟩ ?_
    refine lv_istore_n (lv' := [(2, .int (nI (c / 256))), (0, .ref (ad 0)), (1, .int (nI c))]) hx hb dX1_makesBreak_14 rfl hl (by decide) rfl (fun ls hl => ?_)
    refine lv_iconst (v := (nI 0)) hx hb dX1_makesBreak_15 (by decide) ?_
    refine lv_istore_n (lv' := [(3, .int (nI 0)), (2, .int (nI (c / 256))), (0, .ref (ad 0)), (1, .int (nI c))]) hx hb dX1_makesBreak_16 rfl hl (by decide) rfl (fun ls hl => ?_)
    have loop_17 : ∀ (n : Nat) (v : Nat), sVn S - v < n → (∀ i, i < v → mkT S c i = false) → v ≤ sVn S → ∀ ls : Array Slot, lv_has ls 4 [(3, .int (nI v)), (2, .int (nI (c / 256))), (0, .ref (ad 0)), (1, .int (nI c))] → W pp l ee rm_X1_makesBreak ss mm aa bl me co ss.heap [] 0 0 (MQ bl (vp_Si (fun z_ => z_ = bI (mkF S c))) aa ss 0 0 (fun _ => False)) (F0 mm 17 ls []) := by
      intro n
      induction n with
      | zero => intro v hm; exact absurd hm (Nat.not_lt_zero _)
      | succ n ih_17 =>
        intro v hm hno hvn ls hl
        refine lv_iload_n hx hb dX1_makesBreak_17 rfl (lv_at hl 0 rfl) ?_
        refine lv_aload_n hx hb dX1_makesBreak_18 rfl (lv_at hl 2 rfl) ?_
        refine va_get (D := (dC, dI)) (ci := 2) (v := .int (nI (sVn S))) (C := RX1) (T := TX1) (N := 14) hx hb hts hin hown hK hP 0 rfl rfl 9 (by decide) hf_48 (fun _ h9 => h9) rfl dX1_makesBreak_19 ?_
        refine f_ige (tgt := 60) hx hb (nI_toInt (by omega)) (nI_toInt (by omega)) dX1_makesBreak_22 (by decide) (fun c_2 => ?_) (fun c_2 => ?_)
        · refine lv_iconst (v := (nI 0)) hx hb dX1_makesBreak_60 (by decide) ?_
          exact f_r0 hx hb hr hlocks (by unfold mkF; rw [ex_no (fun i hi => hno i (by omega))]; simp [c_1]) dX1_makesBreak_61
        · have hv := I.v (v := v) (by omega)
          refine lv_aload_n hx hb dX1_makesBreak_25 rfl (lv_at hl 2 rfl) ?_
          refine va_get (D := (dC, dI)) (ci := 2) (v := .ref (ad 7)) (C := RX1) (T := TX1) (N := 14) hx hb hts hin hown hK hP 0 rfl rfl 8 (by decide) hf_44 (fun _ h9 => h9) rfl dX1_makesBreak_26 ?_
          refine lv_iload_n hx hb dX1_makesBreak_29 rfl (lv_at hl 0 rfl) ?_
          refine f_iald hx hb hK hP 7 6 rfl rfl (k := v) (by omega) (by decide) (v := (nI (sVts S v))) rfl dX1_makesBreak_30 ?_
          refine lv_bipush (v := (nI 8)) hx hb dX1_makesBreak_31 (by decide) ?_
          refine lv_ishr hx hb dX1_makesBreak_33 ?_
          refine f_ti (y := (nI ((sVts S v) / 256))) (pk_shrN (by omega) _ 8 (by decide)) ?_
          refine lv_iload_n hx hb dX1_makesBreak_34 rfl (lv_at hl 1 rfl) ?_
          refine f_ine (tgt := 54) hx hb (nI_toInt (by omega)) (nI_toInt (by omega)) dX1_makesBreak_35 (by decide) (fun c_3 => ?_) (fun c_3 => ?_)
          · have hz : mkT S c v = false := by
              have : ¬ sVts S v / 256 = c / 256 := by omega
              simp [mkT, this]
            refine lv_iinc (v := (nI (v + 1))) (lv' := [(3, .int (nI (v + 1))), (2, .int (nI (c / 256))), (0, .ref (ad 0)), (1, .int (nI c))]) hx hb dX1_makesBreak_54 hl (k := 0) rfl (nI_add v 1) (by decide) rfl (fun ls hl => ?_)
            refine lv_goto (tgt := 17) hx hb dX1_makesBreak_57 (by decide) ?_
            exact ih_17 (v + 1) (by omega) (lt_s hno hz) (by omega) ls (lv_sub hl [0, 1, 2, 3] rfl)
          · refine lv_aload_n hx hb dX1_makesBreak_38 rfl (lv_at hl 2 rfl) ?_
            refine lv_iload_n hx hb dX1_makesBreak_39 rfl (lv_at hl 3 rfl) ?_
            refine lv_aload_n hx hb dX1_makesBreak_40 rfl (lv_at hl 2 rfl) ?_
            refine va_get (D := (dC, dI)) (ci := 2) (v := .ref (ad 7)) (C := RX1) (T := TX1) (N := 14) hx hb hts hin hown hK hP 0 rfl rfl 8 (by decide) hf_44 (fun _ h9 => h9) rfl dX1_makesBreak_41 ?_
            refine lv_iload_n hx hb dX1_makesBreak_44 rfl (lv_at hl 0 rfl) ?_
            refine f_iald hx hb hK hP 7 6 rfl rfl (k := v) (by omega) (by decide) (v := (nI (sVts S v))) rfl dX1_makesBreak_45 ?_
            refine f_cVi (As := [.int (nI c), .int (nI (sVts S v))]) (rest := []) ⟨hx, hb, hml, hown, hts⟩ (c_X1_isClash l dC dI ad cy S c (sVts S v) I (by omega) (by omega) (by omega) (by omega)) (cwV 2 hts gX1_makesBreak_X1_isClash rfl rfl rfl (by decide +kernel) ⟨Nat.le_of_ble_eq_true rfl, Nat.le_of_ble_eq_true rfl⟩) roB_bl (va_recv hK hP (ci := 2) (q0 := 0) rfl rfl) (roB_at hP hK) rfl hl.1 rfl (Nat.le_of_ble_eq_true rfl) dX1_makesBreak_46 ⟨Nat.zero_le _, Nat.zero_le _⟩ ?_
            refine f_beq (tgt := 54) hx hb dX1_makesBreak_49 (by decide) (fun c_4 => ?_) (fun c_4 => ?_)
            · have hz : mkT S c v = false := by simp [mkT, c_4]
              refine lv_iinc (v := (nI (v + 1))) (lv' := [(3, .int (nI (v + 1))), (2, .int (nI (c / 256))), (0, .ref (ad 0)), (1, .int (nI c))]) hx hb dX1_makesBreak_54 hl (k := 0) rfl (nI_add v 1) (by decide) rfl (fun ls hl => ?_)
              refine lv_goto (tgt := 17) hx hb dX1_makesBreak_57 (by decide) ?_
              exact ih_17 (v + 1) (by omega) (lt_s hno hz) (by omega) ls (lv_sub hl [0, 1, 2, 3] rfl)
            · refine lv_iconst (v := (nI 1)) hx hb dX1_makesBreak_52 (by decide) ?_
              exact f_r1 hx hb hr hlocks (by unfold mkF; rw [ex_yes v (by omega) (by simp [mkT, c_1, c_4]; omega)]; simp) dX1_makesBreak_53
    exact loop_17 (sVn S - 0 + 1) 0 (Nat.lt_succ_self _) (fun i hi => absurd hi (Nat.not_lt_zero _)) (Nat.zero_le _) ls (lv_sub hl [0, 1, 2, 3] rfl)
  · refine lv_iconst (v := (nI 1)) hx hb dX1_makesBreak_8 (by decide) ?_
    exact f_r1 hx hb hr hlocks (by simp [mkF, c_1]) dX1_makesBreak_9

abbrev rm_X1_countBreaksFrom : Room := { frames := 5, cells := 0, slots := 0, locals := 115 }
set_option maxHeartbeats 4000000 in
set_option maxRecDepth 100000 in
theorem c_X1_countBreaksFrom (l : Launch) (dC : Nat → ClassId) (dI : Nat → Nat → Nat) (ad : Nat → Nat) (cy : Nat → ClassId) (S : St) (q : Nat) (a : Nat) (I : Inv S) (hq : q < 3) (ha : a < sVn S) : RoI l yX1_countBreaksFrom wsX1_countBreaksFrom rm_X1_countBreaksFrom [.ref (ad 0), .int (nI q), .int (nI a)] (xB dC dI ad cy S) (nI (cfF S q a)) := by
  refine Ro_start (cc := cX1_countBreaksFrom) (maxL := 7) (ret := (some .int)) (lv := [(0, .ref (ad 0)), (1, .int (nI q)), (2, .int (nI a))]) (by decide) rfl (Nat.le_of_ble_eq_true rfl) rfl ?_
  intro pp ee ss mm aa bl me co hx hb hr hml hts hown hlocks hnm hB ls hl
  obtain ⟨hP, hK⟩ := hB
  have hin : ∀ w ∈ wsX10, w ∈ wsX1_countBreaksFrom := fun w h => List.mem_cons_of_mem _ (List.mem_append_right _ h)
  have hf_44 := hts (.fieldLink RX1 44 "FaultEvidence" "votes" "[I") (by decide +kernel)
  have hf_48 := hts (.fieldLink RX1 48 "FaultEvidence" "voteCount" "I") (by decide +kernel)
  have I1 := I.n
  have hv := I.v (v := a) ha
  refine lv_aload_n hx hb dX1_countBreaksFrom_0 rfl (lv_at hl 0 rfl) ?_
  refine va_get (D := (dC, dI)) (ci := 2) (v := .ref (ad 7)) (C := RX1) (T := TX1) (N := 14) hx hb hts hin hown hK hP 0 rfl rfl 8 (by decide) hf_44 (fun _ h9 => h9) rfl dX1_countBreaksFrom_1 ?_
  refine lv_iload_n hx hb dX1_countBreaksFrom_4 rfl (lv_at hl 2 rfl) ?_
  refine f_iald hx hb hK hP 7 6 rfl rfl (k := a) (by omega) (by decide) (v := (nI (sVts S a))) rfl dX1_countBreaksFrom_5 ?_
  refine lv_istore_n (lv' := [(3, .int (nI (sVts S a))), (0, .ref (ad 0)), (1, .int (nI q)), (2, .int (nI a))]) hx hb dX1_countBreaksFrom_6 rfl hl (by decide) rfl (fun ls hl => ?_)
  refine lv_iload_n hx hb dX1_countBreaksFrom_7 rfl (lv_at hl 2 rfl) ?_
  refine lv_iconst (v := (nI 2)) hx hb dX1_countBreaksFrom_8 (by decide) ?_
  refine f_ine (tgt := 26) hx hb (nI_toInt (by omega)) (nI_toInt (by omega)) dX1_countBreaksFrom_9 (by decide) (fun c_1 => ?_) (fun c_1 => ?_)
  · refine lv_iload_n hx hb dX1_countBreaksFrom_26 rfl (lv_at hl 2 rfl) ?_
    refine lv_iconst (v := (nI 1)) hx hb dX1_countBreaksFrom_27 (by decide) ?_
    refine f_ine (tgt := 40) hx hb (nI_toInt (by omega)) (nI_toInt (by omega)) dX1_countBreaksFrom_28 (by decide) (fun c_2 => ?_) (fun c_2 => ?_)
    · refine lv_iload_n hx hb dX1_countBreaksFrom_40 rfl (lv_at hl 0 rfl) ?_
      refine f_cSi (As := [.int (nI (sVts S a))]) (rest := []) ⟨hx, hb, hml, hown, hts⟩ (c_X1_voterOf l (sVts S a) (by omega)) (va_cwS 1 hts gX1_countBreaksFrom_X1_voterOf rfl rfl rfl (by decide +kernel) ⟨Nat.le_of_ble_eq_true rfl, Nat.le_of_ble_eq_true rfl⟩) noB_bl noB_at rfl hl.1 rfl (Nat.le_of_ble_eq_true rfl) dX1_countBreaksFrom_41 ⟨Nat.zero_le _, Nat.zero_le _⟩ ?_
      refine lv_istore (lv' := [(4, .int (nI ((sVts S a) / 256))), (3, .int (nI (sVts S a))), (0, .ref (ad 0)), (1, .int (nI q)), (2, .int (nI a))]) hx hb dX1_countBreaksFrom_44 hl (by decide) rfl (fun ls hl => ?_)
      refine lv_iconst (v := (nI 0)) hx hb dX1_countBreaksFrom_46 (by decide) ?_
      refine lv_istore (lv' := [(5, .int (nI 0)), (4, .int (nI ((sVts S a) / 256))), (3, .int (nI (sVts S a))), (0, .ref (ad 0)), (1, .int (nI q)), (2, .int (nI a))]) hx hb dX1_countBreaksFrom_47 hl (by decide) rfl (fun ls hl => ?_)
      refine lv_iload_n hx hb dX1_countBreaksFrom_49 rfl (lv_at hl 4 rfl) ?_
      refine lv_iload_n hx hb dX1_countBreaksFrom_50 rfl (lv_at hl 5 rfl) ?_
      refine f_cSi (As := [.int (nI q), .int (nI a)]) (rest := []) ⟨hx, hb, hml, hown, hts⟩ (c_X1_firstPartner l q a (by omega)) (va_cwS 2 hts gX1_countBreaksFrom_X1_firstPartner rfl rfl rfl (by decide +kernel) ⟨Nat.le_of_ble_eq_true rfl, Nat.le_of_ble_eq_true rfl⟩) noB_bl noB_at rfl hl.1 rfl (Nat.le_of_ble_eq_true rfl) dX1_countBreaksFrom_51 ⟨Nat.zero_le _, Nat.zero_le _⟩ ?_
      refine lv_istore (lv' := [(6, .int (nI (if q = 0 then a + 1 else 0))), (5, .int (nI 0)), (4, .int (nI ((sVts S a) / 256))), (3, .int (nI (sVts S a))), (0, .ref (ad 0)), (1, .int (nI q)), (2, .int (nI a))]) hx hb dX1_countBreaksFrom_54 hl (by decide) rfl (fun ls hl => ?_)
      have loop_56 : ∀ (n : Nat) (b : Nat) (k : Nat), sVn S - b < n → k = sm b (cfT S q a) → b ≤ sVn S → (if q = 0 then a + 1 else 0) ≤ b → ∀ ls : Array Slot, lv_has ls 7 [(6, .int (nI b)), (5, .int (nI k)), (4, .int (nI ((sVts S a) / 256))), (3, .int (nI (sVts S a))), (0, .ref (ad 0)), (1, .int (nI q)), (2, .int (nI a))] → W pp l ee rm_X1_countBreaksFrom ss mm aa bl me co ss.heap [] 0 0 (MQ bl (vp_Si (fun z_ => z_ = nI (cfF S q a))) aa ss 0 0 (fun _ => False)) (F0 mm 56 ls []) := by
        intro n
        induction n with
        | zero => intro b k hm; exact absurd hm (Nat.not_lt_zero _)
        | succ n ih_56 =>
          intro b k hm hk hbn hb0 ls hl
          refine lv_iload hx hb dX1_countBreaksFrom_56 (lv_at hl 0 rfl) ?_
          refine lv_aload_n hx hb dX1_countBreaksFrom_58 rfl (lv_at hl 4 rfl) ?_
          refine va_get (D := (dC, dI)) (ci := 2) (v := .int (nI (sVn S))) (C := RX1) (T := TX1) (N := 14) hx hb hts hin hown hK hP 0 rfl rfl 9 (by decide) hf_48 (fun _ h9 => h9) rfl dX1_countBreaksFrom_59 ?_
          refine f_ige (tgt := 105) hx hb (nI_toInt (by omega)) (nI_toInt (by omega)) dX1_countBreaksFrom_62 (by decide) (fun c_3 => ?_) (fun c_3 => ?_)
          · refine lv_iload hx hb dX1_countBreaksFrom_105 (lv_at hl 1 rfl) ?_
            exact f_ri hx hb hr hlocks (by have e : b = sVn S := (by omega); unfold cfF; rw [hk, e, if_neg (by omega)]) dX1_countBreaksFrom_107
          · have hw := I.v (v := b) (by omega)
            refine lv_aload_n hx hb dX1_countBreaksFrom_65 rfl (lv_at hl 4 rfl) ?_
            refine va_get (D := (dC, dI)) (ci := 2) (v := .ref (ad 7)) (C := RX1) (T := TX1) (N := 14) hx hb hts hin hown hK hP 0 rfl rfl 8 (by decide) hf_44 (fun _ h9 => h9) rfl dX1_countBreaksFrom_66 ?_
            refine lv_iload hx hb dX1_countBreaksFrom_69 (lv_at hl 0 rfl) ?_
            refine f_iald hx hb hK hP 7 6 rfl rfl (k := b) (by omega) (by decide) (v := (nI (sVts S b))) rfl dX1_countBreaksFrom_71 ?_
            refine lv_bipush (v := (nI 8)) hx hb dX1_countBreaksFrom_72 (by decide) ?_
            refine lv_ishr hx hb dX1_countBreaksFrom_74 ?_
            refine f_ti (y := (nI ((sVts S b) / 256))) (pk_shrN (by omega) _ 8 (by decide)) ?_
            refine lv_iload hx hb dX1_countBreaksFrom_75 (lv_at hl 2 rfl) ?_
            refine f_ine (tgt := 99) hx hb (nI_toInt (by omega)) (nI_toInt (by omega)) dX1_countBreaksFrom_77 (by decide) (fun c_4 => ?_) (fun c_4 => ?_)
            · have hz : cfT S q a b = 0 := by
                have e := prF_vo (S := S) (q := q) (c := sVts S a) (d := sVts S b) (by omega)
                simp [cfT, e]
              refine lv_iinc (v := (nI (b + 1))) (lv' := [(6, .int (nI (b + 1))), (5, .int (nI k)), (4, .int (nI ((sVts S a) / 256))), (3, .int (nI (sVts S a))), (0, .ref (ad 0)), (1, .int (nI q)), (2, .int (nI a))]) hx hb dX1_countBreaksFrom_99 hl (k := 0) rfl (nI_add b 1) (by decide) rfl (fun ls hl => ?_)
              refine lv_goto (tgt := 56) hx hb dX1_countBreaksFrom_102 (by decide) ?_
              exact ih_56 (b + 1) k (by omega) (by simp only [sm, hz]; omega) (by omega) (by omega) ls (lv_sub hl [0, 1, 2, 3, 4, 5, 6] rfl)
            · refine lv_aload_n hx hb dX1_countBreaksFrom_80 rfl (lv_at hl 4 rfl) ?_
              refine lv_iload_n hx hb dX1_countBreaksFrom_81 rfl (lv_at hl 5 rfl) ?_
              refine lv_iload_n hx hb dX1_countBreaksFrom_82 rfl (lv_at hl 3 rfl) ?_
              refine lv_aload_n hx hb dX1_countBreaksFrom_83 rfl (lv_at hl 4 rfl) ?_
              refine va_get (D := (dC, dI)) (ci := 2) (v := .ref (ad 7)) (C := RX1) (T := TX1) (N := 14) hx hb hts hin hown hK hP 0 rfl rfl 8 (by decide) hf_44 (fun _ h9 => h9) rfl dX1_countBreaksFrom_84 ?_
              refine lv_iload hx hb dX1_countBreaksFrom_87 (lv_at hl 0 rfl) ?_
              refine f_iald hx hb hK hP 7 6 rfl rfl (k := b) (by omega) (by decide) (v := (nI (sVts S b))) rfl dX1_countBreaksFrom_89 ?_
              refine f_cVi (As := [.int (nI q), .int (nI (sVts S a)), .int (nI (sVts S b))]) (rest := []) ⟨hx, hb, hml, hown, hts⟩ (c_X1_isPair l dC dI ad cy S q (sVts S a) (sVts S b) I (by omega) (by omega) (by omega) (by omega) (by omega)) (cwV 3 hts gX1_countBreaksFrom_X1_isPair rfl rfl rfl (by decide +kernel) ⟨Nat.le_of_ble_eq_true rfl, Nat.le_of_ble_eq_true rfl⟩) roB_bl (va_recv hK hP (ci := 2) (q0 := 0) rfl rfl) (roB_at hP hK) rfl hl.1 rfl (Nat.le_of_ble_eq_true rfl) dX1_countBreaksFrom_90 ⟨Nat.zero_le _, Nat.zero_le _⟩ ?_
              refine f_beq (tgt := 99) hx hb dX1_countBreaksFrom_93 (by decide) (fun c_5 => ?_) (fun c_5 => ?_)
              · have hz : cfT S q a b = 0 := by simp [cfT, c_5]
                refine lv_iinc (v := (nI (b + 1))) (lv' := [(6, .int (nI (b + 1))), (5, .int (nI k)), (4, .int (nI ((sVts S a) / 256))), (3, .int (nI (sVts S a))), (0, .ref (ad 0)), (1, .int (nI q)), (2, .int (nI a))]) hx hb dX1_countBreaksFrom_99 hl (k := 0) rfl (nI_add b 1) (by decide) rfl (fun ls hl => ?_)
                refine lv_goto (tgt := 56) hx hb dX1_countBreaksFrom_102 (by decide) ?_
                exact ih_56 (b + 1) k (by omega) (by simp only [sm, hz]; omega) (by omega) (by omega) ls (lv_sub hl [0, 1, 2, 3, 4, 5, 6] rfl)
              · have hz : cfT S q a b = 1 := by
                  unfold cfT
                  rw [if_pos ⟨hb0, c_5⟩]
                refine lv_iinc (v := (nI (k + 1))) (lv' := [(5, .int (nI (k + 1))), (6, .int (nI b)), (4, .int (nI ((sVts S a) / 256))), (3, .int (nI (sVts S a))), (0, .ref (ad 0)), (1, .int (nI q)), (2, .int (nI a))]) hx hb dX1_countBreaksFrom_96 hl (k := 1) rfl (nI_add k 1) (by decide) rfl (fun ls hl => ?_)
                refine lv_iinc (v := (nI (b + 1))) (lv' := [(6, .int (nI (b + 1))), (5, .int (nI (k + 1))), (4, .int (nI ((sVts S a) / 256))), (3, .int (nI (sVts S a))), (0, .ref (ad 0)), (1, .int (nI q)), (2, .int (nI a))]) hx hb dX1_countBreaksFrom_99 hl (k := 1) rfl (nI_add b 1) (by decide) rfl (fun ls hl => ?_)
                refine lv_goto (tgt := 56) hx hb dX1_countBreaksFrom_102 (by decide) ?_
                exact ih_56 (b + 1) (k + 1) (by omega) (by simp only [sm, hz]; omega) (by omega) (by omega) ls (lv_sub hl [0, 1, 2, 3, 4, 5, 6] rfl)
      exact loop_56 (sVn S - (if q = 0 then a + 1 else 0) + 1) (if q = 0 then a + 1 else 0) 0 (Nat.lt_succ_self _) ((sm_zero (fun i hi => by unfold cfT; rw [if_neg]; omega)).symm) (by split <;> omega) (Nat.le_refl _) ls (lv_sub hl [0, 1, 2, 3, 4, 5, 6] rfl)
    · refine lv_iload_n hx hb dX1_countBreaksFrom_31 rfl (lv_at hl 0 rfl) ?_
      refine f_cSi (As := [.int (nI (sVts S a))]) (rest := []) ⟨hx, hb, hml, hown, hts⟩ (c_X1_isLocking l (sVts S a) (by omega)) (va_cwS 1 hts gX1_countBreaksFrom_X1_isLocking rfl rfl rfl (by decide +kernel) ⟨Nat.le_of_ble_eq_true rfl, Nat.le_of_ble_eq_true rfl⟩) noB_bl noB_at rfl hl.1 rfl (Nat.le_of_ble_eq_true rfl) dX1_countBreaksFrom_32 ⟨Nat.zero_le _, Nat.zero_le _⟩ ?_
      refine f_bne (tgt := 40) hx hb dX1_countBreaksFrom_35 (by decide) (fun c_6 => ?_) (fun c_6 => ?_)
      · refine lv_iload_n hx hb dX1_countBreaksFrom_40 rfl (lv_at hl 0 rfl) ?_
        refine f_cSi (As := [.int (nI (sVts S a))]) (rest := []) ⟨hx, hb, hml, hown, hts⟩ (c_X1_voterOf l (sVts S a) (by omega)) (va_cwS 1 hts gX1_countBreaksFrom_X1_voterOf rfl rfl rfl (by decide +kernel) ⟨Nat.le_of_ble_eq_true rfl, Nat.le_of_ble_eq_true rfl⟩) noB_bl noB_at rfl hl.1 rfl (Nat.le_of_ble_eq_true rfl) dX1_countBreaksFrom_41 ⟨Nat.zero_le _, Nat.zero_le _⟩ ?_
        refine lv_istore (lv' := [(4, .int (nI ((sVts S a) / 256))), (3, .int (nI (sVts S a))), (0, .ref (ad 0)), (1, .int (nI q)), (2, .int (nI a))]) hx hb dX1_countBreaksFrom_44 hl (by decide) rfl (fun ls hl => ?_)
        refine lv_iconst (v := (nI 0)) hx hb dX1_countBreaksFrom_46 (by decide) ?_
        refine lv_istore (lv' := [(5, .int (nI 0)), (4, .int (nI ((sVts S a) / 256))), (3, .int (nI (sVts S a))), (0, .ref (ad 0)), (1, .int (nI q)), (2, .int (nI a))]) hx hb dX1_countBreaksFrom_47 hl (by decide) rfl (fun ls hl => ?_)
        refine lv_iload_n hx hb dX1_countBreaksFrom_49 rfl (lv_at hl 4 rfl) ?_
        refine lv_iload_n hx hb dX1_countBreaksFrom_50 rfl (lv_at hl 5 rfl) ?_
        refine f_cSi (As := [.int (nI q), .int (nI a)]) (rest := []) ⟨hx, hb, hml, hown, hts⟩ (c_X1_firstPartner l q a (by omega)) (va_cwS 2 hts gX1_countBreaksFrom_X1_firstPartner rfl rfl rfl (by decide +kernel) ⟨Nat.le_of_ble_eq_true rfl, Nat.le_of_ble_eq_true rfl⟩) noB_bl noB_at rfl hl.1 rfl (Nat.le_of_ble_eq_true rfl) dX1_countBreaksFrom_51 ⟨Nat.zero_le _, Nat.zero_le _⟩ ?_
        refine lv_istore (lv' := [(6, .int (nI (if q = 0 then a + 1 else 0))), (5, .int (nI 0)), (4, .int (nI ((sVts S a) / 256))), (3, .int (nI (sVts S a))), (0, .ref (ad 0)), (1, .int (nI q)), (2, .int (nI a))]) hx hb dX1_countBreaksFrom_54 hl (by decide) rfl (fun ls hl => ?_)
        have loop_56 : ∀ (n : Nat) (b : Nat) (k : Nat), sVn S - b < n → k = sm b (cfT S q a) → b ≤ sVn S → (if q = 0 then a + 1 else 0) ≤ b → ∀ ls : Array Slot, lv_has ls 7 [(6, .int (nI b)), (5, .int (nI k)), (4, .int (nI ((sVts S a) / 256))), (3, .int (nI (sVts S a))), (0, .ref (ad 0)), (1, .int (nI q)), (2, .int (nI a))] → W pp l ee rm_X1_countBreaksFrom ss mm aa bl me co ss.heap [] 0 0 (MQ bl (vp_Si (fun z_ => z_ = nI (cfF S q a))) aa ss 0 0 (fun _ => False)) (F0 mm 56 ls []) := by
          intro n
          induction n with
          | zero => intro b k hm; exact absurd hm (Nat.not_lt_zero _)
          | succ n ih_56 =>
            intro b k hm hk hbn hb0 ls hl
            refine lv_iload hx hb dX1_countBreaksFrom_56 (lv_at hl 0 rfl) ?_
            refine lv_aload_n hx hb dX1_countBreaksFrom_58 rfl (lv_at hl 4 rfl) ?_
            refine va_get (D := (dC, dI)) (ci := 2) (v := .int (nI (sVn S))) (C := RX1) (T := TX1) (N := 14) hx hb hts hin hown hK hP 0 rfl rfl 9 (by decide) hf_48 (fun _ h9 => h9) rfl dX1_countBreaksFrom_59 ?_
            refine f_ige (tgt := 105) hx hb (nI_toInt (by omega)) (nI_toInt (by omega)) dX1_countBreaksFrom_62 (by decide) (fun c_7 => ?_) (fun c_7 => ?_)
            · refine lv_iload hx hb dX1_countBreaksFrom_105 (lv_at hl 1 rfl) ?_
              exact f_ri hx hb hr hlocks (by have e : b = sVn S := (by omega); unfold cfF; rw [hk, e, if_neg (by omega)]) dX1_countBreaksFrom_107
            · have hw := I.v (v := b) (by omega)
              refine lv_aload_n hx hb dX1_countBreaksFrom_65 rfl (lv_at hl 4 rfl) ?_
              refine va_get (D := (dC, dI)) (ci := 2) (v := .ref (ad 7)) (C := RX1) (T := TX1) (N := 14) hx hb hts hin hown hK hP 0 rfl rfl 8 (by decide) hf_44 (fun _ h9 => h9) rfl dX1_countBreaksFrom_66 ?_
              refine lv_iload hx hb dX1_countBreaksFrom_69 (lv_at hl 0 rfl) ?_
              refine f_iald hx hb hK hP 7 6 rfl rfl (k := b) (by omega) (by decide) (v := (nI (sVts S b))) rfl dX1_countBreaksFrom_71 ?_
              refine lv_bipush (v := (nI 8)) hx hb dX1_countBreaksFrom_72 (by decide) ?_
              refine lv_ishr hx hb dX1_countBreaksFrom_74 ?_
              refine f_ti (y := (nI ((sVts S b) / 256))) (pk_shrN (by omega) _ 8 (by decide)) ?_
              refine lv_iload hx hb dX1_countBreaksFrom_75 (lv_at hl 2 rfl) ?_
              refine f_ine (tgt := 99) hx hb (nI_toInt (by omega)) (nI_toInt (by omega)) dX1_countBreaksFrom_77 (by decide) (fun c_8 => ?_) (fun c_8 => ?_)
              · have hz : cfT S q a b = 0 := by
                  have e := prF_vo (S := S) (q := q) (c := sVts S a) (d := sVts S b) (by omega)
                  simp [cfT, e]
                refine lv_iinc (v := (nI (b + 1))) (lv' := [(6, .int (nI (b + 1))), (5, .int (nI k)), (4, .int (nI ((sVts S a) / 256))), (3, .int (nI (sVts S a))), (0, .ref (ad 0)), (1, .int (nI q)), (2, .int (nI a))]) hx hb dX1_countBreaksFrom_99 hl (k := 0) rfl (nI_add b 1) (by decide) rfl (fun ls hl => ?_)
                refine lv_goto (tgt := 56) hx hb dX1_countBreaksFrom_102 (by decide) ?_
                exact ih_56 (b + 1) k (by omega) (by simp only [sm, hz]; omega) (by omega) (by omega) ls (lv_sub hl [0, 1, 2, 3, 4, 5, 6] rfl)
              · refine lv_aload_n hx hb dX1_countBreaksFrom_80 rfl (lv_at hl 4 rfl) ?_
                refine lv_iload_n hx hb dX1_countBreaksFrom_81 rfl (lv_at hl 5 rfl) ?_
                refine lv_iload_n hx hb dX1_countBreaksFrom_82 rfl (lv_at hl 3 rfl) ?_
                refine lv_aload_n hx hb dX1_countBreaksFrom_83 rfl (lv_at hl 4 rfl) ?_
                refine va_get (D := (dC, dI)) (ci := 2) (v := .ref (ad 7)) (C := RX1) (T := TX1) (N := 14) hx hb hts hin hown hK hP 0 rfl rfl 8 (by decide) hf_44 (fun _ h9 => h9) rfl dX1_countBreaksFrom_84 ?_
                refine lv_iload hx hb dX1_countBreaksFrom_87 (lv_at hl 0 rfl) ?_
                refine f_iald hx hb hK hP 7 6 rfl rfl (k := b) (by omega) (by decide) (v := (nI (sVts S b))) rfl dX1_countBreaksFrom_89 ?_
                refine f_cVi (As := [.int (nI q), .int (nI (sVts S a)), .int (nI (sVts S b))]) (rest := []) ⟨hx, hb, hml, hown, hts⟩ (c_X1_isPair l dC dI ad cy S q (sVts S a) (sVts S b) I (by omega) (by omega) (by omega) (by omega) (by omega)) (cwV 3 hts gX1_countBreaksFrom_X1_isPair rfl rfl rfl (by decide +kernel) ⟨Nat.le_of_ble_eq_true rfl, Nat.le_of_ble_eq_true rfl⟩) roB_bl (va_recv hK hP (ci := 2) (q0 := 0) rfl rfl) (roB_at hP hK) rfl hl.1 rfl (Nat.le_of_ble_eq_true rfl) dX1_countBreaksFrom_90 ⟨Nat.zero_le _, Nat.zero_le _⟩ ?_
                refine f_beq (tgt := 99) hx hb dX1_countBreaksFrom_93 (by decide) (fun c_9 => ?_) (fun c_9 => ?_)
                · have hz : cfT S q a b = 0 := by simp [cfT, c_9]
                  refine lv_iinc (v := (nI (b + 1))) (lv' := [(6, .int (nI (b + 1))), (5, .int (nI k)), (4, .int (nI ((sVts S a) / 256))), (3, .int (nI (sVts S a))), (0, .ref (ad 0)), (1, .int (nI q)), (2, .int (nI a))]) hx hb dX1_countBreaksFrom_99 hl (k := 0) rfl (nI_add b 1) (by decide) rfl (fun ls hl => ?_)
                  refine lv_goto (tgt := 56) hx hb dX1_countBreaksFrom_102 (by decide) ?_
                  exact ih_56 (b + 1) k (by omega) (by simp only [sm, hz]; omega) (by omega) (by omega) ls (lv_sub hl [0, 1, 2, 3, 4, 5, 6] rfl)
                · have hz : cfT S q a b = 1 := by
                    unfold cfT
                    rw [if_pos ⟨hb0, c_9⟩]
                  refine lv_iinc (v := (nI (k + 1))) (lv' := [(5, .int (nI (k + 1))), (6, .int (nI b)), (4, .int (nI ((sVts S a) / 256))), (3, .int (nI (sVts S a))), (0, .ref (ad 0)), (1, .int (nI q)), (2, .int (nI a))]) hx hb dX1_countBreaksFrom_96 hl (k := 1) rfl (nI_add k 1) (by decide) rfl (fun ls hl => ?_)
                  refine lv_iinc (v := (nI (b + 1))) (lv' := [(6, .int (nI (b + 1))), (5, .int (nI (k + 1))), (4, .int (nI ((sVts S a) / 256))), (3, .int (nI (sVts S a))), (0, .ref (ad 0)), (1, .int (nI q)), (2, .int (nI a))]) hx hb dX1_countBreaksFrom_99 hl (k := 1) rfl (nI_add b 1) (by decide) rfl (fun ls hl => ?_)
                  refine lv_goto (tgt := 56) hx hb dX1_countBreaksFrom_102 (by decide) ?_
                  exact ih_56 (b + 1) (k + 1) (by omega) (by simp only [sm, hz]; omega) (by omega) (by omega) ls (lv_sub hl [0, 1, 2, 3, 4, 5, 6] rfl)
        exact loop_56 (sVn S - (if q = 0 then a + 1 else 0) + 1) (if q = 0 then a + 1 else 0) 0 (Nat.lt_succ_self _) ((sm_zero (fun i hi => by unfold cfT; rw [if_neg]; omega)).symm) (by split <;> omega) (Nat.le_refl _) ls (lv_sub hl [0, 1, 2, 3, 4, 5, 6] rfl)
      · have hlk : lkg (sVts S a) = false := c_6
        refine lv_iconst (v := (nI 0)) hx hb dX1_countBreaksFrom_38 (by decide) ?_
        exact f_ri hx hb hr hlocks (by have e : q = 1 := (by omega); subst e; simp only [cfF]; rw [if_neg (by decide), sm_zero (fun i hi => by simp [cfT, prF_lk hlk])]) dX1_countBreaksFrom_39
  · refine lv_aload_n hx hb dX1_countBreaksFrom_12 rfl (lv_at hl 1 rfl) ?_
    refine lv_iload_n hx hb dX1_countBreaksFrom_13 rfl (lv_at hl 0 rfl) ?_
    refine f_cVi (As := [.int (nI (sVts S a))]) (rest := []) ⟨hx, hb, hml, hown, hts⟩ (c_X1_isBare l dC dI ad cy S (sVts S a) I (by omega) (by omega)) (cwV 1 hts gX1_countBreaksFrom_X1_isBare rfl rfl rfl (by decide +kernel) ⟨Nat.le_of_ble_eq_true rfl, Nat.le_of_ble_eq_true rfl⟩) roB_bl (va_recv hK hP (ci := 2) (q0 := 0) rfl rfl) (roB_at hP hK) rfl hl.1 rfl (Nat.le_of_ble_eq_true rfl) dX1_countBreaksFrom_14 ⟨Nat.zero_le _, Nat.zero_le _⟩ ?_
    refine f_beq (tgt := 24) hx hb dX1_countBreaksFrom_17 (by decide) (fun c_10 => ?_) (fun c_10 => ?_)
    · refine lv_iconst (v := (nI 0)) hx hb dX1_countBreaksFrom_24 (by decide) ?_
      exact f_ri hx hb hr hlocks (by have e : q = 2 := (by omega); simp [cfF, e, c_10]) dX1_countBreaksFrom_25
    · refine lv_iconst (v := (nI 1)) hx hb dX1_countBreaksFrom_20 (by decide) ?_
      refine lv_goto (tgt := 25) hx hb dX1_countBreaksFrom_21 (by decide) ?_
      exact f_ri hx hb hr hlocks (by have e : q = 2 := (by omega); simp [cfF, e, c_10]) dX1_countBreaksFrom_25

abbrev rm_X1_partner : Room := { frames := 5, cells := 0, slots := 0, locals := 115 }
set_option maxHeartbeats 4000000 in
set_option maxRecDepth 100000 in
theorem c_X1_partner (l : Launch) (dC : Nat → ClassId) (dI : Nat → Nat → Nat) (ad : Nat → Nat) (cy : Nat → ClassId) (S : St) (q : Nat) (a : Nat) (i : Nat) (I : Inv S) (hq : q < 3) (ha : a < sVn S) (hi : i < 2147483648) : RoI l yX1_partner wsX1_partner rm_X1_partner [.ref (ad 0), .int (nI q), .int (nI a), .int (nI i)] (xB dC dI ad cy S) (ptF S q a i) := by
  refine Ro_start (cc := cX1_partner) (maxL := 6) (ret := (some .int)) (lv := [(0, .ref (ad 0)), (1, .int (nI q)), (2, .int (nI a)), (3, .int (nI i))]) (by decide) rfl (Nat.le_of_ble_eq_true rfl) rfl ?_
  intro pp ee ss mm aa bl me co hx hb hr hml hts hown hlocks hnm hB ls hl
  obtain ⟨hP, hK⟩ := hB
  have hin : ∀ w ∈ wsX10, w ∈ wsX1_partner := fun w h => List.mem_cons_of_mem _ (List.mem_append_right _ h)
  have hf_44 := hts (.fieldLink RX1 44 "FaultEvidence" "votes" "[I") (by decide +kernel)
  have hf_48 := hts (.fieldLink RX1 48 "FaultEvidence" "voteCount" "I") (by decide +kernel)
  have I1 := I.n
  have hv := I.v (v := a) ha
  refine lv_iload_n hx hb dX1_partner_0 rfl (lv_at hl 1 rfl) ?_
  refine lv_iconst (v := (nI 2)) hx hb dX1_partner_1 (by decide) ?_
  refine f_ine (tgt := 7) hx hb (nI_toInt (by omega)) (nI_toInt (by omega)) dX1_partner_2 (by decide) (fun c_1 => ?_) (fun c_1 => ?_)
  · refine lv_iload_n hx hb dX1_partner_7 rfl (lv_at hl 3 rfl) ?_
    refine lv_istore (lv' := [(4, .int (nI i)), (0, .ref (ad 0)), (1, .int (nI q)), (2, .int (nI a)), (3, .int (nI i))]) hx hb dX1_partner_8 hl (by decide) rfl (fun ls hl => ?_)
    refine lv_iload_n hx hb dX1_partner_10 rfl (lv_at hl 2 rfl) ?_
    refine lv_iload_n hx hb dX1_partner_11 rfl (lv_at hl 3 rfl) ?_
    refine f_cSi (As := [.int (nI q), .int (nI a)]) (rest := []) ⟨hx, hb, hml, hown, hts⟩ (c_X1_firstPartner l q a (by omega)) (va_cwS 2 hts gX1_partner_X1_firstPartner rfl rfl rfl (by decide +kernel) ⟨Nat.le_of_ble_eq_true rfl, Nat.le_of_ble_eq_true rfl⟩) noB_bl noB_at rfl hl.1 rfl (Nat.le_of_ble_eq_true rfl) dX1_partner_12 ⟨Nat.zero_le _, Nat.zero_le _⟩ ?_
    refine lv_istore (lv' := [(5, .int (nI (if q = 0 then a + 1 else 0))), (4, .int (nI i)), (0, .ref (ad 0)), (1, .int (nI q)), (2, .int (nI a)), (3, .int (nI i))]) hx hb dX1_partner_15 hl (by decide) rfl (fun ls hl => ?_)
    have loop_17 : ∀ (n : Nat) (b : Nat) (k : Nat), sVn S - b < n → k + sm b (cfT S q a) = i → b ≤ sVn S → (if q = 0 then a + 1 else 0) ≤ b → (∀ j, j < b → ptT S q a i j = false) → ∀ ls : Array Slot, lv_has ls 6 [(5, .int (nI b)), (4, .int (nI k)), (0, .ref (ad 0)), (1, .int (nI q)), (2, .int (nI a)), (3, .int (nI i))] → W pp l ee rm_X1_partner ss mm aa bl me co ss.heap [] 0 0 (MQ bl (vp_Si (fun z_ => z_ = ptF S q a i)) aa ss 0 0 (fun _ => False)) (F0 mm 17 ls []) := by
      intro n
      induction n with
      | zero => intro b k hm; exact absurd hm (Nat.not_lt_zero _)
      | succ n ih_17 =>
        intro b k hm hk hbn hb0 hno ls hl
        refine lv_iload hx hb dX1_partner_17 (lv_at hl 0 rfl) ?_
        refine lv_aload_n hx hb dX1_partner_19 rfl (lv_at hl 2 rfl) ?_
        refine va_get (D := (dC, dI)) (ci := 2) (v := .int (nI (sVn S))) (C := RX1) (T := TX1) (N := 14) hx hb hts hin hown hK hP 0 rfl rfl 9 (by decide) hf_48 (fun _ h9 => h9) rfl dX1_partner_20 ?_
        refine f_ige (tgt := 64) hx hb (nI_toInt (by omega)) (nI_toInt (by omega)) dX1_partner_23 (by decide) (fun c_2 => ?_) (fun c_2 => ?_)
        · refine lv_iconst (v := (-1)) hx hb dX1_partner_64 (by decide) ?_
          exact f_ri hx hb hr hlocks (by unfold ptF; rw [fi_no (fun j hj => hno j (by omega)), if_neg (by omega), if_neg (by omega)]) dX1_partner_65
        · have hw := I.v (v := b) (by omega)
          refine lv_aload_n hx hb dX1_partner_26 rfl (lv_at hl 2 rfl) ?_
          refine lv_iload_n hx hb dX1_partner_27 rfl (lv_at hl 3 rfl) ?_
          refine lv_aload_n hx hb dX1_partner_28 rfl (lv_at hl 2 rfl) ?_
          refine va_get (D := (dC, dI)) (ci := 2) (v := .ref (ad 7)) (C := RX1) (T := TX1) (N := 14) hx hb hts hin hown hK hP 0 rfl rfl 8 (by decide) hf_44 (fun _ h9 => h9) rfl dX1_partner_29 ?_
          refine lv_iload_n hx hb dX1_partner_32 rfl (lv_at hl 4 rfl) ?_
          refine f_iald hx hb hK hP 7 6 rfl rfl (k := a) (by omega) (by decide) (v := (nI (sVts S a))) rfl dX1_partner_33 ?_
          refine lv_aload_n hx hb dX1_partner_34 rfl (lv_at hl 2 rfl) ?_
          refine va_get (D := (dC, dI)) (ci := 2) (v := .ref (ad 7)) (C := RX1) (T := TX1) (N := 14) hx hb hts hin hown hK hP 0 rfl rfl 8 (by decide) hf_44 (fun _ h9 => h9) rfl dX1_partner_35 ?_
          refine lv_iload hx hb dX1_partner_38 (lv_at hl 0 rfl) ?_
          refine f_iald hx hb hK hP 7 6 rfl rfl (k := b) (by omega) (by decide) (v := (nI (sVts S b))) rfl dX1_partner_40 ?_
          refine f_cVi (As := [.int (nI q), .int (nI (sVts S a)), .int (nI (sVts S b))]) (rest := []) ⟨hx, hb, hml, hown, hts⟩ (c_X1_isPair l dC dI ad cy S q (sVts S a) (sVts S b) I (by omega) (by omega) (by omega) (by omega) (by omega)) (cwV 3 hts gX1_partner_X1_isPair rfl rfl rfl (by decide +kernel) ⟨Nat.le_of_ble_eq_true rfl, Nat.le_of_ble_eq_true rfl⟩) roB_bl (va_recv hK hP (ci := 2) (q0 := 0) rfl rfl) (roB_at hP hK) rfl hl.1 rfl (Nat.le_of_ble_eq_true rfl) dX1_partner_41 ⟨Nat.zero_le _, Nat.zero_le _⟩ ?_
          refine f_beq (tgt := 58) hx hb dX1_partner_44 (by decide) (fun c_3 => ?_) (fun c_3 => ?_)
          · have hz : cfT S q a b = 0 := by simp [cfT, c_3]
            have hz2 : ptT S q a i b = false := by simp [ptT, hz]
            refine lv_iinc (v := (nI (b + 1))) (lv' := [(5, .int (nI (b + 1))), (4, .int (nI k)), (0, .ref (ad 0)), (1, .int (nI q)), (2, .int (nI a)), (3, .int (nI i))]) hx hb dX1_partner_58 hl (k := 0) rfl (nI_add b 1) (by decide) rfl (fun ls hl => ?_)
            refine lv_goto (tgt := 17) hx hb dX1_partner_61 (by decide) ?_
            exact ih_17 (b + 1) k (by omega) (by simp only [sm, hz]; omega) (by omega) (by omega) (lt_s hno hz2) ls (lv_sub hl [0, 1, 2, 3, 4, 5] rfl)
          · have hz : cfT S q a b = 1 := by
              unfold cfT
              rw [if_pos ⟨hb0, c_3⟩]
            refine lv_iload hx hb dX1_partner_47 (lv_at hl 1 rfl) ?_
            refine f_0ne (tgt := 55) hx hb (nI_toInt (by omega)) dX1_partner_49 (by decide) (fun c_4 => ?_) (fun c_4 => ?_)
            · have hz2 : ptT S q a i b = false := by
                have e : ¬ sm b (cfT S q a) = i := by omega
                simp [ptT, e]
              refine lv_iinc (v := (nI (k - 1))) (lv' := [(4, .int (nI (k - 1))), (5, .int (nI b)), (0, .ref (ad 0)), (1, .int (nI q)), (2, .int (nI a)), (3, .int (nI i))]) hx hb dX1_partner_55 hl (k := 1) rfl (f_dec (by omega)) (by decide) rfl (fun ls hl => ?_)
              refine lv_iinc (v := (nI (b + 1))) (lv' := [(5, .int (nI (b + 1))), (4, .int (nI (k - 1))), (0, .ref (ad 0)), (1, .int (nI q)), (2, .int (nI a)), (3, .int (nI i))]) hx hb dX1_partner_58 hl (k := 1) rfl (nI_add b 1) (by decide) rfl (fun ls hl => ?_)
              refine lv_goto (tgt := 17) hx hb dX1_partner_61 (by decide) ?_
              exact ih_17 (b + 1) (k - 1) (by omega) (by simp only [sm, hz]; omega) (by omega) (by omega) (lt_s hno hz2) ls (lv_sub hl [0, 1, 2, 3, 4, 5] rfl)
            · refine lv_iload hx hb dX1_partner_52 (lv_at hl 0 rfl) ?_
              exact f_ri hx hb hr hlocks (by have e : sm b (cfT S q a) = i := (by omega); unfold ptF; rw [fi_at hno (by simp [ptT, hz, e]) (by omega), if_neg (by omega), if_pos (by omega)]) dX1_partner_54
    exact loop_17 (sVn S - (if q = 0 then a + 1 else 0) + 1) (if q = 0 then a + 1 else 0) i (Nat.lt_succ_self _) (by rw [sm_zero (fun i hi => by unfold cfT; rw [if_neg]; omega)]; rfl) (by split <;> omega) (Nat.le_refl _) (fun j hj => (by have e : cfT S q a j = 0 := (by unfold cfT; rw [if_neg]; omega); simp [ptT, e])) ls (lv_sub hl [0, 1, 2, 3, 4, 5] rfl)
  · refine lv_iconst (v := (-1)) hx hb dX1_partner_5 (by decide) ?_
    exact f_ri hx hb hr hlocks (by have e : q = 2 := (by omega); simp [ptF, e]) dX1_partner_6

abbrev rm_X1_numberOf : Room := { frames := 0, cells := 0, slots := 0, locals := 0 }
set_option maxHeartbeats 4000000 in
set_option maxRecDepth 100000 in
theorem c_X1_numberOf (l : Launch) (dC : Nat → ClassId) (dI : Nat → Nat → Nat) (ad : Nat → Nat) (cy : Nat → ClassId) (S : St) (c : Nat) (I : Inv S) (hc : c < 2147483648) : RoI l yX1_numberOf wsX1_numberOf rm_X1_numberOf [.ref (ad 0), .int (nI c)] (xB dC dI ad cy S) (numF S c) := by
  refine Ro_start (cc := cX1_numberOf) (maxL := 3) (ret := (some .int)) (lv := [(0, .ref (ad 0)), (1, .int (nI c))]) (by decide) rfl (Nat.le_of_ble_eq_true rfl) rfl ?_
  intro pp ee ss mm aa bl me co hx hb hr hml hts hown hlocks hnm hB ls hl
  obtain ⟨hP, hK⟩ := hB
  have hin : ∀ w ∈ wsX10, w ∈ wsX1_numberOf := fun w h => List.mem_cons_of_mem _ (List.mem_append_right _ h)
  have hf_44 := hts (.fieldLink RX1 44 "FaultEvidence" "votes" "[I") (by decide +kernel)
  have hf_48 := hts (.fieldLink RX1 48 "FaultEvidence" "voteCount" "I") (by decide +kernel)
  have I1 := I.n
  refine lv_iconst (v := (nI 0)) hx hb dX1_numberOf_0 (by decide) ?_
  refine lv_istore_n (lv' := [(2, .int (nI 0)), (0, .ref (ad 0)), (1, .int (nI c))]) hx hb dX1_numberOf_1 rfl hl (by decide) rfl (fun ls hl => ?_)
  have loop_2 : ∀ (n : Nat) (v : Nat), sVn S - v < n → (∀ i, i < v → numT S c i = false) → v ≤ sVn S → ∀ ls : Array Slot, lv_has ls 3 [(2, .int (nI v)), (0, .ref (ad 0)), (1, .int (nI c))] → W pp l ee rm_X1_numberOf ss mm aa bl me co ss.heap [] 0 0 (MQ bl (vp_Si (fun z_ => z_ = numF S c)) aa ss 0 0 (fun _ => False)) (F0 mm 2 ls []) := by
    intro n
    induction n with
    | zero => intro v hm; exact absurd hm (Nat.not_lt_zero _)
    | succ n ih_2 =>
      intro v hm hno hvn ls hl
      refine lv_iload_n hx hb dX1_numberOf_2 rfl (lv_at hl 0 rfl) ?_
      refine lv_aload_n hx hb dX1_numberOf_3 rfl (lv_at hl 1 rfl) ?_
      refine va_get (D := (dC, dI)) (ci := 2) (v := .int (nI (sVn S))) (C := RX1) (T := TX1) (N := 14) hx hb hts hin hown hK hP 0 rfl rfl 9 (by decide) hf_48 (fun _ h9 => h9) rfl dX1_numberOf_4 ?_
      refine f_ige (tgt := 28) hx hb (nI_toInt (by omega)) (nI_toInt (by omega)) dX1_numberOf_7 (by decide) (fun c_1 => ?_) (fun c_1 => ?_)
      · refine lv_iconst (v := (-1)) hx hb dX1_numberOf_28 (by decide) ?_
        exact f_ri hx hb hr hlocks (by unfold numF; rw [fi_no (fun j hj => hno j (by omega)), if_neg (by omega)]) dX1_numberOf_29
      · have hv := I.v (v := v) (by omega)
        refine lv_aload_n hx hb dX1_numberOf_10 rfl (lv_at hl 1 rfl) ?_
        refine va_get (D := (dC, dI)) (ci := 2) (v := .ref (ad 7)) (C := RX1) (T := TX1) (N := 14) hx hb hts hin hown hK hP 0 rfl rfl 8 (by decide) hf_44 (fun _ h9 => h9) rfl dX1_numberOf_11 ?_
        refine lv_iload_n hx hb dX1_numberOf_14 rfl (lv_at hl 0 rfl) ?_
        refine f_iald hx hb hK hP 7 6 rfl rfl (k := v) (by omega) (by decide) (v := (nI (sVts S v))) rfl dX1_numberOf_15 ?_
        refine lv_iload_n hx hb dX1_numberOf_16 rfl (lv_at hl 2 rfl) ?_
        refine f_ine (tgt := 22) hx hb (nI_toInt (by omega)) (nI_toInt (by omega)) dX1_numberOf_17 (by decide) (fun c_2 => ?_) (fun c_2 => ?_)
        · have hz : numT S c v = false := by
            have e : ¬ sVts S v = c := by omega
            simp [numT, e]
          refine lv_iinc (v := (nI (v + 1))) (lv' := [(2, .int (nI (v + 1))), (0, .ref (ad 0)), (1, .int (nI c))]) hx hb dX1_numberOf_22 hl (k := 0) rfl (nI_add v 1) (by decide) rfl (fun ls hl => ?_)
          refine lv_goto (tgt := 2) hx hb dX1_numberOf_25 (by decide) ?_
          exact ih_2 (v + 1) (by omega) (lt_s hno hz) (by omega) ls (lv_sub hl [0, 1, 2] rfl)
        · refine lv_iload_n hx hb dX1_numberOf_20 rfl (lv_at hl 0 rfl) ?_
          exact f_ri hx hb hr hlocks (by have e : sVts S v = c := (by omega); unfold numF; rw [fi_at hno (by simp [numT, e]) (by omega), if_pos (by omega)]) dX1_numberOf_21
  exact loop_2 (sVn S - 0 + 1) 0 (Nat.lt_succ_self _) (fun i hi => absurd hi (Nat.not_lt_zero _)) (Nat.zero_le _) ls (lv_sub hl [0, 1, 2] rfl)

abbrev rm_X1_weightFor : Room := { frames := 1, cells := 0, slots := 0, locals := 21 }
set_option maxHeartbeats 4000000 in
set_option maxRecDepth 100000 in
theorem c_X1_weightFor (l : Launch) (dC : Nat → ClassId) (dI : Nat → Nat → Nat) (ad : Nat → Nat) (cy : Nat → ClassId) (S : St) (c : Nat) (I : Inv S) (hc : c < 83968) : RoL l yX1_weightFor wsX1_weightFor rm_X1_weightFor [.ref (ad 0), .int (nI c)] (xB dC dI ad cy S) (lN (wfF S c)) := by
  refine Ro_start (cc := cX1_weightFor) (maxL := 7) (ret := (some .long)) (lv := [(0, .ref (ad 0)), (1, .int (nI c))]) (by decide) rfl (Nat.le_of_ble_eq_true rfl) rfl ?_
  intro pp ee ss mm aa bl me co hx hb hr hml hts hown hlocks hnm hB ls hl
  obtain ⟨hP, hK⟩ := hB
  have hin : ∀ w ∈ wsX10, w ∈ wsX1_weightFor := fun w h => List.mem_cons_of_mem _ (List.mem_append_right _ h)
  have hf_38 := hts (.fieldLink RX1 38 "FaultEvidence" "weights" "[J") (by decide +kernel)
  have hf_44 := hts (.fieldLink RX1 44 "FaultEvidence" "votes" "[I") (by decide +kernel)
  have hf_48 := hts (.fieldLink RX1 48 "FaultEvidence" "voteCount" "I") (by decide +kernel)
  have I1 := I.n
  refine lv_iload_n hx hb dX1_weightFor_0 rfl (lv_at hl 1 rfl) ?_
  refine lv_sipush (v := (-1793)) hx hb dX1_weightFor_1 (by decide) ?_
  refine lv_iand hx hb dX1_weightFor_4 ?_
  refine f_ti (y := (nI (c - c / 256 % 8 * 256))) (f_nm c hc) ?_
  refine lv_istore_n (lv' := [(2, .int (nI (c - c / 256 % 8 * 256))), (0, .ref (ad 0)), (1, .int (nI c))]) hx hb dX1_weightFor_5 rfl hl (by decide) rfl (fun ls hl => ?_)
  refine lv_iload_n hx hb dX1_weightFor_6 rfl (lv_at hl 2 rfl) ?_
  refine f_cSi (As := [.int (nI c)]) (rest := []) ⟨hx, hb, hml, hown, hts⟩ (c_X1_heightOf l c (by omega)) (va_cwS 1 hts gX1_weightFor_X1_heightOf rfl rfl rfl (by decide +kernel) ⟨Nat.le_of_ble_eq_true rfl, Nat.le_of_ble_eq_true rfl⟩) noB_bl noB_at rfl hl.1 rfl (Nat.le_of_ble_eq_true rfl) dX1_weightFor_7 ⟨Nat.zero_le _, Nat.zero_le _⟩ ?_
  refine lv_istore_n (lv' := [(3, .int (nI (c / 2048))), (2, .int (nI (c - c / 256 % 8 * 256))), (0, .ref (ad 0)), (1, .int (nI c))]) hx hb dX1_weightFor_10 rfl hl (by decide) rfl (fun ls hl => ?_)
  refine lv_lconst (v := (lN 0)) hx hb dX1_weightFor_11 (by decide) ?_
  refine lv_lstore (lv' := [(4, .long (lN 0)), (3, .int (nI (c / 2048))), (2, .int (nI (c - c / 256 % 8 * 256))), (0, .ref (ad 0)), (1, .int (nI c))]) hx hb dX1_weightFor_12 hl (by decide) rfl (fun ls hl => ?_)
  refine lv_iconst (v := (nI 0)) hx hb dX1_weightFor_14 (by decide) ?_
  refine lv_istore (lv' := [(6, .int (nI 0)), (4, .long (lN 0)), (3, .int (nI (c / 2048))), (2, .int (nI (c - c / 256 % 8 * 256))), (0, .ref (ad 0)), (1, .int (nI c))]) hx hb dX1_weightFor_15 hl (by decide) rfl (fun ls hl => ?_)
  have loop_17 : ∀ (n : Nat) (v : Nat) (w : Nat), sVn S - v < n → w = sm v (wfT S c) → v ≤ sVn S → ∀ ls : Array Slot, lv_has ls 7 [(6, .int (nI v)), (4, .long (lN w)), (3, .int (nI (c / 2048))), (2, .int (nI (c - c / 256 % 8 * 256))), (0, .ref (ad 0)), (1, .int (nI c))] → W pp l ee rm_X1_weightFor ss mm aa bl me co ss.heap [] 0 0 (MQ bl (vp_Sl (fun z_ => z_ = lN (wfF S c))) aa ss 0 0 (fun _ => False)) (F0 mm 17 ls []) := by
    intro n
    induction n with
    | zero => intro v w hm; exact absurd hm (Nat.not_lt_zero _)
    | succ n ih_17 =>
      intro v w hm hw hvn ls hl
      refine lv_iload hx hb dX1_weightFor_17 (lv_at hl 0 rfl) ?_
      refine lv_aload_n hx hb dX1_weightFor_19 rfl (lv_at hl 4 rfl) ?_
      refine va_get (D := (dC, dI)) (ci := 2) (v := .int (nI (sVn S))) (C := RX1) (T := TX1) (N := 14) hx hb hts hin hown hK hP 0 rfl rfl 9 (by decide) hf_48 (fun _ h9 => h9) rfl dX1_weightFor_20 ?_
      refine f_ige (tgt := 71) hx hb (nI_toInt (by omega)) (nI_toInt (by omega)) dX1_weightFor_23 (by decide) (fun c_1 => ?_) (fun c_1 => ?_)
      · refine lv_lload hx hb dX1_weightFor_71 (lv_at hl 1 rfl) ?_
        exact f_rl hx hb hr hlocks (by have e : v = sVn S := (by omega); rw [hw, e]; rfl) dX1_weightFor_73
      · have hv := I.v (v := v) (by omega)
        refine lv_aload_n hx hb dX1_weightFor_26 rfl (lv_at hl 4 rfl) ?_
        refine va_get (D := (dC, dI)) (ci := 2) (v := .ref (ad 7)) (C := RX1) (T := TX1) (N := 14) hx hb hts hin hown hK hP 0 rfl rfl 8 (by decide) hf_44 (fun _ h9 => h9) rfl dX1_weightFor_27 ?_
        refine lv_iload hx hb dX1_weightFor_30 (lv_at hl 0 rfl) ?_
        refine f_iald hx hb hK hP 7 6 rfl rfl (k := v) (by omega) (by decide) (v := (nI (sVts S v))) rfl dX1_weightFor_32 ?_
        refine lv_sipush (v := (-1793)) hx hb dX1_weightFor_33 (by decide) ?_
        refine lv_iand hx hb dX1_weightFor_36 ?_
        refine f_ti (y := (nI (sVts S v - sVts S v / 256 % 8 * 256))) (f_nm _ (by omega)) ?_
        refine lv_iload_n hx hb dX1_weightFor_37 rfl (lv_at hl 3 rfl) ?_
        refine f_ine (tgt := 65) hx hb (nI_toInt (by omega)) (nI_toInt (by omega)) dX1_weightFor_38 (by decide) (fun c_2 => ?_) (fun c_2 => ?_)
        · refine lv_iinc (v := (nI (v + 1))) (lv' := [(6, .int (nI (v + 1))), (4, .long (lN w)), (3, .int (nI (c / 2048))), (2, .int (nI (c - c / 256 % 8 * 256))), (0, .ref (ad 0)), (1, .int (nI c))]) hx hb dX1_weightFor_65 hl (k := 0) rfl (nI_add v 1) (by decide) rfl (fun ls hl => ?_)
          refine lv_goto (tgt := 17) hx hb dX1_weightFor_68 (by decide) ?_
          exact ih_17 (v + 1) w (by omega) (by rw [sm, ← hw]; unfold wfT; split <;> omega) (by omega) ls (lv_sub hl [0, 1, 2, 3, 4, 5] rfl)
        · refine lv_lload hx hb dX1_weightFor_41 (lv_at hl 1 rfl) ?_
          refine lv_aload_n hx hb dX1_weightFor_43 rfl (lv_at hl 4 rfl) ?_
          refine va_get (D := (dC, dI)) (ci := 2) (v := .ref (ad 5)) (C := RX1) (T := TX1) (N := 14) hx hb hts hin hown hK hP 0 rfl rfl 6 (by decide) hf_38 (fun _ h9 => h9) rfl dX1_weightFor_44 ?_
          refine lv_iload_n hx hb dX1_weightFor_47 rfl (lv_at hl 2 rfl) ?_
          refine lv_aload_n hx hb dX1_weightFor_48 rfl (lv_at hl 4 rfl) ?_
          refine va_get (D := (dC, dI)) (ci := 2) (v := .ref (ad 7)) (C := RX1) (T := TX1) (N := 14) hx hb hts hin hown hK hP 0 rfl rfl 8 (by decide) hf_44 (fun _ h9 => h9) rfl dX1_weightFor_49 ?_
          refine lv_iload hx hb dX1_weightFor_52 (lv_at hl 0 rfl) ?_
          refine f_iald hx hb hK hP 7 6 rfl rfl (k := v) (by omega) (by decide) (v := (nI (sVts S v))) rfl dX1_weightFor_54 ?_
          refine f_cSi (As := [.int (nI (sVts S v))]) (rest := [.int (nI (c / 2048)), .ref (ad 5), .long (lN w)]) ⟨hx, hb, hml, hown, hts⟩ (c_X1_nodeOf l (sVts S v) (by omega)) (va_cwS 1 hts gX1_weightFor_X1_nodeOf rfl rfl rfl (by decide +kernel) ⟨Nat.le_of_ble_eq_true rfl, Nat.le_of_ble_eq_true rfl⟩) noB_bl noB_at rfl hl.1 rfl (Nat.le_of_ble_eq_true rfl) dX1_weightFor_55 ⟨Nat.zero_le _, Nat.zero_le _⟩ ?_
          refine f_cSi (As := [.int (nI (c / 2048)), .int (nI ((sVts S v) / 256 % 8))]) (rest := [.ref (ad 5), .long (lN w)]) ⟨hx, hb, hml, hown, hts⟩ (c_X1_weightIndex l (c / 2048) ((sVts S v) / 256 % 8)) (va_cwS 2 hts gX1_weightFor_X1_weightIndex rfl rfl rfl (by decide +kernel) ⟨Nat.le_of_ble_eq_true rfl, Nat.le_of_ble_eq_true rfl⟩) noB_bl noB_at rfl hl.1 rfl (Nat.le_of_ble_eq_true rfl) dX1_weightFor_58 ⟨Nat.zero_le _, Nat.zero_le _⟩ ?_
          refine f_lald hx hb hK hP 5 4 rfl rfl (k := ((c / 2048) * 8 + ((sVts S v) / 256 % 8))) (by omega) (by decide) (v := (lN (sWts S ((c / 2048) * 8 + ((sVts S v) / 256 % 8))))) rfl dX1_weightFor_61 ?_
          refine lv_ladd hx hb dX1_weightFor_62 ?_
          refine f_tl (y := (lN (w + (sWts S ((c / 2048) * 8 + ((sVts S v) / 256 % 8)))))) (lN_add _ _) ?_
          refine lv_lstore (lv' := [(4, .long (lN (w + (sWts S ((c / 2048) * 8 + ((sVts S v) / 256 % 8)))))), (6, .int (nI v)), (3, .int (nI (c / 2048))), (2, .int (nI (c - c / 256 % 8 * 256))), (0, .ref (ad 0)), (1, .int (nI c))]) hx hb dX1_weightFor_63 hl (by decide) rfl (fun ls hl => ?_)
          refine lv_iinc (v := (nI (v + 1))) (lv' := [(6, .int (nI (v + 1))), (4, .long (lN (w + (sWts S ((c / 2048) * 8 + ((sVts S v) / 256 % 8)))))), (3, .int (nI (c / 2048))), (2, .int (nI (c - c / 256 % 8 * 256))), (0, .ref (ad 0)), (1, .int (nI c))]) hx hb dX1_weightFor_65 hl (k := 1) rfl (nI_add v 1) (by decide) rfl (fun ls hl => ?_)
          refine lv_goto (tgt := 17) hx hb dX1_weightFor_68 (by decide) ?_
          exact ih_17 (v + 1) (w + (sWts S ((c / 2048) * 8 + ((sVts S v) / 256 % 8)))) (by omega) (by rw [sm, ← hw]; unfold wfT; split <;> omega) (by omega) ls (lv_sub hl [0, 1, 2, 3, 4, 5] rfl)
  exact loop_17 (sVn S - 0 + 1) 0 0 (Nat.lt_succ_self _) (rfl) (Nat.zero_le _) ls (lv_sub hl [0, 1, 2, 3, 4, 5] rfl)

abbrev rm_X1_voteRefusal : Room := { frames := 2, cells := 0, slots := 0, locals := 42 }
set_option maxHeartbeats 4000000 in
set_option maxRecDepth 100000 in
theorem c_X1_voteRefusal (l : Launch) (dC : Nat → ClassId) (dI : Nat → Nat → Nat) (ad : Nat → Nat) (cy : Nat → ClassId) (S : St) (x : Int32) (y : Int32) (u : Int32) (t : Int32) (b : Int32) (I : Inv S) : RoI l yX1_voteRefusal wsX1_voteRefusal rm_X1_voteRefusal [.ref (ad 0), .int x, .int y, .int u, .int t, .int b] (xB dC dI ad cy S) (vrF S x y u t b) := by
  refine Ro_start (cc := cX1_voteRefusal) (maxL := 6) (ret := (some .int)) (lv := [(0, .ref (ad 0)), (1, .int x), (2, .int y), (3, .int u), (4, .int t), (5, .int b)]) (by decide) rfl (Nat.le_of_ble_eq_true rfl) rfl ?_
  intro pp ee ss mm aa bl me co hx hb hr hml hts hown hlocks hnm hB ls hl
  obtain ⟨hP, hK⟩ := hB
  have hin : ∀ w ∈ wsX10, w ∈ wsX1_voteRefusal := fun w h => List.mem_cons_of_mem _ (List.mem_append_right _ h)
  have hf_38 := hts (.fieldLink RX1 38 "FaultEvidence" "weights" "[J") (by decide +kernel)
  have I1 := I.n
  refine lv_aload_n hx hb dX1_voteRefusal_0 rfl (lv_at hl 0 rfl) ?_
  refine lv_iload_n hx hb dX1_voteRefusal_1 rfl (lv_at hl 1 rfl) ?_
  refine f_cVi (As := [.int x]) (rest := []) ⟨hx, hb, hml, hown, hts⟩ (c_X1_isNode l dC dI ad cy S x I) (cwV 1 hts gX1_voteRefusal_X1_isNode rfl rfl rfl (by decide +kernel) ⟨Nat.le_of_ble_eq_true rfl, Nat.le_of_ble_eq_true rfl⟩) roB_bl (va_recv hK hP (ci := 2) (q0 := 0) rfl rfl) (roB_at hP hK) rfl hl.1 rfl (Nat.le_of_ble_eq_true rfl) dX1_voteRefusal_2 ⟨Nat.zero_le _, Nat.zero_le _⟩ ?_
  refine f_bne (tgt := 11) hx hb dX1_voteRefusal_5 (by decide) (fun c_1 => ?_) (fun c_1 => ?_)
  · refine lv_aload_n hx hb dX1_voteRefusal_11 rfl (lv_at hl 0 rfl) ?_
    refine lv_iload_n hx hb dX1_voteRefusal_12 rfl (lv_at hl 2 rfl) ?_
    refine f_cVi (As := [.int y]) (rest := []) ⟨hx, hb, hml, hown, hts⟩ (c_X1_isOpen l dC dI ad cy S y I) (cwV 1 hts gX1_voteRefusal_X1_isOpen rfl rfl rfl (by decide +kernel) ⟨Nat.le_of_ble_eq_true rfl, Nat.le_of_ble_eq_true rfl⟩) roB_bl (va_recv hK hP (ci := 2) (q0 := 0) rfl rfl) (roB_at hP hK) rfl hl.1 rfl (Nat.le_of_ble_eq_true rfl) dX1_voteRefusal_13 ⟨Nat.zero_le _, Nat.zero_le _⟩ ?_
    refine f_beq (tgt := 30) hx hb dX1_voteRefusal_16 (by decide) (fun c_2 => ?_) (fun c_2 => ?_)
    · refine lv_bipush (v := (-102)) hx hb dX1_voteRefusal_30 (by decide) ?_
      exact f_ri hx hb hr hlocks (by simp [vrF, c_1, c_2]) dX1_voteRefusal_32
    · refine lv_iload_n hx hb dX1_voteRefusal_19 rfl (lv_at hl 3 rfl) ?_
      refine lv_iload hx hb dX1_voteRefusal_20 (lv_at hl 4 rfl) ?_
      refine lv_iload hx hb dX1_voteRefusal_22 (lv_at hl 5 rfl) ?_
      refine f_cSi (As := [.int u, .int t, .int b]) (rest := []) ⟨hx, hb, hml, hown, hts⟩ (c_X1_isSayable l u t b) (va_cwS 3 hts gX1_voteRefusal_X1_isSayable rfl rfl rfl (by decide +kernel) ⟨Nat.le_of_ble_eq_true rfl, Nat.le_of_ble_eq_true rfl⟩) noB_bl noB_at rfl hl.1 rfl (Nat.le_of_ble_eq_true rfl) dX1_voteRefusal_24 ⟨Nat.zero_le _, Nat.zero_le _⟩ ?_
      refine f_bne (tgt := 33) hx hb dX1_voteRefusal_27 (by decide) (fun c_3 => ?_) (fun c_3 => ?_)
      · have d1 := c_1
        have d2 := c_2
        simp only [isNd, Bool.and_eq_true, decide_eq_true_eq] at d1
        simp only [isOp, isBg, Bool.and_eq_true, decide_eq_true_eq] at d2
        obtain ⟨k, hk, rfl⟩ := in_nI (n := sNn S) (x := x) (by omega) (by omega)
        obtain ⟨h, hh, rfl⟩ := in_nI (n := sHh S + 1) (x := y) (by omega) (by omega)
        have e1 := nI_toInt (n := k) (by omega)
        have e2 := nI_toInt (n := h) (by omega)
        have I4 := I.w (h * 8 + k)
        refine lv_aload_n hx hb dX1_voteRefusal_33 rfl (lv_at hl 0 rfl) ?_
        refine va_get (D := (dC, dI)) (ci := 2) (v := .ref (ad 5)) (C := RX1) (T := TX1) (N := 14) hx hb hts hin hown hK hP 0 rfl rfl 6 (by decide) hf_38 (fun _ h9 => h9) rfl dX1_voteRefusal_34 ?_
        refine lv_iload_n hx hb dX1_voteRefusal_37 rfl (lv_at hl 2 rfl) ?_
        refine lv_iload_n hx hb dX1_voteRefusal_38 rfl (lv_at hl 1 rfl) ?_
        refine f_cSi (As := [.int (nI h), .int (nI k)]) (rest := [.ref (ad 5)]) ⟨hx, hb, hml, hown, hts⟩ (c_X1_weightIndex l h k) (va_cwS 2 hts gX1_voteRefusal_X1_weightIndex rfl rfl rfl (by decide +kernel) ⟨Nat.le_of_ble_eq_true rfl, Nat.le_of_ble_eq_true rfl⟩) noB_bl noB_at rfl hl.1 rfl (Nat.le_of_ble_eq_true rfl) dX1_voteRefusal_39 ⟨Nat.zero_le _, Nat.zero_le _⟩ ?_
        refine f_lald hx hb hK hP 5 4 rfl rfl (k := (h * 8 + k)) (by omega) (by decide) (v := (lN (sWts S (h * 8 + k)))) rfl dX1_voteRefusal_42 ?_
        refine lv_lconst (v := (lN 0)) hx hb dX1_voteRefusal_43 (by decide) ?_
        refine f_lne (tgt := 53) hx hb (pk_lT (by omega)) (pk_lT (by omega)) dX1_voteRefusal_44 dX1_voteRefusal_45 (by decide) (fun c_4 => ?_) (fun c_4 => ?_)
        · refine lv_iconst (v := (nI 0)) hx hb dX1_voteRefusal_53 (by decide) ?_
          exact f_ri hx hb hr hlocks (by have d : sWts S (h * 8 + k) = 0 ∨ ¬ sWts S (h * 8 + k) = 0 := Nat.eq_zero_or_pos _ |>.imp id (by omega); simp only [vrF, e1, e2, Int.toNat_natCast, c_1, c_2, c_3]; first | (rw [if_neg (by decide), if_neg (by decide), if_pos (by omega)]) | (rw [if_neg (by decide), if_neg (by decide), if_neg (by omega)])) dX1_voteRefusal_54
        · refine lv_bipush (v := (-103)) hx hb dX1_voteRefusal_48 (by decide) ?_
          refine lv_goto (tgt := 54) hx hb dX1_voteRefusal_50 (by decide) ?_
          exact f_ri hx hb hr hlocks (by have d : sWts S (h * 8 + k) = 0 ∨ ¬ sWts S (h * 8 + k) = 0 := Nat.eq_zero_or_pos _ |>.imp id (by omega); simp only [vrF, e1, e2, Int.toNat_natCast, c_1, c_2, c_3]; first | (rw [if_neg (by decide), if_neg (by decide), if_pos (by omega)]) | (rw [if_neg (by decide), if_neg (by decide), if_neg (by omega)])) dX1_voteRefusal_54
      · refine lv_bipush (v := (-102)) hx hb dX1_voteRefusal_30 (by decide) ?_
        exact f_ri hx hb hr hlocks (by simp [vrF, c_1, c_2, c_3]) dX1_voteRefusal_32
  · refine lv_bipush (v := (-101)) hx hb dX1_voteRefusal_8 (by decide) ?_
    exact f_ri hx hb hr hlocks (by simp [vrF, c_1]) dX1_voteRefusal_10
