abbrev rm_X1_countTakenOf : Room := { frames := 3, cells := 0, slots := 0, locals := 64 }
set_option maxHeartbeats 4000000 in
set_option maxRecDepth 100000 in
theorem c_X1_countTakenOf (l9 : Launch) (dC : Nat → ClassId) (dI : Nat → Nat → Nat) (ad : Nat → Nat) (cy : Nat → ClassId) (S : St) (mc : Int32) (ed nn : Nat) (cO : ClassId) (pa : Nat → Nat) (Z : va_W) (tz : List (ClassId × FieldType)) (k9 : Nat) (I : Inv S) (hT : sTn S ≤ 512) (hZ : lstZ S ed nn cO pa Z tz) (hk : k9 < 8) : RoI l9 yX1_countTakenOf wsX1_countTakenOf rm_X1_countTakenOf [.ref (ad 0), .int (nI k9)] (tB dC dI ad cy S mc ed Z tz) (nI (sm (sTn S) (hoT S k9))) := by
  refine Ro_start (cc := cX1_countTakenOf) (maxL := 4) (ret := (some .int)) (lv := [(0, .ref (ad 0)), (1, .int (nI k9))]) (by decide) rfl (Nat.le_of_ble_eq_true rfl) rfl ?_
  intro pp ee ss mm aa bl me co hx hb hr hml hts hown hlocks hnm hB ls hl
  obtain ⟨⟨hP, hK⟩, hN⟩ := hB
  have hPx : va_P (dC, dI) vwCl (xw ad cy S) ss.heap := pl_left hP
  have hKx : va_K (dC, dI) vwCl (xty cy) ss := kl_left hK
  have hPl : va_P (dC, dI) vwCl [lwO (ad 10) mc ed (sTn S)] ss.heap := hP.sub [10] rfl
  have hKl : va_K (dC, dI) vwCl [] ss := hK.sub [] rfl
  have hcl := hts (.classLink RX1 182 "FaultEvidence$Taken") (by decide +kernel)
  have hin0 : ∀ w9 ∈ wsX00, w9 ∈ wsX1_countTakenOf := fun w9 h9 => by simp only [wsX1_countTakenOf, List.mem_cons, List.mem_append]; exact Or.inr (Or.inl (Or.inr h9))
  have hin : ∀ w9 ∈ wsX10, w9 ∈ wsX1_countTakenOf := fun w9 h9 => by simp only [wsX1_countTakenOf, List.mem_cons, List.mem_append]; exact Or.inr (Or.inl (Or.inl (Or.inr h9)))
  have hf_44 := hts (.fieldLink RX1 44 "FaultEvidence" "votes" "[I") (by decide +kernel)
  have hf_60 := hts (.fieldLink RX1 60 "FaultEvidence" "takenBreaks" "Ljava/util/ArrayList;") (by decide +kernel)
  have I1 := I.n
  unfold lstZ at hZ
  refine lv_iconst (v := (nI 0)) hx hb dX1_countTakenOf_0 (by decide) ?_
  refine lv_istore_n (lv' := [(2, .int (nI 0)), (0, .ref (ad 0)), (1, .int (nI k9))]) hx hb dX1_countTakenOf_1 rfl hl (by decide) rfl (fun ls hl => ?_)
  refine lv_iconst (v := (nI 0)) hx hb dX1_countTakenOf_2 (by decide) ?_
  refine lv_istore_n (lv' := [(3, .int (nI 0)), (2, .int (nI 0)), (0, .ref (ad 0)), (1, .int (nI k9))]) hx hb dX1_countTakenOf_3 rfl hl (by decide) rfl (fun ls hl => ?_)
  have loop_4 : ∀ (n9 : Nat) (i9 : Nat) (g9 : Nat), sTn S - i9 < n9 → g9 = sm i9 (hoT S k9) → i9 ≤ sTn S → ∀ ls : Array Slot, lv_has ls 4 [(3, .int (nI i9)), (2, .int (nI g9)), (0, .ref (ad 0)), (1, .int (nI k9))] → W pp l9 ee rm_X1_countTakenOf ss mm aa bl me co ss.heap [] 0 0 (MQ bl (vp_Si (fun z_ => z_ = nI (sm (sTn S) (hoT S k9)))) aa ss 0 0 (fun _ => False)) (F0 mm 4 ls []) := by
    intro n9
    induction n9 with
    | zero => intro i9 g9 hm; exact absurd hm (Nat.not_lt_zero _)
    | succ n9 ih_4 =>
      intro i9 g9 hm hg hin1 ls hl
      refine lv_iload_n hx hb dX1_countTakenOf_4 rfl (lv_at hl 0 rfl) ?_
      refine lv_aload_n hx hb dX1_countTakenOf_5 rfl (lv_at hl 2 rfl) ?_
      refine va_get (D := (dC, dI)) (ci := 2) (v := .ref (ad 10)) (C := RX1) (T := TX1) (N := 14) hx hb hts hin hown hK hP 0 rfl rfl 12 (by decide) hf_60 (fun _ h9 => h9) rfl dX1_countTakenOf_6 ?_
      refine f_cVi (As := []) (rest := [.int (nI i9)]) ⟨hx, hb, hml, hown, hts⟩ (c_size l9 dC dI (ad 10) mc ed (sTn S)) (cwV 0 hts gX1_countTakenOf_Jx4a65c_size_8abf5 rfl rfl rfl (by decide +kernel) ⟨Nat.le_of_ble_eq_true rfl, Nat.le_of_ble_eq_true rfl⟩) roB_bl (va_recv hKl hPl (ci := 0) (q0 := 0) rfl rfl) (roB_at hPl hKl) rfl hl.1 rfl (Nat.le_of_ble_eq_true rfl) dX1_countTakenOf_9 ⟨Nat.zero_le _, Nat.zero_le _⟩ ?_
      refine f_ige (tgt := 50) hx hb (nI_toInt (by omega)) (nI_toInt (by omega)) dX1_countTakenOf_12 (by decide) (fun c_1 => ?_) (fun c_1 => ?_)
      · refine lv_iload_n hx hb dX1_countTakenOf_50 rfl (lv_at hl 1 rfl) ?_
        exact f_ri hx hb hr hlocks (by have e9 : i9 = sTn S := (by omega); rw [hg, e9]) dX1_countTakenOf_51
      · have hta := I.k (i := i9) (by omega)
        have hv := I.v hta.2.1
        refine lv_aload_n hx hb dX1_countTakenOf_15 rfl (lv_at hl 2 rfl) ?_
        refine va_get (D := (dC, dI)) (ci := 2) (v := .ref (ad 7)) (C := RX1) (T := TX1) (N := 14) hx hb hts hin hown hK hP 0 rfl rfl 8 (by decide) hf_44 (fun _ h9 => h9) rfl dX1_countTakenOf_16 ?_
        refine lv_aload_n hx hb dX1_countTakenOf_19 rfl (lv_at hl 2 rfl) ?_
        refine va_get (D := (dC, dI)) (ci := 2) (v := .ref (ad 10)) (C := RX1) (T := TX1) (N := 14) hx hb hts hin hown hK hP 0 rfl rfl 12 (by decide) hf_60 (fun _ h9 => h9) rfl dX1_countTakenOf_20 ?_
        refine lv_iload_n hx hb dX1_countTakenOf_23 rfl (lv_at hl 0 rfl) ?_
        obtain ⟨rfl, rfl, hn1, hn2⟩ := hZ.resolve_left (by omega)
        have hPg : va_P (dC, dI) vwCl [lwO (ad 10) mc ed (sTn S), lwA ed cO nn (foF pa S)] ss.heap := hP.sub [10, 11] rfl
        have hKg : va_K (dC, dI) vwCl [(cO, .object "java/lang/Object")] ss := hK.sub [9] rfl
        refine f_cVr (As := [.int (nI i9)]) (rest := [.ref (ad 7)]) ⟨hx, hb, hml, hown, hts⟩ (c_get l9 dC dI (ad 10) mc ed (sTn S) cO nn (foF pa S) i9 (pa i9) (by omega) hn1 hn2 (if_pos (by omega))) (cwV 1 hts gX1_countTakenOf_Jx4a65c_get_915e3 rfl rfl rfl (by decide +kernel) ⟨Nat.le_of_ble_eq_true rfl, Nat.le_of_ble_eq_true rfl⟩) roB_bl (va_recv hKg hPg (ci := 0) (q0 := 0) rfl rfl) (roB_at hPg hKg) rfl hl.1 rfl (Nat.le_of_ble_eq_true rfl) dX1_countTakenOf_24 ⟨Nat.zero_le _, Nat.zero_le _⟩ ?_
        refine va_castS hx hb hown hcl (hK.1 1 _ rfl).2 (va_recv hK hP (ci := 1) (q0 := i9 + 12) rfl (tw_get (by omega))) dX1_countTakenOf_27 ?_
        refine va_getN (D := (dC, dI)) (ci := 1) (v := .int (nI (sTa S i9))) (C := RX0) (T := TX0) (N := 7) hx hb hts hin0 hown hK hP (i9 + 12) (tw_get (by omega)) rfl 1 (by decide) (va_Nw.use rfl hN.2.1) (fun _ h9 => h9) rfl dX1_countTakenOf_30 ?_
        refine f_iald hx hb hK hP 7 6 rfl rfl (k := (sTa S i9)) (by omega) (by decide) (v := (nI (sVts S (sTa S i9)))) rfl dX1_countTakenOf_33 ?_
        refine f_cSi (As := [.int (nI (sVts S (sTa S i9)))]) (rest := []) ⟨hx, hb, hml, hown, hts⟩ (c_X1_nodeOf l9 (sVts S (sTa S i9)) (by omega)) (va_cwS 1 hts gX1_countTakenOf_X1_nodeOf rfl rfl rfl (by decide +kernel) ⟨Nat.le_of_ble_eq_true rfl, Nat.le_of_ble_eq_true rfl⟩) noB_bl noB_at rfl hl.1 rfl (Nat.le_of_ble_eq_true rfl) dX1_countTakenOf_34 ⟨Nat.zero_le _, Nat.zero_le _⟩ ?_
        refine lv_iload_n hx hb dX1_countTakenOf_37 rfl (lv_at hl 3 rfl) ?_
        refine f_ine (tgt := 44) hx hb (nI_toInt (by omega)) (nI_toInt (by omega)) dX1_countTakenOf_38 (by decide) (fun c_2 => ?_) (fun c_2 => ?_)
        · refine lv_iinc (v := (nI (i9 + 1))) (lv' := [(3, .int (nI (i9 + 1))), (2, .int (nI g9)), (0, .ref (ad 0)), (1, .int (nI k9))]) hx hb dX1_countTakenOf_44 hl (k := 0) rfl (nI_add i9 1) (by decide) rfl (fun ls hl => ?_)
          refine lv_goto (tgt := 4) hx hb dX1_countTakenOf_47 (by decide) ?_
          exact ih_4 (i9 + 1) g9 (by omega) (by simp only [sm, ← hg]; unfold hoT; split <;> omega) (by omega) ls (lv_sub hl [0, 1, 2, 3] rfl)
        · refine lv_iinc (v := (nI (g9 + 1))) (lv' := [(2, .int (nI (g9 + 1))), (3, .int (nI i9)), (0, .ref (ad 0)), (1, .int (nI k9))]) hx hb dX1_countTakenOf_41 hl (k := 1) rfl (nI_add g9 1) (by decide) rfl (fun ls hl => ?_)
          refine lv_iinc (v := (nI (i9 + 1))) (lv' := [(3, .int (nI (i9 + 1))), (2, .int (nI (g9 + 1))), (0, .ref (ad 0)), (1, .int (nI k9))]) hx hb dX1_countTakenOf_44 hl (k := 1) rfl (nI_add i9 1) (by decide) rfl (fun ls hl => ?_)
          refine lv_goto (tgt := 4) hx hb dX1_countTakenOf_47 (by decide) ?_
          exact ih_4 (i9 + 1) (g9 + 1) (by omega) (by simp only [sm, ← hg]; unfold hoT; split <;> omega) (by omega) ls (lv_sub hl [0, 1, 2, 3] rfl)
  exact loop_4 (sTn S - 0 + 1) 0 0 (Nat.lt_succ_self _) (rfl) (Nat.zero_le _) ls (lv_sub hl [0, 1, 2, 3] rfl)

abbrev rm_X1_wasTaken : Room := { frames := 3, cells := 0, slots := 0, locals := 64 }
set_option maxHeartbeats 4000000 in
set_option maxRecDepth 100000 in
theorem c_X1_wasTaken (l9 : Launch) (dC : Nat → ClassId) (dI : Nat → Nat → Nat) (ad : Nat → Nat) (cy : Nat → ClassId) (S : St) (mc : Int32) (ed nn : Nat) (cO : ClassId) (pa : Nat → Nat) (Z : va_W) (tz : List (ClassId × FieldType)) (q9 : Nat) (w9 : Nat) (I : Inv S) (hT : sTn S ≤ 512) (hZ : lstZ S ed nn cO pa Z tz) (hq : q9 < 3) (hw1 : w9 < 2147483648) : RoI l9 yX1_wasTaken wsX1_wasTaken rm_X1_wasTaken [.ref (ad 0), .int (nI q9), .int (nI w9)] (tB dC dI ad cy S mc ed Z tz) (bI (dnF S (w9 * 3 + q9))) := by
  refine Ro_start (cc := cX1_wasTaken) (maxL := 5) (ret := (some .boolean)) (lv := [(0, .ref (ad 0)), (1, .int (nI q9)), (2, .int (nI w9))]) (by decide) rfl (Nat.le_of_ble_eq_true rfl) rfl ?_
  intro pp ee ss mm aa bl me co hx hb hr hml hts hown hlocks hnm hB ls hl
  obtain ⟨⟨hP, hK⟩, hN⟩ := hB
  have hPx : va_P (dC, dI) vwCl (xw ad cy S) ss.heap := pl_left hP
  have hKx : va_K (dC, dI) vwCl (xty cy) ss := kl_left hK
  have hPl : va_P (dC, dI) vwCl [lwO (ad 10) mc ed (sTn S)] ss.heap := hP.sub [10] rfl
  have hKl : va_K (dC, dI) vwCl [] ss := hK.sub [] rfl
  have hcl := hts (.classLink RX1 182 "FaultEvidence$Taken") (by decide +kernel)
  have hin0 : ∀ w9 ∈ wsX00, w9 ∈ wsX1_wasTaken := fun w9 h9 => by simp only [wsX1_wasTaken, List.mem_cons, List.mem_append]; exact Or.inr (Or.inl (Or.inr h9))
  have hin : ∀ w9 ∈ wsX10, w9 ∈ wsX1_wasTaken := fun w9 h9 => by simp only [wsX1_wasTaken, List.mem_cons, List.mem_append]; exact Or.inr (Or.inl (Or.inl (Or.inr h9)))
  have hf_44 := hts (.fieldLink RX1 44 "FaultEvidence" "votes" "[I") (by decide +kernel)
  have hf_60 := hts (.fieldLink RX1 60 "FaultEvidence" "takenBreaks" "Ljava/util/ArrayList;") (by decide +kernel)
  have I1 := I.n
  unfold lstZ at hZ
  rw [← was_dn q9 w9 hq (fun i9 hi => (I.k hi).1)]
  refine lv_iconst (v := (nI 0)) hx hb dX1_wasTaken_0 (by decide) ?_
  refine lv_istore_n (lv' := [(3, .int (nI 0)), (0, .ref (ad 0)), (1, .int (nI q9)), (2, .int (nI w9))]) hx hb dX1_wasTaken_1 rfl hl (by decide) rfl (fun ls hl => ?_)
  have loop_2 : ∀ (n9 : Nat) (i9 : Nat), sTn S - i9 < n9 → (∀ j9, j9 < i9 → (decide (sTk S j9 = q9) && decide (sVts S (sTa S j9) / 256 = w9)) = false) → i9 ≤ sTn S → ∀ ls : Array Slot, lv_has ls 5 [(3, .int (nI i9)), (0, .ref (ad 0)), (1, .int (nI q9)), (2, .int (nI w9))] → W pp l9 ee rm_X1_wasTaken ss mm aa bl me co ss.heap [] 0 0 (MQ bl (vp_Si (fun z_ => z_ = bI (ex (sTn S) (fun i9 => decide (sTk S i9 = q9) && decide (sVts S (sTa S i9) / 256 = w9))))) aa ss 0 0 (fun _ => False)) (F0 mm 2 ls []) := by
    intro n9
    induction n9 with
    | zero => intro i9 hm; exact absurd hm (Nat.not_lt_zero _)
    | succ n9 ih_2 =>
      intro i9 hm hno hin1 ls hl
      refine lv_iload_n hx hb dX1_wasTaken_2 rfl (lv_at hl 0 rfl) ?_
      refine lv_aload_n hx hb dX1_wasTaken_3 rfl (lv_at hl 1 rfl) ?_
      refine va_get (D := (dC, dI)) (ci := 2) (v := .ref (ad 10)) (C := RX1) (T := TX1) (N := 14) hx hb hts hin hown hK hP 0 rfl rfl 12 (by decide) hf_60 (fun _ h9 => h9) rfl dX1_wasTaken_4 ?_
      refine f_cVi (As := []) (rest := [.int (nI i9)]) ⟨hx, hb, hml, hown, hts⟩ (c_size l9 dC dI (ad 10) mc ed (sTn S)) (cwV 0 hts gX1_wasTaken_Jx4a65c_size_8abf5 rfl rfl rfl (by decide +kernel) ⟨Nat.le_of_ble_eq_true rfl, Nat.le_of_ble_eq_true rfl⟩) roB_bl (va_recv hKl hPl (ci := 0) (q0 := 0) rfl rfl) (roB_at hPl hKl) rfl hl.1 rfl (Nat.le_of_ble_eq_true rfl) dX1_wasTaken_7 ⟨Nat.zero_le _, Nat.zero_le _⟩ ?_
      refine f_ige (tgt := 60) hx hb (nI_toInt (by omega)) (nI_toInt (by omega)) dX1_wasTaken_10 (by decide) (fun c_1 => ?_) (fun c_1 => ?_)
      · refine lv_iconst (v := (nI 0)) hx hb dX1_wasTaken_60 (by decide) ?_
        exact f_r0 hx hb hr hlocks (ex_no (fun j9 hj => hno j9 (by omega))) dX1_wasTaken_61
      · have hta := I.k (i := i9) (by omega)
        have hv := I.v hta.2.1
        refine lv_aload_n hx hb dX1_wasTaken_13 rfl (lv_at hl 1 rfl) ?_
        refine va_get (D := (dC, dI)) (ci := 2) (v := .ref (ad 10)) (C := RX1) (T := TX1) (N := 14) hx hb hts hin hown hK hP 0 rfl rfl 12 (by decide) hf_60 (fun _ h9 => h9) rfl dX1_wasTaken_14 ?_
        refine lv_iload_n hx hb dX1_wasTaken_17 rfl (lv_at hl 0 rfl) ?_
        obtain ⟨rfl, rfl, hn1, hn2⟩ := hZ.resolve_left (by omega)
        have hPg : va_P (dC, dI) vwCl [lwO (ad 10) mc ed (sTn S), lwA ed cO nn (foF pa S)] ss.heap := hP.sub [10, 11] rfl
        have hKg : va_K (dC, dI) vwCl [(cO, .object "java/lang/Object")] ss := hK.sub [9] rfl
        refine f_cVr (As := [.int (nI i9)]) (rest := []) ⟨hx, hb, hml, hown, hts⟩ (c_get l9 dC dI (ad 10) mc ed (sTn S) cO nn (foF pa S) i9 (pa i9) (by omega) hn1 hn2 (if_pos (by omega))) (cwV 1 hts gX1_wasTaken_Jx4a65c_get_915e3 rfl rfl rfl (by decide +kernel) ⟨Nat.le_of_ble_eq_true rfl, Nat.le_of_ble_eq_true rfl⟩) roB_bl (va_recv hKg hPg (ci := 0) (q0 := 0) rfl rfl) (roB_at hPg hKg) rfl hl.1 rfl (Nat.le_of_ble_eq_true rfl) dX1_wasTaken_18 ⟨Nat.zero_le _, Nat.zero_le _⟩ ?_
        refine va_castS hx hb hown hcl (hK.1 1 _ rfl).2 (va_recv hK hP (ci := 1) (q0 := i9 + 12) rfl (tw_get (by omega))) dX1_wasTaken_21 ?_
        refine lv_astore (lv' := [(4, .ref (pa i9)), (3, .int (nI i9)), (0, .ref (ad 0)), (1, .int (nI q9)), (2, .int (nI w9))]) hx hb dX1_wasTaken_24 hl (by decide) rfl (fun ls hl => ?_)
        refine lv_aload hx hb dX1_wasTaken_26 (lv_at hl 0 rfl) ?_
        refine va_getN (D := (dC, dI)) (ci := 1) (v := .int (nI (sTk S i9))) (C := RX0) (T := TX0) (N := 7) hx hb hts hin0 hown hK hP (i9 + 12) (tw_get (by omega)) rfl 0 (by decide) (va_Nw.use rfl hN.1) (fun _ h9 => h9) rfl dX1_wasTaken_28 ?_
        refine lv_iload_n hx hb dX1_wasTaken_31 rfl (lv_at hl 3 rfl) ?_
        refine f_ine (tgt := 54) hx hb (nI_toInt (by omega)) (nI_toInt (by omega)) dX1_wasTaken_32 (by decide) (fun c_2 => ?_) (fun c_2 => ?_)
        · refine lv_iinc (v := (nI (i9 + 1))) (lv' := [(3, .int (nI (i9 + 1))), (4, .ref (pa i9)), (0, .ref (ad 0)), (1, .int (nI q9)), (2, .int (nI w9))]) hx hb dX1_wasTaken_54 hl (k := 1) rfl (nI_add i9 1) (by decide) rfl (fun ls hl => ?_)
          refine lv_goto (tgt := 2) hx hb dX1_wasTaken_57 (by decide) ?_
          exact ih_2 (i9 + 1) (by omega) (lt_s hno (by rw [Bool.and_eq_false_iff, decide_eq_false_iff_not, decide_eq_false_iff_not]; omega)) (by omega) ls (lv_sub hl [0, 2, 3, 4] rfl)
        · refine lv_aload_n hx hb dX1_wasTaken_35 rfl (lv_at hl 2 rfl) ?_
          refine va_get (D := (dC, dI)) (ci := 2) (v := .ref (ad 7)) (C := RX1) (T := TX1) (N := 14) hx hb hts hin hown hK hP 0 rfl rfl 8 (by decide) hf_44 (fun _ h9 => h9) rfl dX1_wasTaken_36 ?_
          refine lv_aload hx hb dX1_wasTaken_39 (lv_at hl 0 rfl) ?_
          refine va_getN (D := (dC, dI)) (ci := 1) (v := .int (nI (sTa S i9))) (C := RX0) (T := TX0) (N := 7) hx hb hts hin0 hown hK hP (i9 + 12) (tw_get (by omega)) rfl 1 (by decide) (va_Nw.use rfl hN.2.1) (fun _ h9 => h9) rfl dX1_wasTaken_41 ?_
          refine f_iald hx hb hK hP 7 6 rfl rfl (k := (sTa S i9)) (by omega) (by decide) (v := (nI (sVts S (sTa S i9)))) rfl dX1_wasTaken_44 ?_
          refine f_cSi (As := [.int (nI (sVts S (sTa S i9)))]) (rest := []) ⟨hx, hb, hml, hown, hts⟩ (c_X1_voterOf l9 (sVts S (sTa S i9)) (by omega)) (va_cwS 1 hts gX1_wasTaken_X1_voterOf rfl rfl rfl (by decide +kernel) ⟨Nat.le_of_ble_eq_true rfl, Nat.le_of_ble_eq_true rfl⟩) noB_bl noB_at rfl hl.1 rfl (Nat.le_of_ble_eq_true rfl) dX1_wasTaken_45 ⟨Nat.zero_le _, Nat.zero_le _⟩ ?_
          refine lv_iload_n hx hb dX1_wasTaken_48 rfl (lv_at hl 4 rfl) ?_
          refine f_ine (tgt := 54) hx hb (nI_toInt (by omega)) (nI_toInt (by omega)) dX1_wasTaken_49 (by decide) (fun c_3 => ?_) (fun c_3 => ?_)
          · refine lv_iinc (v := (nI (i9 + 1))) (lv' := [(3, .int (nI (i9 + 1))), (4, .ref (pa i9)), (0, .ref (ad 0)), (1, .int (nI q9)), (2, .int (nI w9))]) hx hb dX1_wasTaken_54 hl (k := 1) rfl (nI_add i9 1) (by decide) rfl (fun ls hl => ?_)
            refine lv_goto (tgt := 2) hx hb dX1_wasTaken_57 (by decide) ?_
            exact ih_2 (i9 + 1) (by omega) (lt_s hno (by rw [Bool.and_eq_false_iff, decide_eq_false_iff_not, decide_eq_false_iff_not]; omega)) (by omega) ls (lv_sub hl [0, 2, 3, 4] rfl)
          · refine lv_iconst (v := (nI 1)) hx hb dX1_wasTaken_52 (by decide) ?_
            exact f_r1 hx hb hr hlocks (ex_yes i9 (by omega) (by simp only [Bool.and_eq_true, decide_eq_true_eq]; omega)) dX1_wasTaken_53
  exact loop_2 (sTn S - 0 + 1) 0 (Nat.lt_succ_self _) (fun j9 hj => absurd hj (Nat.not_lt_zero _)) (Nat.zero_le _) ls (lv_sub hl [0, 1, 2, 3] rfl)
