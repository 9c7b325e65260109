abbrev rm_X1_accuseRefusal : Room := { frames := 5, cells := 0, slots := 0, locals := 115 }
set_option maxHeartbeats 4000000 in
set_option maxRecDepth 100000 in
theorem c_X1_accuseRefusal (l9 : Launch) (dC : Nat → ClassId) (dI : Nat → Nat → Nat) (ad : Nat → Nat) (cy : Nat → ClassId) (S : St) (mc : Int32) (ed nn : Nat) (cO : ClassId) (pa : Nat → Nat) (Z : va_W) (tz : List (ClassId × FieldType)) (x9 : Int32) (a9 : Int32) (b9 : Int32) (y9 : Int32) (I : Inv S) (hT : sTn S ≤ 512) (hZ : lstZ S ed nn cO pa Z tz) : RoI l9 yX1_accuseRefusal wsX1_accuseRefusal rm_X1_accuseRefusal [.ref (ad 0), .int x9, .int a9, .int b9, .int y9] (tB dC dI ad cy S mc ed Z tz) (arF S x9 a9 b9 y9) := by
  refine Ro_start (cc := cX1_accuseRefusal) (maxL := 6) (ret := (some .int)) (lv := [(0, .ref (ad 0)), (1, .int x9), (2, .int a9), (3, .int b9), (4, .int y9)]) (by decide) rfl (Nat.le_of_ble_eq_true rfl) rfl ?_
  intro pp ee ss mm aa bl me co hx hb hr hml hts hown hlocks hnm hB ls hl
  obtain ⟨⟨hP, hK⟩, hN⟩ := hB
  have hPx : va_P (dC, dI) vwCl (xw ad cy S) ss.heap := pl_left hP
  have hKx : va_K (dC, dI) vwCl (xty cy) ss := kl_left hK
  have hPl : va_P (dC, dI) vwCl [lwO (ad 10) mc ed (sTn S)] ss.heap := hP.sub [10] rfl
  have hKl : va_K (dC, dI) vwCl [] ss := hK.sub [] rfl
  have hin : ∀ w9 ∈ wsX10, w9 ∈ wsX1_accuseRefusal := fun w9 h9 => by simp only [wsX1_accuseRefusal, List.mem_cons, List.mem_append]; exact Or.inr (Or.inl (Or.inl (Or.inr h9)))
  have hf_17 := hts (.fieldLink RX1 17 "FaultEvidence" "rules" "[J") (by decide +kernel)
  have hf_35 := hts (.fieldLink RX1 35 "FaultEvidence" "currentHeight" "I") (by decide +kernel)
  have hf_44 := hts (.fieldLink RX1 44 "FaultEvidence" "votes" "[I") (by decide +kernel)
  have I1 := I.n
  refine lv_aload_n hx hb dX1_accuseRefusal_0 rfl (lv_at hl 0 rfl) ?_
  refine lv_iload_n hx hb dX1_accuseRefusal_1 rfl (lv_at hl 2 rfl) ?_
  refine f_cVi (As := [.int a9]) (rest := []) ⟨hx, hb, hml, hown, hts⟩ (c_X1_isVote l9 dC dI ad cy S a9 I) (cwV 1 hts gX1_accuseRefusal_X1_isVote rfl rfl rfl (by decide +kernel) ⟨Nat.le_of_ble_eq_true rfl, Nat.le_of_ble_eq_true rfl⟩) roB_bl (va_recv hK hP (ci := 2) (q0 := 0) rfl rfl) (roB_at hPx hKx) rfl hl.1 rfl (Nat.le_of_ble_eq_true rfl) dX1_accuseRefusal_2 ⟨Nat.zero_le _, Nat.zero_le _⟩ ?_
  refine f_beq (tgt := 30) hx hb dX1_accuseRefusal_5 (by decide) (fun c_1 => ?_) (fun c_1 => ?_)
  · refine lv_bipush (v := (-101)) hx hb dX1_accuseRefusal_30 (by decide) ?_
    exact f_ri hx hb hr hlocks (by unfold arF; rw [if_pos]; simp [*] <;> omega) dX1_accuseRefusal_32
  · obtain ⟨g9, hg, rfl⟩ := vt_of c_1
    have hav := c_1
    have hv := I.v hg
    have hta := tn_nI (n := g9) (by omega)
    have hrr := I.r
    refine lv_iload_n hx hb dX1_accuseRefusal_8 rfl (lv_at hl 1 rfl) ?_
    refine lv_iconst (v := (nI 2)) hx hb dX1_accuseRefusal_9 (by decide) ?_
    refine f_ieq (tgt := 21) hx hb (rfl) (nI_toInt (by omega)) dX1_accuseRefusal_10 (by decide) (fun c_2 => ?_) (fun c_2 => ?_)
    · have hb01 : (decide (x9.toInt = 2) || isVt S b9) = true := by simp; omega
      refine lv_aload_n hx hb dX1_accuseRefusal_21 rfl (lv_at hl 0 rfl) ?_
      refine lv_iload hx hb dX1_accuseRefusal_22 (lv_at hl 4 rfl) ?_
      refine f_cVi (As := [.int y9]) (rest := []) ⟨hx, hb, hml, hown, hts⟩ (c_X1_isNodeOrNone l9 dC dI ad cy S y9 I) (cwV 1 hts gX1_accuseRefusal_X1_isNodeOrNone rfl rfl rfl (by decide +kernel) ⟨Nat.le_of_ble_eq_true rfl, Nat.le_of_ble_eq_true rfl⟩) roB_bl (va_recv hK hP (ci := 2) (q0 := 0) rfl rfl) (roB_at hPx hKx) rfl hl.1 rfl (Nat.le_of_ble_eq_true rfl) dX1_accuseRefusal_24 ⟨Nat.zero_le _, Nat.zero_le _⟩ ?_
      refine f_bne (tgt := 33) hx hb dX1_accuseRefusal_27 (by decide) (fun c_3 => ?_) (fun c_3 => ?_)
      · have hnn := c_3
        have h101 := and3 hav hb01 hnn
        refine lv_iload_n hx hb dX1_accuseRefusal_33 rfl (lv_at hl 1 rfl) ?_
        refine f_cSi (As := [.int x9]) (rest := []) ⟨hx, hb, hml, hown, hts⟩ (c_X1_isKind l9 x9) (va_cwS 1 hts gX1_accuseRefusal_X1_isKind rfl rfl rfl (by decide +kernel) ⟨Nat.le_of_ble_eq_true rfl, Nat.le_of_ble_eq_true rfl⟩) noB_bl noB_at rfl hl.1 rfl (Nat.le_of_ble_eq_true rfl) dX1_accuseRefusal_34 ⟨Nat.zero_le _, Nat.zero_le _⟩ ?_
        refine f_bne (tgt := 43) hx hb dX1_accuseRefusal_37 (by decide) (fun c_4 => ?_) (fun c_4 => ?_)
        · have hkd := c_4
          obtain ⟨q9, hq, rfl⟩ := kd_of c_4
          have htq := tn_nI (n := q9) (by omega)
          have hqi := nI_toInt (n := q9) (by omega)
          refine lv_aload_n hx hb dX1_accuseRefusal_43 rfl (lv_at hl 0 rfl) ?_
          refine va_get (D := (dC, dI)) (ci := 2) (v := .ref (ad 7)) (C := RX1) (T := TX1) (N := 14) hx hb hts hin hown hK hP 0 rfl rfl 8 (by decide) hf_44 (fun _ h9 => h9) rfl dX1_accuseRefusal_44 ?_
          refine lv_iload_n hx hb dX1_accuseRefusal_47 rfl (lv_at hl 2 rfl) ?_
          refine f_iald hx hb hK hP 7 6 rfl rfl (k := g9) (by omega) (by decide) (v := (nI (sVts S g9))) rfl dX1_accuseRefusal_48 ?_
          refine lv_istore (lv' := [(5, .int (nI (sVts S g9))), (0, .ref (ad 0)), (1, .int (nI q9)), (2, .int (nI g9)), (3, .int b9), (4, .int y9)]) hx hb dX1_accuseRefusal_49 hl (by decide) rfl (fun ls hl => ?_)
          refine lv_iload_n hx hb dX1_accuseRefusal_51 rfl (lv_at hl 2 rfl) ?_
          refine lv_iconst (v := (nI 2)) hx hb dX1_accuseRefusal_52 (by decide) ?_
          refine f_ine (tgt := 68) hx hb (nI_toInt (by omega)) (nI_toInt (by omega)) dX1_accuseRefusal_53 (by decide) (fun c_5 => ?_) (fun c_5 => ?_)
          · exfalso; omega
          · have hq2 : q9 = 2 := by omega
            have hbkE : (if (nI q9).toInt = 2 then brF S (sVts S (tn (nI g9))) else prF S (tn (nI q9)) (sVts S (tn (nI g9))) (sVts S (tn b9))) = brF S (sVts S g9) := by rw [if_pos (by omega), hta]
            refine lv_aload_n hx hb dX1_accuseRefusal_56 rfl (lv_at hl 1 rfl) ?_
            refine lv_iload hx hb dX1_accuseRefusal_57 (lv_at hl 0 rfl) ?_
            refine f_cVi (As := [.int (nI (sVts S g9))]) (rest := []) ⟨hx, hb, hml, hown, hts⟩ (c_X1_isBare l9 dC dI ad cy S (sVts S g9) I (by omega) (by omega)) (cwV 1 hts gX1_accuseRefusal_X1_isBare rfl rfl rfl (by decide +kernel) ⟨Nat.le_of_ble_eq_true rfl, Nat.le_of_ble_eq_true rfl⟩) roB_bl (va_recv hK hP (ci := 2) (q0 := 0) rfl rfl) (roB_at hPx hKx) rfl hl.1 rfl (Nat.le_of_ble_eq_true rfl) dX1_accuseRefusal_59 ⟨Nat.zero_le _, Nat.zero_le _⟩ ?_
            refine f_beq (tgt := 84) hx hb dX1_accuseRefusal_62 (by decide) (fun c_6 => ?_) (fun c_6 => ?_)
            · have hbk := hbkE.trans c_6
              refine lv_bipush (v := (-105)) hx hb dX1_accuseRefusal_84 (by decide) ?_
              exact f_ri hx hb hr hlocks (by unfold arF; rw [if_neg (by rw [h101]; decide), if_neg (by rw [hkd]; decide), if_pos hbk]) dX1_accuseRefusal_86
            · have hbk := hbkE.trans c_6
              refine lv_goto (tgt := 87) hx hb dX1_accuseRefusal_65 (by decide) ?_
              have hop : isOp S (nI (sVts S g9 / 2048)) = decide (sHh S < sVts S g9 / 2048 + 2) := by
                have e1 := nI_toInt (n := sVts S g9 / 2048) (by omega)
                have e2 : (1 : Int) ≤ ((sVts S g9 / 2048 : Nat) : Int) := by omega
                have e3 : ((sVts S g9 / 2048 : Nat) : Int) ≤ (sHh S : Int) := by omega
                rw [Bool.eq_iff_iff]
                simp only [isOp, isBg, e1, Bool.and_eq_true, decide_eq_true_eq]
                omega
              refine lv_iload_n hx hb dX1_accuseRefusal_87 rfl (lv_at hl 2 rfl) ?_
              refine f_0eq (tgt := 106) hx hb (nI_toInt (by omega)) dX1_accuseRefusal_88 (by decide) (fun c_7 => ?_) (fun c_7 => ?_)
              · refine lv_aload_n hx hb dX1_accuseRefusal_106 rfl (lv_at hl 1 rfl) ?_
                refine va_get (D := (dC, dI)) (ci := 2) (v := .int (nI (sHh S))) (C := RX1) (T := TX1) (N := 14) hx hb hts hin hown hK hP 0 rfl rfl 5 (by decide) hf_35 (fun _ h9 => h9) rfl dX1_accuseRefusal_107 ?_
                refine lv_iload hx hb dX1_accuseRefusal_110 (lv_at hl 0 rfl) ?_
                refine f_cSi (As := [.int (nI (sVts S g9))]) (rest := [.int (nI (sHh S))]) ⟨hx, hb, hml, hown, hts⟩ (c_X1_heightOf l9 (sVts S g9) (by omega)) (va_cwS 1 hts gX1_accuseRefusal_X1_heightOf rfl rfl rfl (by decide +kernel) ⟨Nat.le_of_ble_eq_true rfl, Nat.le_of_ble_eq_true rfl⟩) noB_bl noB_at rfl hl.1 rfl (Nat.le_of_ble_eq_true rfl) dX1_accuseRefusal_112 ⟨Nat.zero_le _, Nat.zero_le _⟩ ?_
                refine lv_isub hx hb dX1_accuseRefusal_115 ?_
                refine f_ti (y := (nI (sHh S - sVts S g9 / 2048))) (pk_sub (by omega)) ?_
                refine lv_i2l (v := (lN (sHh S - sVts S g9 / 2048))) hx hb dX1_accuseRefusal_116 (nI_l (by omega)) ?_
                refine lv_aload_n hx hb dX1_accuseRefusal_117 rfl (lv_at hl 1 rfl) ?_
                refine va_get (D := (dC, dI)) (ci := 2) (v := .ref (ad 1)) (C := RX1) (T := TX1) (N := 14) hx hb hts hin hown hK hP 0 rfl rfl 0 (by decide) hf_17 (fun _ h9 => h9) rfl dX1_accuseRefusal_118 ?_
                refine lv_iconst (v := (nI 3)) hx hb dX1_accuseRefusal_121 (by decide) ?_
                refine f_lald hx hb hK hP 1 0 rfl rfl (k := 3) (by omega) (by decide) (v := (lN (sRul S 3))) rfl dX1_accuseRefusal_122 ?_
                refine f_lle (tgt := 130) hx hb (pk_lT (by omega)) (pk_lT (by omega)) dX1_accuseRefusal_123 dX1_accuseRefusal_124 (by decide) (fun c_8 => ?_) (fun c_8 => ?_)
                · refine lv_aload_n hx hb dX1_accuseRefusal_130 rfl (lv_at hl 1 rfl) ?_
                  refine lv_iload_n hx hb dX1_accuseRefusal_131 rfl (lv_at hl 2 rfl) ?_
                  refine lv_iload hx hb dX1_accuseRefusal_132 (lv_at hl 0 rfl) ?_
                  refine f_cSi (As := [.int (nI (sVts S g9))]) (rest := [.int (nI q9), .ref (ad 0)]) ⟨hx, hb, hml, hown, hts⟩ (c_X1_voterOf l9 (sVts S g9) (by omega)) (va_cwS 1 hts gX1_accuseRefusal_X1_voterOf rfl rfl rfl (by decide +kernel) ⟨Nat.le_of_ble_eq_true rfl, Nat.le_of_ble_eq_true rfl⟩) noB_bl noB_at rfl hl.1 rfl (Nat.le_of_ble_eq_true rfl) dX1_accuseRefusal_134 ⟨Nat.zero_le _, Nat.zero_le _⟩ ?_
                  refine f_cVi (As := [.int (nI q9), .int (nI ((sVts S g9) / 256))]) (rest := []) ⟨hx, hb, hml, hown, hts⟩ (c_X1_wasTaken l9 dC dI ad cy S mc ed nn cO pa Z tz q9 ((sVts S g9) / 256) I hT hZ (by omega) (by omega)) (cwV 2 hts gX1_accuseRefusal_X1_wasTaken rfl rfl rfl (by decide +kernel) ⟨Nat.le_of_ble_eq_true rfl, Nat.le_of_ble_eq_true rfl⟩) tB_bl (va_recv hK hP (ci := 2) (q0 := 0) rfl rfl) (tB_at hP hK hN) rfl hl.1 rfl (Nat.le_of_ble_eq_true rfl) dX1_accuseRefusal_137 ⟨Nat.zero_le _, Nat.zero_le _⟩ ?_
                  refine f_beq (tgt := 148) hx hb dX1_accuseRefusal_140 (by decide) (fun c_9 => ?_) (fun c_9 => ?_)
                  · have hdn := c_9
                    refine lv_iconst (v := (nI 0)) hx hb dX1_accuseRefusal_148 (by decide) ?_
                    exact f_ri hx hb hr hlocks (by first | (refine (ar_ok h101 hkd hbk (by rw [hta]; omega) (by rw [hta]; omega) (by rw [hta, htq]; exact hdn)).symm) | (unfold arF; rw [if_neg (by rw [h101]; decide), if_neg (by rw [hkd]; decide), if_neg (by rw [hbk]; decide), hta, if_neg (by omega), if_neg (by omega), htq, if_pos hdn])) dX1_accuseRefusal_149
                  · have hdn := c_9
                    refine lv_bipush (v := (-108)) hx hb dX1_accuseRefusal_143 (by decide) ?_
                    refine lv_goto (tgt := 149) hx hb dX1_accuseRefusal_145 (by decide) ?_
                    exact f_ri hx hb hr hlocks (by first | (refine (ar_ok h101 hkd hbk (by rw [hta]; omega) (by rw [hta]; omega) (by rw [hta, htq]; exact hdn)).symm) | (unfold arF; rw [if_neg (by rw [h101]; decide), if_neg (by rw [hkd]; decide), if_neg (by rw [hbk]; decide), hta, if_neg (by omega), if_neg (by omega), htq, if_pos hdn])) dX1_accuseRefusal_149
                · refine lv_bipush (v := (-107)) hx hb dX1_accuseRefusal_127 (by decide) ?_
                  exact f_ri hx hb hr hlocks (by unfold arF; rw [if_neg (by rw [h101]; decide), if_neg (by rw [hkd]; decide), if_neg (by rw [hbk]; decide), hta, if_neg (by omega), if_pos (by omega)]) dX1_accuseRefusal_129
              · refine lv_aload_n hx hb dX1_accuseRefusal_91 rfl (lv_at hl 1 rfl) ?_
                refine lv_iload hx hb dX1_accuseRefusal_92 (lv_at hl 0 rfl) ?_
                refine f_cSi (As := [.int (nI (sVts S g9))]) (rest := [.ref (ad 0)]) ⟨hx, hb, hml, hown, hts⟩ (c_X1_heightOf l9 (sVts S g9) (by omega)) (va_cwS 1 hts gX1_accuseRefusal_X1_heightOf rfl rfl rfl (by decide +kernel) ⟨Nat.le_of_ble_eq_true rfl, Nat.le_of_ble_eq_true rfl⟩) noB_bl noB_at rfl hl.1 rfl (Nat.le_of_ble_eq_true rfl) dX1_accuseRefusal_94 ⟨Nat.zero_le _, Nat.zero_le _⟩ ?_
                refine f_cVi (As := [.int (nI ((sVts S g9) / 2048))]) (rest := []) ⟨hx, hb, hml, hown, hts⟩ (c_X1_isOpen l9 dC dI ad cy S (nI ((sVts S g9) / 2048)) I) (cwV 1 hts gX1_accuseRefusal_X1_isOpen rfl rfl rfl (by decide +kernel) ⟨Nat.le_of_ble_eq_true rfl, Nat.le_of_ble_eq_true rfl⟩) roB_bl (va_recv hK hP (ci := 2) (q0 := 0) rfl rfl) (roB_at hPx hKx) rfl hl.1 rfl (Nat.le_of_ble_eq_true rfl) dX1_accuseRefusal_97 ⟨Nat.zero_le _, Nat.zero_le _⟩ ?_
                refine f_beq (tgt := 106) hx hb dX1_accuseRefusal_100 (by decide) (fun c_10 => ?_) (fun c_10 => ?_)
                · rw [hop, decide_eq_false_iff_not] at c_10
                  refine lv_aload_n hx hb dX1_accuseRefusal_106 rfl (lv_at hl 1 rfl) ?_
                  refine va_get (D := (dC, dI)) (ci := 2) (v := .int (nI (sHh S))) (C := RX1) (T := TX1) (N := 14) hx hb hts hin hown hK hP 0 rfl rfl 5 (by decide) hf_35 (fun _ h9 => h9) rfl dX1_accuseRefusal_107 ?_
                  refine lv_iload hx hb dX1_accuseRefusal_110 (lv_at hl 0 rfl) ?_
                  refine f_cSi (As := [.int (nI (sVts S g9))]) (rest := [.int (nI (sHh S))]) ⟨hx, hb, hml, hown, hts⟩ (c_X1_heightOf l9 (sVts S g9) (by omega)) (va_cwS 1 hts gX1_accuseRefusal_X1_heightOf rfl rfl rfl (by decide +kernel) ⟨Nat.le_of_ble_eq_true rfl, Nat.le_of_ble_eq_true rfl⟩) noB_bl noB_at rfl hl.1 rfl (Nat.le_of_ble_eq_true rfl) dX1_accuseRefusal_112 ⟨Nat.zero_le _, Nat.zero_le _⟩ ?_
                  refine lv_isub hx hb dX1_accuseRefusal_115 ?_
                  refine f_ti (y := (nI (sHh S - sVts S g9 / 2048))) (pk_sub (by omega)) ?_
                  refine lv_i2l (v := (lN (sHh S - sVts S g9 / 2048))) hx hb dX1_accuseRefusal_116 (nI_l (by omega)) ?_
                  refine lv_aload_n hx hb dX1_accuseRefusal_117 rfl (lv_at hl 1 rfl) ?_
                  refine va_get (D := (dC, dI)) (ci := 2) (v := .ref (ad 1)) (C := RX1) (T := TX1) (N := 14) hx hb hts hin hown hK hP 0 rfl rfl 0 (by decide) hf_17 (fun _ h9 => h9) rfl dX1_accuseRefusal_118 ?_
                  refine lv_iconst (v := (nI 3)) hx hb dX1_accuseRefusal_121 (by decide) ?_
                  refine f_lald hx hb hK hP 1 0 rfl rfl (k := 3) (by omega) (by decide) (v := (lN (sRul S 3))) rfl dX1_accuseRefusal_122 ?_
                  refine f_lle (tgt := 130) hx hb (pk_lT (by omega)) (pk_lT (by omega)) dX1_accuseRefusal_123 dX1_accuseRefusal_124 (by decide) (fun c_11 => ?_) (fun c_11 => ?_)
                  · refine lv_aload_n hx hb dX1_accuseRefusal_130 rfl (lv_at hl 1 rfl) ?_
                    refine lv_iload_n hx hb dX1_accuseRefusal_131 rfl (lv_at hl 2 rfl) ?_
                    refine lv_iload hx hb dX1_accuseRefusal_132 (lv_at hl 0 rfl) ?_
                    refine f_cSi (As := [.int (nI (sVts S g9))]) (rest := [.int (nI q9), .ref (ad 0)]) ⟨hx, hb, hml, hown, hts⟩ (c_X1_voterOf l9 (sVts S g9) (by omega)) (va_cwS 1 hts gX1_accuseRefusal_X1_voterOf rfl rfl rfl (by decide +kernel) ⟨Nat.le_of_ble_eq_true rfl, Nat.le_of_ble_eq_true rfl⟩) noB_bl noB_at rfl hl.1 rfl (Nat.le_of_ble_eq_true rfl) dX1_accuseRefusal_134 ⟨Nat.zero_le _, Nat.zero_le _⟩ ?_
                    refine f_cVi (As := [.int (nI q9), .int (nI ((sVts S g9) / 256))]) (rest := []) ⟨hx, hb, hml, hown, hts⟩ (c_X1_wasTaken l9 dC dI ad cy S mc ed nn cO pa Z tz q9 ((sVts S g9) / 256) I hT hZ (by omega) (by omega)) (cwV 2 hts gX1_accuseRefusal_X1_wasTaken rfl rfl rfl (by decide +kernel) ⟨Nat.le_of_ble_eq_true rfl, Nat.le_of_ble_eq_true rfl⟩) tB_bl (va_recv hK hP (ci := 2) (q0 := 0) rfl rfl) (tB_at hP hK hN) rfl hl.1 rfl (Nat.le_of_ble_eq_true rfl) dX1_accuseRefusal_137 ⟨Nat.zero_le _, Nat.zero_le _⟩ ?_
                    refine f_beq (tgt := 148) hx hb dX1_accuseRefusal_140 (by decide) (fun c_12 => ?_) (fun c_12 => ?_)
                    · have hdn := c_12
                      refine lv_iconst (v := (nI 0)) hx hb dX1_accuseRefusal_148 (by decide) ?_
                      exact f_ri hx hb hr hlocks (by first | (refine (ar_ok h101 hkd hbk (by rw [hta]; omega) (by rw [hta]; omega) (by rw [hta, htq]; exact hdn)).symm) | (unfold arF; rw [if_neg (by rw [h101]; decide), if_neg (by rw [hkd]; decide), if_neg (by rw [hbk]; decide), hta, if_neg (by omega), if_neg (by omega), htq, if_pos hdn])) dX1_accuseRefusal_149
                    · have hdn := c_12
                      refine lv_bipush (v := (-108)) hx hb dX1_accuseRefusal_143 (by decide) ?_
                      refine lv_goto (tgt := 149) hx hb dX1_accuseRefusal_145 (by decide) ?_
                      exact f_ri hx hb hr hlocks (by first | (refine (ar_ok h101 hkd hbk (by rw [hta]; omega) (by rw [hta]; omega) (by rw [hta, htq]; exact hdn)).symm) | (unfold arF; rw [if_neg (by rw [h101]; decide), if_neg (by rw [hkd]; decide), if_neg (by rw [hbk]; decide), hta, if_neg (by omega), if_neg (by omega), htq, if_pos hdn])) dX1_accuseRefusal_149
                  · refine lv_bipush (v := (-107)) hx hb dX1_accuseRefusal_127 (by decide) ?_
                    exact f_ri hx hb hr hlocks (by unfold arF; rw [if_neg (by rw [h101]; decide), if_neg (by rw [hkd]; decide), if_neg (by rw [hbk]; decide), hta, if_neg (by omega), if_pos (by omega)]) dX1_accuseRefusal_129
                · rw [hop, decide_eq_true_eq] at c_10
                  refine lv_bipush (v := (-106)) hx hb dX1_accuseRefusal_103 (by decide) ?_
                  exact f_ri hx hb hr hlocks (by unfold arF; rw [if_neg (by rw [h101]; decide), if_neg (by rw [hkd]; decide), if_neg (by rw [hbk]; decide), hta, if_pos (by omega)]) dX1_accuseRefusal_105
        · have hkd := c_4
          refine lv_bipush (v := (-102)) hx hb dX1_accuseRefusal_40 (by decide) ?_
          exact f_ri hx hb hr hlocks (by unfold arF; rw [if_neg (by rw [h101]; decide), if_pos hkd]) dX1_accuseRefusal_42
      · refine lv_bipush (v := (-101)) hx hb dX1_accuseRefusal_30 (by decide) ?_
        exact f_ri hx hb hr hlocks (by unfold arF; rw [if_pos]; simp [*] <;> omega) dX1_accuseRefusal_32
    · refine lv_aload_n hx hb dX1_accuseRefusal_13 rfl (lv_at hl 0 rfl) ?_
      refine lv_iload_n hx hb dX1_accuseRefusal_14 rfl (lv_at hl 3 rfl) ?_
      refine f_cVi (As := [.int b9]) (rest := []) ⟨hx, hb, hml, hown, hts⟩ (c_X1_isVote l9 dC dI ad cy S b9 I) (cwV 1 hts gX1_accuseRefusal_X1_isVote rfl rfl rfl (by decide +kernel) ⟨Nat.le_of_ble_eq_true rfl, Nat.le_of_ble_eq_true rfl⟩) roB_bl (va_recv hK hP (ci := 2) (q0 := 0) rfl rfl) (roB_at hPx hKx) rfl hl.1 rfl (Nat.le_of_ble_eq_true rfl) dX1_accuseRefusal_15 ⟨Nat.zero_le _, Nat.zero_le _⟩ ?_
      refine f_beq (tgt := 30) hx hb dX1_accuseRefusal_18 (by decide) (fun c_13 => ?_) (fun c_13 => ?_)
      · refine lv_bipush (v := (-101)) hx hb dX1_accuseRefusal_30 (by decide) ?_
        exact f_ri hx hb hr hlocks (by unfold arF; rw [if_pos]; simp [*] <;> omega) dX1_accuseRefusal_32
      · obtain ⟨i9, hi, rfl⟩ := vt_of c_13
        have hb01 : (decide (x9.toInt = 2) || isVt S (nI i9)) = true := by rw [c_13]; simp
        have hwv := I.v hi
        have htb := tn_nI (n := i9) (by omega)
        refine lv_aload_n hx hb dX1_accuseRefusal_21 rfl (lv_at hl 0 rfl) ?_
        refine lv_iload hx hb dX1_accuseRefusal_22 (lv_at hl 4 rfl) ?_
        refine f_cVi (As := [.int y9]) (rest := []) ⟨hx, hb, hml, hown, hts⟩ (c_X1_isNodeOrNone l9 dC dI ad cy S y9 I) (cwV 1 hts gX1_accuseRefusal_X1_isNodeOrNone rfl rfl rfl (by decide +kernel) ⟨Nat.le_of_ble_eq_true rfl, Nat.le_of_ble_eq_true rfl⟩) roB_bl (va_recv hK hP (ci := 2) (q0 := 0) rfl rfl) (roB_at hPx hKx) rfl hl.1 rfl (Nat.le_of_ble_eq_true rfl) dX1_accuseRefusal_24 ⟨Nat.zero_le _, Nat.zero_le _⟩ ?_
        refine f_bne (tgt := 33) hx hb dX1_accuseRefusal_27 (by decide) (fun c_14 => ?_) (fun c_14 => ?_)
        · have hnn := c_14
          have h101 := and3 hav hb01 hnn
          refine lv_iload_n hx hb dX1_accuseRefusal_33 rfl (lv_at hl 1 rfl) ?_
          refine f_cSi (As := [.int x9]) (rest := []) ⟨hx, hb, hml, hown, hts⟩ (c_X1_isKind l9 x9) (va_cwS 1 hts gX1_accuseRefusal_X1_isKind rfl rfl rfl (by decide +kernel) ⟨Nat.le_of_ble_eq_true rfl, Nat.le_of_ble_eq_true rfl⟩) noB_bl noB_at rfl hl.1 rfl (Nat.le_of_ble_eq_true rfl) dX1_accuseRefusal_34 ⟨Nat.zero_le _, Nat.zero_le _⟩ ?_
          refine f_bne (tgt := 43) hx hb dX1_accuseRefusal_37 (by decide) (fun c_15 => ?_) (fun c_15 => ?_)
          · have hkd := c_15
            obtain ⟨q9, hq, rfl⟩ := kd_of c_15
            have htq := tn_nI (n := q9) (by omega)
            have hqi := nI_toInt (n := q9) (by omega)
            refine lv_aload_n hx hb dX1_accuseRefusal_43 rfl (lv_at hl 0 rfl) ?_
            refine va_get (D := (dC, dI)) (ci := 2) (v := .ref (ad 7)) (C := RX1) (T := TX1) (N := 14) hx hb hts hin hown hK hP 0 rfl rfl 8 (by decide) hf_44 (fun _ h9 => h9) rfl dX1_accuseRefusal_44 ?_
            refine lv_iload_n hx hb dX1_accuseRefusal_47 rfl (lv_at hl 2 rfl) ?_
            refine f_iald hx hb hK hP 7 6 rfl rfl (k := g9) (by omega) (by decide) (v := (nI (sVts S g9))) rfl dX1_accuseRefusal_48 ?_
            refine lv_istore (lv' := [(5, .int (nI (sVts S g9))), (0, .ref (ad 0)), (1, .int (nI q9)), (2, .int (nI g9)), (3, .int (nI i9)), (4, .int y9)]) hx hb dX1_accuseRefusal_49 hl (by decide) rfl (fun ls hl => ?_)
            refine lv_iload_n hx hb dX1_accuseRefusal_51 rfl (lv_at hl 2 rfl) ?_
            refine lv_iconst (v := (nI 2)) hx hb dX1_accuseRefusal_52 (by decide) ?_
            refine f_ine (tgt := 68) hx hb (nI_toInt (by omega)) (nI_toInt (by omega)) dX1_accuseRefusal_53 (by decide) (fun c_16 => ?_) (fun c_16 => ?_)
            · have hq2 : q9 ≠ 2 := by omega
              have hbkE : (if (nI q9).toInt = 2 then brF S (sVts S (tn (nI g9))) else prF S (tn (nI q9)) (sVts S (tn (nI g9))) (sVts S (tn (nI i9)))) = prF S q9 (sVts S g9) (sVts S i9) := by rw [if_neg (by omega), hta, htq, htb]
              refine lv_aload_n hx hb dX1_accuseRefusal_68 rfl (lv_at hl 1 rfl) ?_
              refine lv_iload_n hx hb dX1_accuseRefusal_69 rfl (lv_at hl 2 rfl) ?_
              refine lv_iload hx hb dX1_accuseRefusal_70 (lv_at hl 0 rfl) ?_
              refine lv_aload_n hx hb dX1_accuseRefusal_72 rfl (lv_at hl 1 rfl) ?_
              refine va_get (D := (dC, dI)) (ci := 2) (v := .ref (ad 7)) (C := RX1) (T := TX1) (N := 14) hx hb hts hin hown hK hP 0 rfl rfl 8 (by decide) hf_44 (fun _ h9 => h9) rfl dX1_accuseRefusal_73 ?_
              refine lv_iload_n hx hb dX1_accuseRefusal_76 rfl (lv_at hl 4 rfl) ?_
              refine f_iald hx hb hK hP 7 6 rfl rfl (k := i9) (by omega) (by decide) (v := (nI (sVts S i9))) rfl dX1_accuseRefusal_77 ?_
              refine f_cVi (As := [.int (nI q9), .int (nI (sVts S g9)), .int (nI (sVts S i9))]) (rest := []) ⟨hx, hb, hml, hown, hts⟩ (c_X1_isPair l9 dC dI ad cy S q9 (sVts S g9) (sVts S i9) I (by omega) (by omega) (by omega) (by omega) (by omega)) (cwV 3 hts gX1_accuseRefusal_X1_isPair rfl rfl rfl (by decide +kernel) ⟨Nat.le_of_ble_eq_true rfl, Nat.le_of_ble_eq_true rfl⟩) roB_bl (va_recv hK hP (ci := 2) (q0 := 0) rfl rfl) (roB_at hPx hKx) rfl hl.1 rfl (Nat.le_of_ble_eq_true rfl) dX1_accuseRefusal_78 ⟨Nat.zero_le _, Nat.zero_le _⟩ ?_
              refine f_bne (tgt := 87) hx hb dX1_accuseRefusal_81 (by decide) (fun c_17 => ?_) (fun c_17 => ?_)
              · have hbk := hbkE.trans c_17
                have hop : isOp S (nI (sVts S g9 / 2048)) = decide (sHh S < sVts S g9 / 2048 + 2) := by
                  have e1 := nI_toInt (n := sVts S g9 / 2048) (by omega)
                  have e2 : (1 : Int) ≤ ((sVts S g9 / 2048 : Nat) : Int) := by omega
                  have e3 : ((sVts S g9 / 2048 : Nat) : Int) ≤ (sHh S : Int) := by omega
                  rw [Bool.eq_iff_iff]
                  simp only [isOp, isBg, e1, Bool.and_eq_true, decide_eq_true_eq]
                  omega
                refine lv_iload_n hx hb dX1_accuseRefusal_87 rfl (lv_at hl 2 rfl) ?_
                refine f_0eq (tgt := 106) hx hb (nI_toInt (by omega)) dX1_accuseRefusal_88 (by decide) (fun c_18 => ?_) (fun c_18 => ?_)
                · refine lv_aload_n hx hb dX1_accuseRefusal_106 rfl (lv_at hl 1 rfl) ?_
                  refine va_get (D := (dC, dI)) (ci := 2) (v := .int (nI (sHh S))) (C := RX1) (T := TX1) (N := 14) hx hb hts hin hown hK hP 0 rfl rfl 5 (by decide) hf_35 (fun _ h9 => h9) rfl dX1_accuseRefusal_107 ?_
                  refine lv_iload hx hb dX1_accuseRefusal_110 (lv_at hl 0 rfl) ?_
                  refine f_cSi (As := [.int (nI (sVts S g9))]) (rest := [.int (nI (sHh S))]) ⟨hx, hb, hml, hown, hts⟩ (c_X1_heightOf l9 (sVts S g9) (by omega)) (va_cwS 1 hts gX1_accuseRefusal_X1_heightOf rfl rfl rfl (by decide +kernel) ⟨Nat.le_of_ble_eq_true rfl, Nat.le_of_ble_eq_true rfl⟩) noB_bl noB_at rfl hl.1 rfl (Nat.le_of_ble_eq_true rfl) dX1_accuseRefusal_112 ⟨Nat.zero_le _, Nat.zero_le _⟩ ?_
                  refine lv_isub hx hb dX1_accuseRefusal_115 ?_
                  refine f_ti (y := (nI (sHh S - sVts S g9 / 2048))) (pk_sub (by omega)) ?_
                  refine lv_i2l (v := (lN (sHh S - sVts S g9 / 2048))) hx hb dX1_accuseRefusal_116 (nI_l (by omega)) ?_
                  refine lv_aload_n hx hb dX1_accuseRefusal_117 rfl (lv_at hl 1 rfl) ?_
                  refine va_get (D := (dC, dI)) (ci := 2) (v := .ref (ad 1)) (C := RX1) (T := TX1) (N := 14) hx hb hts hin hown hK hP 0 rfl rfl 0 (by decide) hf_17 (fun _ h9 => h9) rfl dX1_accuseRefusal_118 ?_
                  refine lv_iconst (v := (nI 3)) hx hb dX1_accuseRefusal_121 (by decide) ?_
                  refine f_lald hx hb hK hP 1 0 rfl rfl (k := 3) (by omega) (by decide) (v := (lN (sRul S 3))) rfl dX1_accuseRefusal_122 ?_
                  refine f_lle (tgt := 130) hx hb (pk_lT (by omega)) (pk_lT (by omega)) dX1_accuseRefusal_123 dX1_accuseRefusal_124 (by decide) (fun c_19 => ?_) (fun c_19 => ?_)
                  · refine lv_aload_n hx hb dX1_accuseRefusal_130 rfl (lv_at hl 1 rfl) ?_
                    refine lv_iload_n hx hb dX1_accuseRefusal_131 rfl (lv_at hl 2 rfl) ?_
                    refine lv_iload hx hb dX1_accuseRefusal_132 (lv_at hl 0 rfl) ?_
                    refine f_cSi (As := [.int (nI (sVts S g9))]) (rest := [.int (nI q9), .ref (ad 0)]) ⟨hx, hb, hml, hown, hts⟩ (c_X1_voterOf l9 (sVts S g9) (by omega)) (va_cwS 1 hts gX1_accuseRefusal_X1_voterOf rfl rfl rfl (by decide +kernel) ⟨Nat.le_of_ble_eq_true rfl, Nat.le_of_ble_eq_true rfl⟩) noB_bl noB_at rfl hl.1 rfl (Nat.le_of_ble_eq_true rfl) dX1_accuseRefusal_134 ⟨Nat.zero_le _, Nat.zero_le _⟩ ?_
                    refine f_cVi (As := [.int (nI q9), .int (nI ((sVts S g9) / 256))]) (rest := []) ⟨hx, hb, hml, hown, hts⟩ (c_X1_wasTaken l9 dC dI ad cy S mc ed nn cO pa Z tz q9 ((sVts S g9) / 256) I hT hZ (by omega) (by omega)) (cwV 2 hts gX1_accuseRefusal_X1_wasTaken rfl rfl rfl (by decide +kernel) ⟨Nat.le_of_ble_eq_true rfl, Nat.le_of_ble_eq_true rfl⟩) tB_bl (va_recv hK hP (ci := 2) (q0 := 0) rfl rfl) (tB_at hP hK hN) rfl hl.1 rfl (Nat.le_of_ble_eq_true rfl) dX1_accuseRefusal_137 ⟨Nat.zero_le _, Nat.zero_le _⟩ ?_
                    refine f_beq (tgt := 148) hx hb dX1_accuseRefusal_140 (by decide) (fun c_20 => ?_) (fun c_20 => ?_)
                    · have hdn := c_20
                      refine lv_iconst (v := (nI 0)) hx hb dX1_accuseRefusal_148 (by decide) ?_
                      exact f_ri hx hb hr hlocks (by first | (refine (ar_ok h101 hkd hbk (by rw [hta]; omega) (by rw [hta]; omega) (by rw [hta, htq]; exact hdn)).symm) | (unfold arF; rw [if_neg (by rw [h101]; decide), if_neg (by rw [hkd]; decide), if_neg (by rw [hbk]; decide), hta, if_neg (by omega), if_neg (by omega), htq, if_pos hdn])) dX1_accuseRefusal_149
                    · have hdn := c_20
                      refine lv_bipush (v := (-108)) hx hb dX1_accuseRefusal_143 (by decide) ?_
                      refine lv_goto (tgt := 149) hx hb dX1_accuseRefusal_145 (by decide) ?_
                      exact f_ri hx hb hr hlocks (by first | (refine (ar_ok h101 hkd hbk (by rw [hta]; omega) (by rw [hta]; omega) (by rw [hta, htq]; exact hdn)).symm) | (unfold arF; rw [if_neg (by rw [h101]; decide), if_neg (by rw [hkd]; decide), if_neg (by rw [hbk]; decide), hta, if_neg (by omega), if_neg (by omega), htq, if_pos hdn])) dX1_accuseRefusal_149
                  · refine lv_bipush (v := (-107)) hx hb dX1_accuseRefusal_127 (by decide) ?_
                    exact f_ri hx hb hr hlocks (by unfold arF; rw [if_neg (by rw [h101]; decide), if_neg (by rw [hkd]; decide), if_neg (by rw [hbk]; decide), hta, if_neg (by omega), if_pos (by omega)]) dX1_accuseRefusal_129
                · refine lv_aload_n hx hb dX1_accuseRefusal_91 rfl (lv_at hl 1 rfl) ?_
                  refine lv_iload hx hb dX1_accuseRefusal_92 (lv_at hl 0 rfl) ?_
                  refine f_cSi (As := [.int (nI (sVts S g9))]) (rest := [.ref (ad 0)]) ⟨hx, hb, hml, hown, hts⟩ (c_X1_heightOf l9 (sVts S g9) (by omega)) (va_cwS 1 hts gX1_accuseRefusal_X1_heightOf rfl rfl rfl (by decide +kernel) ⟨Nat.le_of_ble_eq_true rfl, Nat.le_of_ble_eq_true rfl⟩) noB_bl noB_at rfl hl.1 rfl (Nat.le_of_ble_eq_true rfl) dX1_accuseRefusal_94 ⟨Nat.zero_le _, Nat.zero_le _⟩ ?_
                  refine f_cVi (As := [.int (nI ((sVts S g9) / 2048))]) (rest := []) ⟨hx, hb, hml, hown, hts⟩ (c_X1_isOpen l9 dC dI ad cy S (nI ((sVts S g9) / 2048)) I) (cwV 1 hts gX1_accuseRefusal_X1_isOpen rfl rfl rfl (by decide +kernel) ⟨Nat.le_of_ble_eq_true rfl, Nat.le_of_ble_eq_true rfl⟩) roB_bl (va_recv hK hP (ci := 2) (q0 := 0) rfl rfl) (roB_at hPx hKx) rfl hl.1 rfl (Nat.le_of_ble_eq_true rfl) dX1_accuseRefusal_97 ⟨Nat.zero_le _, Nat.zero_le _⟩ ?_
                  refine f_beq (tgt := 106) hx hb dX1_accuseRefusal_100 (by decide) (fun c_21 => ?_) (fun c_21 => ?_)
                  · rw [hop, decide_eq_false_iff_not] at c_21
                    refine lv_aload_n hx hb dX1_accuseRefusal_106 rfl (lv_at hl 1 rfl) ?_
                    refine va_get (D := (dC, dI)) (ci := 2) (v := .int (nI (sHh S))) (C := RX1) (T := TX1) (N := 14) hx hb hts hin hown hK hP 0 rfl rfl 5 (by decide) hf_35 (fun _ h9 => h9) rfl dX1_accuseRefusal_107 ?_
                    refine lv_iload hx hb dX1_accuseRefusal_110 (lv_at hl 0 rfl) ?_
                    refine f_cSi (As := [.int (nI (sVts S g9))]) (rest := [.int (nI (sHh S))]) ⟨hx, hb, hml, hown, hts⟩ (c_X1_heightOf l9 (sVts S g9) (by omega)) (va_cwS 1 hts gX1_accuseRefusal_X1_heightOf rfl rfl rfl (by decide +kernel) ⟨Nat.le_of_ble_eq_true rfl, Nat.le_of_ble_eq_true rfl⟩) noB_bl noB_at rfl hl.1 rfl (Nat.le_of_ble_eq_true rfl) dX1_accuseRefusal_112 ⟨Nat.zero_le _, Nat.zero_le _⟩ ?_
                    refine lv_isub hx hb dX1_accuseRefusal_115 ?_
                    refine f_ti (y := (nI (sHh S - sVts S g9 / 2048))) (pk_sub (by omega)) ?_
                    refine lv_i2l (v := (lN (sHh S - sVts S g9 / 2048))) hx hb dX1_accuseRefusal_116 (nI_l (by omega)) ?_
                    refine lv_aload_n hx hb dX1_accuseRefusal_117 rfl (lv_at hl 1 rfl) ?_
                    refine va_get (D := (dC, dI)) (ci := 2) (v := .ref (ad 1)) (C := RX1) (T := TX1) (N := 14) hx hb hts hin hown hK hP 0 rfl rfl 0 (by decide) hf_17 (fun _ h9 => h9) rfl dX1_accuseRefusal_118 ?_
                    refine lv_iconst (v := (nI 3)) hx hb dX1_accuseRefusal_121 (by decide) ?_
                    refine f_lald hx hb hK hP 1 0 rfl rfl (k := 3) (by omega) (by decide) (v := (lN (sRul S 3))) rfl dX1_accuseRefusal_122 ?_
                    refine f_lle (tgt := 130) hx hb (pk_lT (by omega)) (pk_lT (by omega)) dX1_accuseRefusal_123 dX1_accuseRefusal_124 (by decide) (fun c_22 => ?_) (fun c_22 => ?_)
                    · refine lv_aload_n hx hb dX1_accuseRefusal_130 rfl (lv_at hl 1 rfl) ?_
                      refine lv_iload_n hx hb dX1_accuseRefusal_131 rfl (lv_at hl 2 rfl) ?_
                      refine lv_iload hx hb dX1_accuseRefusal_132 (lv_at hl 0 rfl) ?_
                      refine f_cSi (As := [.int (nI (sVts S g9))]) (rest := [.int (nI q9), .ref (ad 0)]) ⟨hx, hb, hml, hown, hts⟩ (c_X1_voterOf l9 (sVts S g9) (by omega)) (va_cwS 1 hts gX1_accuseRefusal_X1_voterOf rfl rfl rfl (by decide +kernel) ⟨Nat.le_of_ble_eq_true rfl, Nat.le_of_ble_eq_true rfl⟩) noB_bl noB_at rfl hl.1 rfl (Nat.le_of_ble_eq_true rfl) dX1_accuseRefusal_134 ⟨Nat.zero_le _, Nat.zero_le _⟩ ?_
                      refine f_cVi (As := [.int (nI q9), .int (nI ((sVts S g9) / 256))]) (rest := []) ⟨hx, hb, hml, hown, hts⟩ (c_X1_wasTaken l9 dC dI ad cy S mc ed nn cO pa Z tz q9 ((sVts S g9) / 256) I hT hZ (by omega) (by omega)) (cwV 2 hts gX1_accuseRefusal_X1_wasTaken rfl rfl rfl (by decide +kernel) ⟨Nat.le_of_ble_eq_true rfl, Nat.le_of_ble_eq_true rfl⟩) tB_bl (va_recv hK hP (ci := 2) (q0 := 0) rfl rfl) (tB_at hP hK hN) rfl hl.1 rfl (Nat.le_of_ble_eq_true rfl) dX1_accuseRefusal_137 ⟨Nat.zero_le _, Nat.zero_le _⟩ ?_
                      refine f_beq (tgt := 148) hx hb dX1_accuseRefusal_140 (by decide) (fun c_23 => ?_) (fun c_23 => ?_)
                      · have hdn := c_23
                        refine lv_iconst (v := (nI 0)) hx hb dX1_accuseRefusal_148 (by decide) ?_
                        exact f_ri hx hb hr hlocks (by first | (refine (ar_ok h101 hkd hbk (by rw [hta]; omega) (by rw [hta]; omega) (by rw [hta, htq]; exact hdn)).symm) | (unfold arF; rw [if_neg (by rw [h101]; decide), if_neg (by rw [hkd]; decide), if_neg (by rw [hbk]; decide), hta, if_neg (by omega), if_neg (by omega), htq, if_pos hdn])) dX1_accuseRefusal_149
                      · have hdn := c_23
                        refine lv_bipush (v := (-108)) hx hb dX1_accuseRefusal_143 (by decide) ?_
                        refine lv_goto (tgt := 149) hx hb dX1_accuseRefusal_145 (by decide) ?_
                        exact f_ri hx hb hr hlocks (by first | (refine (ar_ok h101 hkd hbk (by rw [hta]; omega) (by rw [hta]; omega) (by rw [hta, htq]; exact hdn)).symm) | (unfold arF; rw [if_neg (by rw [h101]; decide), if_neg (by rw [hkd]; decide), if_neg (by rw [hbk]; decide), hta, if_neg (by omega), if_neg (by omega), htq, if_pos hdn])) dX1_accuseRefusal_149
                    · refine lv_bipush (v := (-107)) hx hb dX1_accuseRefusal_127 (by decide) ?_
                      exact f_ri hx hb hr hlocks (by unfold arF; rw [if_neg (by rw [h101]; decide), if_neg (by rw [hkd]; decide), if_neg (by rw [hbk]; decide), hta, if_neg (by omega), if_pos (by omega)]) dX1_accuseRefusal_129
                  · rw [hop, decide_eq_true_eq] at c_21
                    refine lv_bipush (v := (-106)) hx hb dX1_accuseRefusal_103 (by decide) ?_
                    exact f_ri hx hb hr hlocks (by unfold arF; rw [if_neg (by rw [h101]; decide), if_neg (by rw [hkd]; decide), if_neg (by rw [hbk]; decide), hta, if_pos (by omega)]) dX1_accuseRefusal_105
              · have hbk := hbkE.trans c_17
                refine lv_bipush (v := (-105)) hx hb dX1_accuseRefusal_84 (by decide) ?_
                exact f_ri hx hb hr hlocks (by unfold arF; rw [if_neg (by rw [h101]; decide), if_neg (by rw [hkd]; decide), if_pos hbk]) dX1_accuseRefusal_86
            · exfalso; omega
          · have hkd := c_15
            refine lv_bipush (v := (-102)) hx hb dX1_accuseRefusal_40 (by decide) ?_
            exact f_ri hx hb hr hlocks (by unfold arF; rw [if_neg (by rw [h101]; decide), if_pos hkd]) dX1_accuseRefusal_42
        · refine lv_bipush (v := (-101)) hx hb dX1_accuseRefusal_30 (by decide) ?_
          exact f_ri hx hb hr hlocks (by unfold arF; rw [if_pos]; simp [*] <;> omega) dX1_accuseRefusal_32
