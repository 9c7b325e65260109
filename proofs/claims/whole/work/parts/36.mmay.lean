theorem f_dec1 (g9 : Nat) : nI g9 + Int32.ofInt (-1) = nI g9 - nI 1 := by
  have e9 : -(nI 1) = Int32.ofInt (-1) := by decide
  rw [Int32.sub_eq_add_neg, e9]
abbrev rm_X2_may : Room := { frames := 3, cells := 0, slots := 0, locals := 70 }
set_option maxHeartbeats 4000000 in
set_option maxRecDepth 100000 in
theorem c_X2_may (l9 : Launch) (dC : Nat → ClassId) (dI : Nat → Nat → Nat) (ad : Nat → Nat) (cy : Nat → ClassId) (S : St) (x9 : Int32) (y9 : Int32) (u9 : Int32) (t9 : Int32) (b9 : Int32) (I : Inv S) : RoI l9 yX2_may wsX2_may rm_X2_may [.ref (ad 0), .int x9, .int y9, .int u9, .int t9, .int b9] (mB dC dI ad cy S) (maF S x9 y9 u9 t9 b9) := by
  refine Ro_start (cc := cX2_may) (maxL := 10) (ret := (some .int)) (lv := [(0, .ref (ad 0)), (1, .int x9), (2, .int y9), (3, .int u9), (4, .int t9), (5, .int b9)]) (by decide) rfl (Nat.le_of_ble_eq_true rfl) rfl ?_
  intro pp ee ss mm aa bl me co hx hb hr hml hts hown hlocks hnm hB ls hl
  obtain ⟨hP, hK⟩ := hB
  have I1 := I.n
  refine lv_aload_n hx hb dX2_may_0 rfl (lv_at hl 0 rfl) ?_
  refine lv_iload_n hx hb dX2_may_1 rfl (lv_at hl 1 rfl) ?_
  refine lv_iload_n hx hb dX2_may_2 rfl (lv_at hl 2 rfl) ?_
  refine lv_iload_n hx hb dX2_may_3 rfl (lv_at hl 3 rfl) ?_
  refine lv_iload hx hb dX2_may_4 (lv_at hl 4 rfl) ?_
  refine lv_iload hx hb dX2_may_6 (lv_at hl 5 rfl) ?_
  refine f_cVi (As := [.int x9, .int y9, .int u9, .int t9, .int b9]) (rest := []) ⟨hx, hb, hml, hown, hts⟩ (c_X2_refusal l9 dC dI ad cy S x9 y9 u9 t9 b9 I) (cwV 5 hts gX2_may_X2_refusal rfl rfl rfl (by decide +kernel) ⟨Nat.le_of_ble_eq_true rfl, Nat.le_of_ble_eq_true rfl⟩) roB_bl (va_recv hK hP (ci := 3) (q0 := 0) rfl rfl) (roB_at hP hK) rfl hl.1 rfl (Nat.le_of_ble_eq_true rfl) dX2_may_8 ⟨Nat.zero_le _, Nat.zero_le _⟩ ?_
  refine lv_istore (lv' := [(6, .int (vrF S x9 y9 u9 t9 b9)), (0, .ref (ad 0)), (1, .int x9), (2, .int y9), (3, .int u9), (4, .int t9), (5, .int b9)]) hx hb dX2_may_11 hl (by decide) rfl (fun ls hl => ?_)
  refine lv_iload hx hb dX2_may_13 (lv_at hl 0 rfl) ?_
  refine f_0eq (tgt := 21) hx hb (rfl) dX2_may_15 (by decide) (fun c_1 => ?_) (fun c_1 => ?_)
  · obtain ⟨k9, h9, i9, j9, z9, rfl, rfl, rfl, rfl, rfl, hk, h1, h2, h3, hi, hj, hz, hw, hv⟩ := vr_fine I c_1
    have hpc := vC_p (k := k9) (h := h9) (r := i9) (t := j9) (b := z9) (by omega) hi hj (by omega)
    have hfin : ∀ q9 : Bool, mkF S (vC k9 h9 i9 j9 z9) = q9 → maF S (nI k9) (nI h9) (nI i9) (nI j9) (nI z9) = if q9 = true then nI 0 else nI 1 := fun q9 e9 => by
      simp only [maF]
      rw [if_pos hv, tn_nI (by omega), tn_nI (by omega), tn_nI (by omega), tn_nI (by omega), tn_nI (by omega), e9]
    refine lv_aload_n hx hb dX2_may_21 rfl (lv_at hl 1 rfl) ?_
    refine lv_iload_n hx hb dX2_may_22 rfl (lv_at hl 2 rfl) ?_
    refine lv_iload_n hx hb dX2_may_23 rfl (lv_at hl 3 rfl) ?_
    refine lv_iload_n hx hb dX2_may_24 rfl (lv_at hl 4 rfl) ?_
    refine lv_iload hx hb dX2_may_25 (lv_at hl 5 rfl) ?_
    refine f_cVi (As := [.int (nI k9), .int (nI h9), .int (nI i9), .int (nI j9)]) (rest := []) ⟨hx, hb, hml, hown, hts⟩ (c_X2_saidBy l9 dC dI ad cy S k9 h9 i9 j9 I (by omega) (by omega) (by omega) (by omega)) (cwV 4 hts gX2_may_X2_saidBy rfl rfl rfl (by decide +kernel) ⟨Nat.le_of_ble_eq_true rfl, Nat.le_of_ble_eq_true rfl⟩) roB_bl (va_recv hK hP (ci := 3) (q0 := 0) rfl rfl) (roB_at hP hK) rfl hl.1 rfl (Nat.le_of_ble_eq_true rfl) dX2_may_27 ⟨Nat.zero_le _, Nat.zero_le _⟩ ?_
    refine lv_iconst (v := (nI 1)) hx hb dX2_may_30 (by decide) ?_
    refine lv_iload hx hb dX2_may_31 (lv_at hl 6 rfl) ?_
    refine lv_ishl hx hb dX2_may_33 ?_
    refine f_ti (y := (nI (2 ^ z9))) (f_shl1 (by omega)) ?_
    refine lv_iconst (v := (-1)) hx hb dX2_may_34 (by decide) ?_
    refine lv_ixor hx hb dX2_may_35 ?_
    refine lv_iand hx hb dX2_may_36 ?_
    refine f_ti (y := (nI (clr (sbF S k9 h9 i9 j9) z9))) (f_clr (by have := bitS_lt 10 (fun b9 => hasV S (vC k9 h9 i9 j9 b9)); exact this) hz) ?_
    have hcl := clr_lt (sbF S k9 h9 i9 j9) z9
    refine f_0eq (tgt := 42) hx hb (nI_toInt (by omega)) dX2_may_37 (by decide) (fun c_2 => ?_) (fun c_2 => ?_)
    · have hno1 : ∀ b9, b9 < 10 → z9 ≠ b9 → hasV S (vC k9 h9 i9 j9 b9) = false := fun b9 hb hzb => by
        rw [← sb_tb2 S k9 h9 i9 j9 hb]
        exact clr_0 (by omega) hb hzb
      refine lv_iload hx hb dX2_may_42 (lv_at hl 6 rfl) ?_
      refine f_0ne (tgt := 49) hx hb (nI_toInt (by omega)) dX2_may_44 (by decide) (fun c_3 => ?_) (fun c_3 => ?_)
      · refine lv_iload hx hb dX2_may_49 (lv_at hl 5 rfl) ?_
        refine lv_iconst (v := (nI 1)) hx hb dX2_may_51 (by decide) ?_
        refine f_ine (tgt := 167) hx hb (nI_toInt (by omega)) (nI_toInt (by omega)) dX2_may_52 (by decide) (fun c_4 => ?_) (fun c_4 => ?_)
        · obtain rfl : j9 = 0 := by omega
          have hbr : brF S (vC k9 h9 i9 0 z9) = false := by
            simp [brF, lkg, hpc]
          refine lv_iconst (v := (nI 0)) hx hb dX2_may_167 (by decide) ?_
          refine f_ti (y := (bI false)) rfl ?_
          refine lv_istore (lv' := [(7, .int (bI false)), (6, .int (vrF S (nI k9) (nI h9) (nI i9) (nI 0) (nI z9))), (0, .ref (ad 0)), (1, .int (nI k9)), (2, .int (nI h9)), (3, .int (nI i9)), (4, .int (nI 0)), (5, .int (nI z9))]) hx hb dX2_may_168 hl (by decide) rfl (fun ls hl => ?_)
          refine lv_iload_n hx hb dX2_may_170 rfl (lv_at hl 5 rfl) ?_
          refine lv_iconst (v := (nI 1)) hx hb dX2_may_171 (by decide) ?_
          refine lv_isub hx hb dX2_may_172 ?_
          refine lv_istore (lv' := [(8, .int (nI i9 - nI 1)), (7, .int (bI false)), (6, .int (vrF S (nI k9) (nI h9) (nI i9) (nI 0) (nI z9))), (0, .ref (ad 0)), (1, .int (nI k9)), (2, .int (nI h9)), (3, .int (nI i9)), (4, .int (nI 0)), (5, .int (nI z9))]) hx hb dX2_may_173 hl (by decide) rfl (fun ls hl => ?_)
          have loop_175 : ∀ (n9 : Nat) (p9 : Nat) (F : Bool), p9 < n9 → F = ulF S h9 z9 p9 i9 → p9 ≤ i9 → (∀ r9, p9 ≤ r9 → r9 < i9 → ∀ b9, b9 < 10 → hasV S (vC k9 h9 r9 1 b9) = true → lkF S (vC k9 h9 r9 1 b9) (vC k9 h9 i9 0 z9) = false) → ∀ ls : Array Slot, lv_has ls 10 [(8, .int (nI p9 - nI 1)), (7, .int (bI F)), (6, .int (vrF S (nI k9) (nI h9) (nI i9) (nI 0) (nI z9))), (0, .ref (ad 0)), (1, .int (nI k9)), (2, .int (nI h9)), (3, .int (nI i9)), (4, .int (nI 0)), (5, .int (nI z9))] → W pp l9 ee rm_X2_may ss mm aa bl me co ss.heap [] 0 0 (MQ bl (vp_Si (fun z_ => z_ = maF S (nI k9) (nI h9) (nI i9) (nI 0) (nI z9))) aa ss 0 0 (fun _ => False)) (F0 mm 175 ls []) := by
            intro n9
            induction n9 with
            | zero => intro p9 F hm; exact absurd hm (Nat.not_lt_zero _)
            | succ n9 ih_175 =>
              intro p9 F hm hF hpi hno3 ls hl
              refine lv_iload hx hb dX2_may_175 (lv_at hl 0 rfl) ?_
              refine f_0lt (tgt := 239) hx hb (pk_sub_toInt (by omega) (by omega)) dX2_may_177 (by decide) (fun c_5 => ?_) (fun c_5 => ?_)
              · obtain rfl : p9 = 0 := by omega
                have hyes : mkF S (vC k9 h9 i9 0 z9) = false := mk_no I (by omega) hi (by decide) hz hno1 hbr (fun r9 b9 _ _ _ => by
                  simp [lkF, lkg, hpc]) (fun r9 b9 hr hb hh => by
                  rcases Nat.lt_or_ge r9 i9 with g9 | g9
                  · exact hno3 r9 (Nat.zero_le _) g9 b9 hb hh
                  · have q9 := vC_p (k := k9) (h := h9) (r := r9) (t := 1) (b := b9) (by omega) hr (by decide) (by omega)
                    have e9 : ¬ r9 < i9 := by omega
                    simp [lkF, hpc, q9, e9])
                refine lv_iconst (v := (nI 1)) hx hb dX2_may_239 (by decide) ?_
                exact f_ri hx hb hr hlocks (by rw [hfin _ hyes]; rfl) dX2_may_240
              · obtain ⟨g9, rfl⟩ : ∃ g9, p9 = g9 + 1 := ⟨p9 - 1, by omega⟩
                have hpg : nI (g9 + 1) - nI 1 = nI g9 := by rw [pk_sub (by omega)]; rfl
                rw [hpg] at hl
                refine lv_iload hx hb dX2_may_180 (lv_at hl 1 rfl) ?_
                refine f_bne (tgt := 197) hx hb dX2_may_182 (by decide) (fun c_6 => ?_) (fun c_6 => ?_)
                · have hF2 : ulF S h9 z9 g9 i9 = true := by
                    rw [c_6] at hF
                    obtain ⟨y9, hy, hf⟩ := ex_iff.mp hF.symm
                    simp only [ulT, Bool.and_eq_true, decide_eq_true_eq] at hf
                    exact ex_yes y9 hy (by simp [ulT, hf.2]; omega)
                  refine lv_iconst (v := (nI 1)) hx hb dX2_may_197 (by decide) ?_
                  refine lv_goto (tgt := 202) hx hb dX2_may_198 (by decide) ?_
                  refine f_ti (y := (bI true)) rfl ?_
                  refine lv_istore (lv' := [(7, .int (bI true)), (8, .int (nI g9)), (6, .int (vrF S (nI k9) (nI h9) (nI i9) (nI 0) (nI z9))), (0, .ref (ad 0)), (1, .int (nI k9)), (2, .int (nI h9)), (3, .int (nI i9)), (4, .int (nI 0)), (5, .int (nI z9))]) hx hb dX2_may_202 hl (by decide) rfl (fun ls hl => ?_)
                  refine lv_iload hx hb dX2_may_204 (lv_at hl 0 rfl) ?_
                  refine f_bne (tgt := 233) hx hb dX2_may_206 (by decide) (fun c_7 => ?_) (fun c_7 => ?_)
                  · have hno5 : ∀ r9, g9 ≤ r9 → r9 < i9 → ∀ b9, b9 < 10 → hasV S (vC k9 h9 r9 1 b9) = true → lkF S (vC k9 h9 r9 1 b9) (vC k9 h9 i9 0 z9) = false := fun r9 h5 h6 b9 hb hh => by
                      rcases Nat.lt_or_ge g9 r9 with e9 | e9
                      · exact hno3 r9 e9 h6 b9 hb hh
                      · obtain rfl : r9 = g9 := by omega
                        have q9 := vC_p (k := k9) (h := h9) (r := r9) (t := 1) (b := b9) (by omega) (by omega) (by decide) (by omega)
                        simp [lkF, hpc, q9, hF2]
                    refine lv_iinc (v := (nI g9 - nI 1)) (lv' := [(8, .int (nI g9 - nI 1)), (7, .int (bI true)), (6, .int (vrF S (nI k9) (nI h9) (nI i9) (nI 0) (nI z9))), (0, .ref (ad 0)), (1, .int (nI k9)), (2, .int (nI h9)), (3, .int (nI i9)), (4, .int (nI 0)), (5, .int (nI z9))]) hx hb dX2_may_233 hl (k := 1) rfl (f_dec1 g9) (by decide) rfl (fun ls hl => ?_)
                    refine lv_goto (tgt := 175) hx hb dX2_may_236 (by decide) ?_
                    exact ih_175 g9 true (by omega) (hF2.symm) (by omega) (hno5) ls (lv_sub hl [0, 1, 2, 3, 4, 5, 6, 7, 8] rfl)
                  · exact absurd c_7 (by decide)
                · have hF0 := c_6
                  refine lv_aload_n hx hb dX2_may_185 rfl (lv_at hl 3 rfl) ?_
                  refine lv_iload_n hx hb dX2_may_186 rfl (lv_at hl 5 rfl) ?_
                  refine lv_iload hx hb dX2_may_187 (lv_at hl 0 rfl) ?_
                  refine lv_iload hx hb dX2_may_189 (lv_at hl 8 rfl) ?_
                  refine f_cVi (As := [.int (nI h9), .int (nI g9), .int (nI z9)]) (rest := []) ⟨hx, hb, hml, hown, hts⟩ (c_X2_isBacked l9 dC dI ad cy S h9 g9 z9 I (by omega) (by omega) (by omega)) (cwV 3 hts gX2_may_X2_isBacked rfl rfl rfl (by decide +kernel) ⟨Nat.le_of_ble_eq_true rfl, Nat.le_of_ble_eq_true rfl⟩) roB_bl (va_recv hK hP (ci := 3) (q0 := 0) rfl rfl) (roB_at hP hK) rfl hl.1 rfl (Nat.le_of_ble_eq_true rfl) dX2_may_191 ⟨Nat.zero_le _, Nat.zero_le _⟩ ?_
                  refine f_beq (tgt := 201) hx hb dX2_may_194 (by decide) (fun c_8 => ?_) (fun c_8 => ?_)
                  · have hF2 : ulF S h9 z9 g9 i9 = false := ex_no (fun y9 hy => by
                      rw [hF0] at hF
                      have e9 := ex_notmem hF.symm hy
                      by_cases hyg : y9 = g9
                      · subst hyg; simp [ulT, bk_ms, c_8]
                      · by_cases hyl : g9 ≤ y9
                        · have e5 : g9 + 1 ≤ y9 := by omega
                          simp only [ulT, e5, decide_true, Bool.true_and] at e9
                          simp [ulT, e9]
                        · simp [ulT, hyl])
                    refine lv_iconst (v := (nI 0)) hx hb dX2_may_201 (by decide) ?_
                    refine f_ti (y := (bI false)) rfl ?_
                    refine lv_istore (lv' := [(7, .int (bI false)), (8, .int (nI g9)), (6, .int (vrF S (nI k9) (nI h9) (nI i9) (nI 0) (nI z9))), (0, .ref (ad 0)), (1, .int (nI k9)), (2, .int (nI h9)), (3, .int (nI i9)), (4, .int (nI 0)), (5, .int (nI z9))]) hx hb dX2_may_202 hl (by decide) rfl (fun ls hl => ?_)
                    refine lv_iload hx hb dX2_may_204 (lv_at hl 0 rfl) ?_
                    refine f_bne (tgt := 233) hx hb dX2_may_206 (by decide) (fun c_9 => ?_) (fun c_9 => ?_)
                    · exact absurd c_9 (by decide)
                    · refine lv_aload_n hx hb dX2_may_209 rfl (lv_at hl 3 rfl) ?_
                      refine lv_iload_n hx hb dX2_may_210 rfl (lv_at hl 4 rfl) ?_
                      refine lv_iload_n hx hb dX2_may_211 rfl (lv_at hl 5 rfl) ?_
                      refine lv_iload hx hb dX2_may_212 (lv_at hl 1 rfl) ?_
                      refine lv_iconst (v := (nI 1)) hx hb dX2_may_214 (by decide) ?_
                      refine f_cVi (As := [.int (nI k9), .int (nI h9), .int (nI g9), .int (nI 1)]) (rest := []) ⟨hx, hb, hml, hown, hts⟩ (c_X2_saidBy l9 dC dI ad cy S k9 h9 g9 1 I (by omega) (by omega) (by omega) (by omega)) (cwV 4 hts gX2_may_X2_saidBy rfl rfl rfl (by decide +kernel) ⟨Nat.le_of_ble_eq_true rfl, Nat.le_of_ble_eq_true rfl⟩) roB_bl (va_recv hK hP (ci := 3) (q0 := 0) rfl rfl) (roB_at hP hK) rfl hl.1 rfl (Nat.le_of_ble_eq_true rfl) dX2_may_215 ⟨Nat.zero_le _, Nat.zero_le _⟩ ?_
                      refine lv_bipush (v := (-2)) hx hb dX2_may_218 (by decide) ?_
                      refine lv_iand hx hb dX2_may_220 ?_
                      refine f_ti (y := (nI (clr (sbF S k9 h9 g9 1) 0))) (f_clr0 (by have := bitS_lt 10 (fun b9 => hasV S (vC k9 h9 g9 1 b9)); exact this)) ?_
                      refine lv_iconst (v := (nI 1)) hx hb dX2_may_221 (by decide) ?_
                      refine lv_iload hx hb dX2_may_222 (lv_at hl 8 rfl) ?_
                      refine lv_ishl hx hb dX2_may_224 ?_
                      refine f_ti (y := (nI (2 ^ z9))) (f_shl1 (by omega)) ?_
                      refine lv_iconst (v := (-1)) hx hb dX2_may_225 (by decide) ?_
                      refine lv_ixor hx hb dX2_may_226 ?_
                      refine lv_iand hx hb dX2_may_227 ?_
                      refine f_ti (y := (nI (clr (clr (sbF S k9 h9 g9 1) 0) z9))) (f_clr (clr_lt _ _) hz) ?_
                      have hcl := clr_lt (clr (sbF S k9 h9 g9 1) 0) z9
                      refine f_0eq (tgt := 233) hx hb (nI_toInt (by omega)) dX2_may_228 (by decide) (fun c_10 => ?_) (fun c_10 => ?_)
                      · have hno5 : ∀ r9, g9 ≤ r9 → r9 < i9 → ∀ b9, b9 < 10 → hasV S (vC k9 h9 r9 1 b9) = true → lkF S (vC k9 h9 r9 1 b9) (vC k9 h9 i9 0 z9) = false := fun r9 h5 h6 b9 hb hh => by
                          rcases Nat.lt_or_ge g9 r9 with e9 | e9
                          · exact hno3 r9 e9 h6 b9 hb hh
                          · obtain rfl : r9 = g9 := by omega
                            have q9 := vC_p (k := k9) (h := h9) (r := r9) (t := 1) (b := b9) (by omega) (by omega) (by decide) (by omega)
                            by_cases hb0 : b9 = 0
                            · have e9 : ¬ 0 < b9 := by omega
                              simp [lkF, lkg, q9, e9]
                            · by_cases hbz : b9 = z9
                              · have e9 : decide (z9 ≠ b9) = false := by simp [hbz]
                                simp only [lkF, hpc, q9, e9, Bool.and_false, Bool.false_and]
                              · have e1 := clr_0 (m := clr (sbF S k9 h9 r9 1) 0) (z := z9) (b := b9) (by omega) hb (fun e9 => hbz e9.symm)
                                unfold clr at e1
                                rw [bitS_tb, sb_tb2 S k9 h9 r9 1 hb, hh] at e1
                                simp [hb] at e1
                                omega
                        refine lv_iinc (v := (nI g9 - nI 1)) (lv' := [(8, .int (nI g9 - nI 1)), (7, .int (bI false)), (6, .int (vrF S (nI k9) (nI h9) (nI i9) (nI 0) (nI z9))), (0, .ref (ad 0)), (1, .int (nI k9)), (2, .int (nI h9)), (3, .int (nI i9)), (4, .int (nI 0)), (5, .int (nI z9))]) hx hb dX2_may_233 hl (k := 1) rfl (f_dec1 g9) (by decide) rfl (fun ls hl => ?_)
                        refine lv_goto (tgt := 175) hx hb dX2_may_236 (by decide) ?_
                        exact ih_175 g9 false (by omega) (hF2.symm) (by omega) (hno5) ls (lv_sub hl [0, 1, 2, 3, 4, 5, 6, 7, 8] rfl)
                      · have hyes : mkF S (vC k9 h9 i9 0 z9) = true := by
                          obtain ⟨y9, hy, hzy, hf⟩ := clr_1 (m := clr (sbF S k9 h9 g9 1) 0) (z := z9) (by omega)
                          unfold clr at hf
                          rw [bitS_tb, sb_tb2 S k9 h9 g9 1 hy] at hf
                          simp only [Bool.and_eq_true, decide_eq_true_eq] at hf
                          have q9 := vC_p (k := k9) (h := h9) (r := g9) (t := 1) (b := y9) (by omega) (by omega) (by decide) (by omega)
                          refine mk_yes hf.2.1 (by omega) ?_
                          have e9 : lkF S (vC k9 h9 g9 1 y9) (vC k9 h9 i9 0 z9) = true := by
                            simp only [lkF, lkg, hpc, q9, hF2]
                            simp
                            omega
                          simp [clF, e9]
                        refine lv_iconst (v := (nI 0)) hx hb dX2_may_231 (by decide) ?_
                        exact f_ri hx hb hr hlocks (by rw [hfin _ hyes]; rfl) dX2_may_232
                  · have hF2 : ulF S h9 z9 g9 i9 = true := ex_yes g9 (by omega) (by
                      have e0 : 0 < z9 := by omega
                      simp [ulT, bk_ms, c_8, e0])
                    refine lv_iconst (v := (nI 1)) hx hb dX2_may_197 (by decide) ?_
                    refine lv_goto (tgt := 202) hx hb dX2_may_198 (by decide) ?_
                    refine f_ti (y := (bI true)) rfl ?_
                    refine lv_istore (lv' := [(7, .int (bI true)), (8, .int (nI g9)), (6, .int (vrF S (nI k9) (nI h9) (nI i9) (nI 0) (nI z9))), (0, .ref (ad 0)), (1, .int (nI k9)), (2, .int (nI h9)), (3, .int (nI i9)), (4, .int (nI 0)), (5, .int (nI z9))]) hx hb dX2_may_202 hl (by decide) rfl (fun ls hl => ?_)
                    refine lv_iload hx hb dX2_may_204 (lv_at hl 0 rfl) ?_
                    refine f_bne (tgt := 233) hx hb dX2_may_206 (by decide) (fun c_11 => ?_) (fun c_11 => ?_)
                    · have hno5 : ∀ r9, g9 ≤ r9 → r9 < i9 → ∀ b9, b9 < 10 → hasV S (vC k9 h9 r9 1 b9) = true → lkF S (vC k9 h9 r9 1 b9) (vC k9 h9 i9 0 z9) = false := fun r9 h5 h6 b9 hb hh => by
                        rcases Nat.lt_or_ge g9 r9 with e9 | e9
                        · exact hno3 r9 e9 h6 b9 hb hh
                        · obtain rfl : r9 = g9 := by omega
                          have q9 := vC_p (k := k9) (h := h9) (r := r9) (t := 1) (b := b9) (by omega) (by omega) (by decide) (by omega)
                          simp [lkF, hpc, q9, hF2]
                      refine lv_iinc (v := (nI g9 - nI 1)) (lv' := [(8, .int (nI g9 - nI 1)), (7, .int (bI true)), (6, .int (vrF S (nI k9) (nI h9) (nI i9) (nI 0) (nI z9))), (0, .ref (ad 0)), (1, .int (nI k9)), (2, .int (nI h9)), (3, .int (nI i9)), (4, .int (nI 0)), (5, .int (nI z9))]) hx hb dX2_may_233 hl (k := 1) rfl (f_dec1 g9) (by decide) rfl (fun ls hl => ?_)
                      refine lv_goto (tgt := 175) hx hb dX2_may_236 (by decide) ?_
                      exact ih_175 g9 true (by omega) (hF2.symm) (by omega) (hno5) ls (lv_sub hl [0, 1, 2, 3, 4, 5, 6, 7, 8] rfl)
                    · exact absurd c_11 (by decide)
          exact loop_175 (i9 + 1) i9 false (Nat.lt_succ_self _) ((ex_no (fun y9 hy => by have e9 : ¬ i9 ≤ y9 := (by omega); simp [ulT, e9])).symm) (Nat.le_refl _) (fun r9 h5 h6 => absurd h5 (by omega)) ls (lv_sub hl [0, 1, 2, 3, 4, 5, 6, 7, 8] rfl)
        · obtain rfl : j9 = 1 := by omega
          refine lv_aload_n hx hb dX2_may_55 rfl (lv_at hl 1 rfl) ?_
          refine lv_iload_n hx hb dX2_may_56 rfl (lv_at hl 3 rfl) ?_
          refine lv_iload_n hx hb dX2_may_57 rfl (lv_at hl 4 rfl) ?_
          refine lv_iload hx hb dX2_may_58 (lv_at hl 6 rfl) ?_
          refine f_cVi (As := [.int (nI h9), .int (nI i9), .int (nI z9)]) (rest := []) ⟨hx, hb, hml, hown, hts⟩ (c_X2_isBacked l9 dC dI ad cy S h9 i9 z9 I (by omega) (by omega) (by omega)) (cwV 3 hts gX2_may_X2_isBacked rfl rfl rfl (by decide +kernel) ⟨Nat.le_of_ble_eq_true rfl, Nat.le_of_ble_eq_true rfl⟩) roB_bl (va_recv hK hP (ci := 3) (q0 := 0) rfl rfl) (roB_at hP hK) rfl hl.1 rfl (Nat.le_of_ble_eq_true rfl) dX2_may_60 ⟨Nat.zero_le _, Nat.zero_le _⟩ ?_
          refine f_bne (tgt := 68) hx hb dX2_may_63 (by decide) (fun c_12 => ?_) (fun c_12 => ?_)
          · have hbr : brF S (vC k9 h9 i9 1 z9) = false := by
              have e9 : 0 < z9 := by omega
              simp [brF, bk_ms, hpc, c_12, e9]
            refine lv_iconst (v := (nI 1)) hx hb dX2_may_68 (by decide) ?_
            refine lv_istore (lv' := [(7, .int (nI 1)), (6, .int (vrF S (nI k9) (nI h9) (nI i9) (nI 1) (nI z9))), (0, .ref (ad 0)), (1, .int (nI k9)), (2, .int (nI h9)), (3, .int (nI i9)), (4, .int (nI 1)), (5, .int (nI z9))]) hx hb dX2_may_69 hl (by decide) rfl (fun ls hl => ?_)
            have loop_71 : ∀ (n9 : Nat) (b9 : Nat), 10 - b9 < n9 → (∀ b1, b1 < b9 → ∀ r9, r9 < 8 → hasV S (vC k9 h9 r9 0 b1) = true → lkF S (vC k9 h9 i9 1 z9) (vC k9 h9 r9 0 b1) = false) → b9 ≤ 10 → 1 ≤ b9 → ∀ ls : Array Slot, lv_has ls 10 [(7, .int (nI b9)), (6, .int (vrF S (nI k9) (nI h9) (nI i9) (nI 1) (nI z9))), (0, .ref (ad 0)), (1, .int (nI k9)), (2, .int (nI h9)), (3, .int (nI i9)), (4, .int (nI 1)), (5, .int (nI z9))] → W pp l9 ee rm_X2_may ss mm aa bl me co ss.heap [] 0 0 (MQ bl (vp_Si (fun z_ => z_ = maF S (nI k9) (nI h9) (nI i9) (nI 1) (nI z9))) aa ss 0 0 (fun _ => False)) (F0 mm 71 ls []) := by
              intro n9
              induction n9 with
              | zero => intro b9 hm; exact absurd hm (Nat.not_lt_zero _)
              | succ n9 ih_71 =>
                intro b9 hm hno hb1 hb0 ls hl
                refine lv_iload hx hb dX2_may_71 (lv_at hl 0 rfl) ?_
                refine lv_bipush (v := (nI 10)) hx hb dX2_may_73 (by decide) ?_
                refine f_ige (tgt := 165) hx hb (nI_toInt (by omega)) (nI_toInt (by omega)) dX2_may_75 (by decide) (fun c_13 => ?_) (fun c_13 => ?_)
                · have hyes : mkF S (vC k9 h9 i9 1 z9) = false := mk_no I (by omega) hi (by decide) hz hno1 hbr (fun r9 b9 hr hb hh => hno b9 (by omega) r9 hr hh) (fun r9 b9 _ _ _ => by
                    simp [lkF, hpc])
                  refine lv_iconst (v := (nI 1)) hx hb dX2_may_165 (by decide) ?_
                  exact f_ri hx hb hr hlocks (by rw [hfin _ hyes]; rfl) dX2_may_166
                · refine lv_iload hx hb dX2_may_78 (lv_at hl 0 rfl) ?_
                  refine lv_iload hx hb dX2_may_80 (lv_at hl 7 rfl) ?_
                  refine f_ine (tgt := 89) hx hb (nI_toInt (by omega)) (nI_toInt (by omega)) dX2_may_82 (by decide) (fun c_14 => ?_) (fun c_14 => ?_)
                  · refine lv_iconst (v := (nI 0)) hx hb dX2_may_89 (by decide) ?_
                    refine f_ti (y := (bI false)) rfl ?_
                    refine lv_istore (lv' := [(8, .int (bI false)), (7, .int (nI b9)), (6, .int (vrF S (nI k9) (nI h9) (nI i9) (nI 1) (nI z9))), (0, .ref (ad 0)), (1, .int (nI k9)), (2, .int (nI h9)), (3, .int (nI i9)), (4, .int (nI 1)), (5, .int (nI z9))]) hx hb dX2_may_90 hl (by decide) rfl (fun ls hl => ?_)
                    refine lv_iload_n hx hb dX2_may_92 rfl (lv_at hl 6 rfl) ?_
                    refine lv_istore (lv' := [(9, .int (nI i9)), (8, .int (bI false)), (7, .int (nI b9)), (6, .int (vrF S (nI k9) (nI h9) (nI i9) (nI 1) (nI z9))), (0, .ref (ad 0)), (1, .int (nI k9)), (2, .int (nI h9)), (3, .int (nI i9)), (4, .int (nI 1)), (5, .int (nI z9))]) hx hb dX2_may_93 hl (by decide) rfl (fun ls hl => ?_)
                    have loop_95 : ∀ (n9 : Nat) (v9 : Nat) (F : Bool), 7 - v9 < n9 → F = (decide (b9 = z9) || ulF S h9 b9 i9 v9) → i9 ≤ v9 → v9 ≤ 7 → (∀ r9, r9 ≤ v9 → hasV S (vC k9 h9 r9 0 b9) = true → lkF S (vC k9 h9 i9 1 z9) (vC k9 h9 r9 0 b9) = false) → ∀ ls : Array Slot, lv_has ls 10 [(9, .int (nI v9)), (8, .int (bI F)), (7, .int (nI b9)), (6, .int (vrF S (nI k9) (nI h9) (nI i9) (nI 1) (nI z9))), (0, .ref (ad 0)), (1, .int (nI k9)), (2, .int (nI h9)), (3, .int (nI i9)), (4, .int (nI 1)), (5, .int (nI z9))] → W pp l9 ee rm_X2_may ss mm aa bl me co ss.heap [] 0 0 (MQ bl (vp_Si (fun z_ => z_ = maF S (nI k9) (nI h9) (nI i9) (nI 1) (nI z9))) aa ss 0 0 (fun _ => False)) (F0 mm 95 ls []) := by
                      intro n9
                      induction n9 with
                      | zero => intro v9 F hm; exact absurd hm (Nat.not_lt_zero _)
                      | succ n9 ih_95 =>
                        intro v9 F hm hF hvi hv7 hno2 ls hl
                        refine lv_iload hx hb dX2_may_95 (lv_at hl 0 rfl) ?_
                        refine lv_bipush (v := (nI 7)) hx hb dX2_may_97 (by decide) ?_
                        refine f_ige (tgt := 159) hx hb (nI_toInt (by omega)) (nI_toInt (by omega)) dX2_may_99 (by decide) (fun c_15 => ?_) (fun c_15 => ?_)
                        · have hnx : ∀ r9, r9 < 8 → hasV S (vC k9 h9 r9 0 b9) = true → lkF S (vC k9 h9 i9 1 z9) (vC k9 h9 r9 0 b9) = false := fun r9 hr hh => hno2 r9 (by omega) hh
                          refine lv_iinc (v := (nI (b9 + 1))) (lv' := [(7, .int (nI (b9 + 1))), (9, .int (nI v9)), (8, .int (bI F)), (6, .int (vrF S (nI k9) (nI h9) (nI i9) (nI 1) (nI z9))), (0, .ref (ad 0)), (1, .int (nI k9)), (2, .int (nI h9)), (3, .int (nI i9)), (4, .int (nI 1)), (5, .int (nI z9))]) hx hb dX2_may_159 hl (k := 2) rfl (nI_add b9 1) (by decide) rfl (fun ls hl => ?_)
                          refine lv_goto (tgt := 71) hx hb dX2_may_162 (by decide) ?_
                          exact ih_71 (b9 + 1) (by omega) (lt_s hno hnx) (by omega) (by omega) ls (lv_sub hl [0, 3, 4, 5, 6, 7, 8, 9] rfl)
                        · refine lv_iload hx hb dX2_may_102 (lv_at hl 1 rfl) ?_
                          refine f_bne (tgt := 119) hx hb dX2_may_104 (by decide) (fun c_16 => ?_) (fun c_16 => ?_)
                          · have hG : (decide (b9 = z9) || ulF S h9 b9 i9 (v9 + 1)) = true := by
                              rw [c_16] at hF
                              have e9 : ulF S h9 b9 i9 (v9 + 1) = (ulF S h9 b9 i9 v9 || ulT S h9 b9 i9 v9) := rfl
                              rw [e9, ← Bool.or_assoc, ← hF]
                              rfl
                            refine lv_iconst (v := (nI 1)) hx hb dX2_may_119 (by decide) ?_
                            refine lv_goto (tgt := 124) hx hb dX2_may_120 (by decide) ?_
                            refine f_ti (y := (bI true)) rfl ?_
                            refine lv_istore (lv' := [(8, .int (bI true)), (9, .int (nI v9)), (7, .int (nI b9)), (6, .int (vrF S (nI k9) (nI h9) (nI i9) (nI 1) (nI z9))), (0, .ref (ad 0)), (1, .int (nI k9)), (2, .int (nI h9)), (3, .int (nI i9)), (4, .int (nI 1)), (5, .int (nI z9))]) hx hb dX2_may_124 hl (by decide) rfl (fun ls hl => ?_)
                            refine lv_iload hx hb dX2_may_126 (lv_at hl 0 rfl) ?_
                            refine f_bne (tgt := 153) hx hb dX2_may_128 (by decide) (fun c_17 => ?_) (fun c_17 => ?_)
                            · have hno4 : ∀ r9, r9 ≤ v9 + 1 → hasV S (vC k9 h9 r9 0 b9) = true → lkF S (vC k9 h9 i9 1 z9) (vC k9 h9 r9 0 b9) = false := fun r9 hr hh => by
                                rcases Nat.lt_or_ge v9 r9 with g9 | g9
                                · obtain rfl : r9 = v9 + 1 := by omega
                                  have q9 := vC_p (k := k9) (h := h9) (r := v9 + 1) (t := 0) (b := b9) (by omega) (by omega) (by decide) (by omega)
                                  rw [Bool.or_eq_true, decide_eq_true_eq] at hG
                                  rcases hG with hG | hG
                                  · have e9 : decide (b9 ≠ z9) = false := by simp [hG]
                                    simp only [lkF, hpc, q9, e9, Bool.and_false, Bool.false_and]
                                  · simp [lkF, hpc, q9, hG]
                                · exact hno2 r9 g9 hh
                              refine lv_iinc (v := (nI (v9 + 1))) (lv' := [(9, .int (nI (v9 + 1))), (8, .int (bI true)), (7, .int (nI b9)), (6, .int (vrF S (nI k9) (nI h9) (nI i9) (nI 1) (nI z9))), (0, .ref (ad 0)), (1, .int (nI k9)), (2, .int (nI h9)), (3, .int (nI i9)), (4, .int (nI 1)), (5, .int (nI z9))]) hx hb dX2_may_153 hl (k := 1) rfl (nI_add v9 1) (by decide) rfl (fun ls hl => ?_)
                              refine lv_goto (tgt := 95) hx hb dX2_may_156 (by decide) ?_
                              exact ih_95 (v9 + 1) true (by omega) (hG.symm) (by omega) (by omega) (hno4) ls (lv_sub hl [0, 1, 2, 3, 4, 5, 6, 7, 8, 9] rfl)
                            · exact absurd c_17 (by decide)
                          · have hF0 := c_16
                            refine lv_aload_n hx hb dX2_may_107 rfl (lv_at hl 4 rfl) ?_
                            refine lv_iload_n hx hb dX2_may_108 rfl (lv_at hl 6 rfl) ?_
                            refine lv_iload hx hb dX2_may_109 (lv_at hl 0 rfl) ?_
                            refine lv_iload hx hb dX2_may_111 (lv_at hl 2 rfl) ?_
                            refine f_cVi (As := [.int (nI h9), .int (nI v9), .int (nI b9)]) (rest := []) ⟨hx, hb, hml, hown, hts⟩ (c_X2_isBacked l9 dC dI ad cy S h9 v9 b9 I (by omega) (by omega) (by omega)) (cwV 3 hts gX2_may_X2_isBacked rfl rfl rfl (by decide +kernel) ⟨Nat.le_of_ble_eq_true rfl, Nat.le_of_ble_eq_true rfl⟩) roB_bl (va_recv hK hP (ci := 3) (q0 := 0) rfl rfl) (roB_at hP hK) rfl hl.1 rfl (Nat.le_of_ble_eq_true rfl) dX2_may_113 ⟨Nat.zero_le _, Nat.zero_le _⟩ ?_
                            refine f_beq (tgt := 123) hx hb dX2_may_116 (by decide) (fun c_18 => ?_) (fun c_18 => ?_)
                            · have hG : (decide (b9 = z9) || ulF S h9 b9 i9 (v9 + 1)) = false := by
                                rw [hF0] at hF
                                have e9 : ulF S h9 b9 i9 (v9 + 1) = (ulF S h9 b9 i9 v9 || ulT S h9 b9 i9 v9) := rfl
                                rw [e9, ← Bool.or_assoc, ← hF]
                                simp [ulT, bk_ms, c_18]
                              refine lv_iconst (v := (nI 0)) hx hb dX2_may_123 (by decide) ?_
                              refine f_ti (y := (bI false)) rfl ?_
                              refine lv_istore (lv' := [(8, .int (bI false)), (9, .int (nI v9)), (7, .int (nI b9)), (6, .int (vrF S (nI k9) (nI h9) (nI i9) (nI 1) (nI z9))), (0, .ref (ad 0)), (1, .int (nI k9)), (2, .int (nI h9)), (3, .int (nI i9)), (4, .int (nI 1)), (5, .int (nI z9))]) hx hb dX2_may_124 hl (by decide) rfl (fun ls hl => ?_)
                              refine lv_iload hx hb dX2_may_126 (lv_at hl 0 rfl) ?_
                              refine f_bne (tgt := 153) hx hb dX2_may_128 (by decide) (fun c_19 => ?_) (fun c_19 => ?_)
                              · exact absurd c_19 (by decide)
                              · refine lv_aload_n hx hb dX2_may_131 rfl (lv_at hl 4 rfl) ?_
                                refine lv_iload_n hx hb dX2_may_132 rfl (lv_at hl 5 rfl) ?_
                                refine lv_iload_n hx hb dX2_may_133 rfl (lv_at hl 6 rfl) ?_
                                refine lv_iload hx hb dX2_may_134 (lv_at hl 1 rfl) ?_
                                refine lv_iconst (v := (nI 1)) hx hb dX2_may_136 (by decide) ?_
                                refine lv_iadd hx hb dX2_may_137 ?_
                                refine f_ti (y := (nI (v9 + 1))) (nI_add _ _) ?_
                                refine lv_iconst (v := (nI 0)) hx hb dX2_may_138 (by decide) ?_
                                refine f_cVi (As := [.int (nI k9), .int (nI h9), .int (nI (v9 + 1)), .int (nI 0)]) (rest := []) ⟨hx, hb, hml, hown, hts⟩ (c_X2_saidBy l9 dC dI ad cy S k9 h9 (v9 + 1) 0 I (by omega) (by omega) (by omega) (by omega)) (cwV 4 hts gX2_may_X2_saidBy rfl rfl rfl (by decide +kernel) ⟨Nat.le_of_ble_eq_true rfl, Nat.le_of_ble_eq_true rfl⟩) roB_bl (va_recv hK hP (ci := 3) (q0 := 0) rfl rfl) (roB_at hP hK) rfl hl.1 rfl (Nat.le_of_ble_eq_true rfl) dX2_may_139 ⟨Nat.zero_le _, Nat.zero_le _⟩ ?_
                                refine lv_iload hx hb dX2_may_142 (lv_at hl 2 rfl) ?_
                                have hsl : sbF S k9 h9 (v9 + 1) 0 < 1024 := bitS_lt 10 _
                                have hsd : sbF S k9 h9 (v9 + 1) 0 / 2 ^ b9 ≤ sbF S k9 h9 (v9 + 1) 0 := Nat.div_le_self _ _
                                refine lv_ishr hx hb dX2_may_144 ?_
                                refine f_ti (y := (nI (sbF S k9 h9 (v9 + 1) 0 / 2 ^ b9))) (f_shrv (by omega) (by omega)) ?_
                                refine lv_iconst (v := (nI 1)) hx hb dX2_may_145 (by decide) ?_
                                refine lv_iand hx hb dX2_may_146 ?_
                                refine f_ti (y := (nI ((sbF S k9 h9 (v9 + 1) 0 / 2 ^ b9) % 2))) (pk_andN (by omega) 1 (by decide)) ?_
                                refine lv_iconst (v := (nI 1)) hx hb dX2_may_147 (by decide) ?_
                                have hbit := f_tb2 (sbF S k9 h9 (v9 + 1) 0) b9
                                rw [sb_tb2 S k9 h9 (v9 + 1) 0 (by omega)] at hbit
                                have q9 := vC_p (k := k9) (h := h9) (r := v9 + 1) (t := 0) (b := b9) (by omega) (by omega) (by decide) (by omega)
                                refine f_ine (tgt := 153) hx hb (nI_toInt (by omega)) (nI_toInt (by omega)) dX2_may_148 (by decide) (fun c_20 => ?_) (fun c_20 => ?_)
                                · have hno4 : ∀ r9, r9 ≤ v9 + 1 → hasV S (vC k9 h9 r9 0 b9) = true → lkF S (vC k9 h9 i9 1 z9) (vC k9 h9 r9 0 b9) = false := fun r9 hr hh => by
                                    rcases Nat.lt_or_ge v9 r9 with g9 | g9
                                    · obtain rfl : r9 = v9 + 1 := by omega
                                      rw [hh] at hbit
                                      simp at hbit
                                      omega
                                    · exact hno2 r9 g9 hh
                                  refine lv_iinc (v := (nI (v9 + 1))) (lv' := [(9, .int (nI (v9 + 1))), (8, .int (bI false)), (7, .int (nI b9)), (6, .int (vrF S (nI k9) (nI h9) (nI i9) (nI 1) (nI z9))), (0, .ref (ad 0)), (1, .int (nI k9)), (2, .int (nI h9)), (3, .int (nI i9)), (4, .int (nI 1)), (5, .int (nI z9))]) hx hb dX2_may_153 hl (k := 1) rfl (nI_add v9 1) (by decide) rfl (fun ls hl => ?_)
                                  refine lv_goto (tgt := 95) hx hb dX2_may_156 (by decide) ?_
                                  exact ih_95 (v9 + 1) false (by omega) (hG.symm) (by omega) (by omega) (hno4) ls (lv_sub hl [0, 1, 2, 3, 4, 5, 6, 7, 8, 9] rfl)
                                · have hyes : mkF S (vC k9 h9 i9 1 z9) = true := by
                                    have hf : hasV S (vC k9 h9 (v9 + 1) 0 b9) = true := by
                                      rw [← Bool.not_eq_false]
                                      intro e9
                                      rw [e9] at hbit
                                      simp at hbit
                                      omega
                                    refine mk_yes hf (by omega) ?_
                                    have hbz : b9 ≠ z9 := by
                                      intro e9
                                      simp [e9] at hG
                                    have hul : ulF S h9 b9 i9 (v9 + 1) = false := by
                                      have e9 : decide (b9 = z9) = false := by simp [hbz]
                                      rw [e9, Bool.false_or] at hG
                                      exact hG
                                    have e9 : lkF S (vC k9 h9 i9 1 z9) (vC k9 h9 (v9 + 1) 0 b9) = true := by
                                      simp only [lkF, lkg, hpc, q9, hul]
                                      simp
                                      omega
                                    simp [clF, e9]
                                  refine lv_iconst (v := (nI 0)) hx hb dX2_may_151 (by decide) ?_
                                  exact f_ri hx hb hr hlocks (by rw [hfin _ hyes]; rfl) dX2_may_152
                            · have hG : (decide (b9 = z9) || ulF S h9 b9 i9 (v9 + 1)) = true := by
                                have e9 : ulF S h9 b9 i9 (v9 + 1) = (ulF S h9 b9 i9 v9 || ulT S h9 b9 i9 v9) := rfl
                                have e0 : 0 < b9 := by omega
                                have e2 : ulT S h9 b9 i9 v9 = true := by simp [ulT, bk_ms, c_18, hvi, e0]
                                rw [e9, e2]
                                simp
                              refine lv_iconst (v := (nI 1)) hx hb dX2_may_119 (by decide) ?_
                              refine lv_goto (tgt := 124) hx hb dX2_may_120 (by decide) ?_
                              refine f_ti (y := (bI true)) rfl ?_
                              refine lv_istore (lv' := [(8, .int (bI true)), (9, .int (nI v9)), (7, .int (nI b9)), (6, .int (vrF S (nI k9) (nI h9) (nI i9) (nI 1) (nI z9))), (0, .ref (ad 0)), (1, .int (nI k9)), (2, .int (nI h9)), (3, .int (nI i9)), (4, .int (nI 1)), (5, .int (nI z9))]) hx hb dX2_may_124 hl (by decide) rfl (fun ls hl => ?_)
                              refine lv_iload hx hb dX2_may_126 (lv_at hl 0 rfl) ?_
                              refine f_bne (tgt := 153) hx hb dX2_may_128 (by decide) (fun c_21 => ?_) (fun c_21 => ?_)
                              · have hno4 : ∀ r9, r9 ≤ v9 + 1 → hasV S (vC k9 h9 r9 0 b9) = true → lkF S (vC k9 h9 i9 1 z9) (vC k9 h9 r9 0 b9) = false := fun r9 hr hh => by
                                  rcases Nat.lt_or_ge v9 r9 with g9 | g9
                                  · obtain rfl : r9 = v9 + 1 := by omega
                                    have q9 := vC_p (k := k9) (h := h9) (r := v9 + 1) (t := 0) (b := b9) (by omega) (by omega) (by decide) (by omega)
                                    rw [Bool.or_eq_true, decide_eq_true_eq] at hG
                                    rcases hG with hG | hG
                                    · have e9 : decide (b9 ≠ z9) = false := by simp [hG]
                                      simp only [lkF, hpc, q9, e9, Bool.and_false, Bool.false_and]
                                    · simp [lkF, hpc, q9, hG]
                                  · exact hno2 r9 g9 hh
                                refine lv_iinc (v := (nI (v9 + 1))) (lv' := [(9, .int (nI (v9 + 1))), (8, .int (bI true)), (7, .int (nI b9)), (6, .int (vrF S (nI k9) (nI h9) (nI i9) (nI 1) (nI z9))), (0, .ref (ad 0)), (1, .int (nI k9)), (2, .int (nI h9)), (3, .int (nI i9)), (4, .int (nI 1)), (5, .int (nI z9))]) hx hb dX2_may_153 hl (k := 1) rfl (nI_add v9 1) (by decide) rfl (fun ls hl => ?_)
                                refine lv_goto (tgt := 95) hx hb dX2_may_156 (by decide) ?_
                                exact ih_95 (v9 + 1) true (by omega) (hG.symm) (by omega) (by omega) (hno4) ls (lv_sub hl [0, 1, 2, 3, 4, 5, 6, 7, 8, 9] rfl)
                              · exact absurd c_21 (by decide)
                    exact loop_95 (7 - i9 + 1) i9 false (Nat.lt_succ_self _) (by have e9 : ulF S h9 b9 i9 i9 = false := (ex_no (fun y9 hy => by have e9 : ¬ i9 ≤ y9 := (by omega); simp [ulT, e9])); rw [e9]; simp; omega) (Nat.le_refl _) (by omega) (fun r9 hr hh => (by have q9 := vC_p (k := k9) (h := h9) (r := r9) (t := 0) (b := b9) (by omega) (by omega) (by decide) (by omega); have e9 : ¬ i9 < r9 := (by omega); simp [lkF, hpc, q9, e9])) ls (lv_sub hl [0, 1, 2, 3, 4, 5, 6, 7, 8, 9] rfl)
                  · refine lv_iconst (v := (nI 1)) hx hb dX2_may_85 (by decide) ?_
                    refine lv_goto (tgt := 90) hx hb dX2_may_86 (by decide) ?_
                    refine f_ti (y := (bI true)) rfl ?_
                    refine lv_istore (lv' := [(8, .int (bI true)), (7, .int (nI b9)), (6, .int (vrF S (nI k9) (nI h9) (nI i9) (nI 1) (nI z9))), (0, .ref (ad 0)), (1, .int (nI k9)), (2, .int (nI h9)), (3, .int (nI i9)), (4, .int (nI 1)), (5, .int (nI z9))]) hx hb dX2_may_90 hl (by decide) rfl (fun ls hl => ?_)
                    refine lv_iload_n hx hb dX2_may_92 rfl (lv_at hl 6 rfl) ?_
                    refine lv_istore (lv' := [(9, .int (nI i9)), (8, .int (bI true)), (7, .int (nI b9)), (6, .int (vrF S (nI k9) (nI h9) (nI i9) (nI 1) (nI z9))), (0, .ref (ad 0)), (1, .int (nI k9)), (2, .int (nI h9)), (3, .int (nI i9)), (4, .int (nI 1)), (5, .int (nI z9))]) hx hb dX2_may_93 hl (by decide) rfl (fun ls hl => ?_)
                    have loop_95 : ∀ (n9 : Nat) (v9 : Nat) (F : Bool), 7 - v9 < n9 → F = (decide (b9 = z9) || ulF S h9 b9 i9 v9) → i9 ≤ v9 → v9 ≤ 7 → (∀ r9, r9 ≤ v9 → hasV S (vC k9 h9 r9 0 b9) = true → lkF S (vC k9 h9 i9 1 z9) (vC k9 h9 r9 0 b9) = false) → ∀ ls : Array Slot, lv_has ls 10 [(9, .int (nI v9)), (8, .int (bI F)), (7, .int (nI b9)), (6, .int (vrF S (nI k9) (nI h9) (nI i9) (nI 1) (nI z9))), (0, .ref (ad 0)), (1, .int (nI k9)), (2, .int (nI h9)), (3, .int (nI i9)), (4, .int (nI 1)), (5, .int (nI z9))] → W pp l9 ee rm_X2_may ss mm aa bl me co ss.heap [] 0 0 (MQ bl (vp_Si (fun z_ => z_ = maF S (nI k9) (nI h9) (nI i9) (nI 1) (nI z9))) aa ss 0 0 (fun _ => False)) (F0 mm 95 ls []) := by
                      intro n9
                      induction n9 with
                      | zero => intro v9 F hm; exact absurd hm (Nat.not_lt_zero _)
                      | succ n9 ih_95 =>
                        intro v9 F hm hF hvi hv7 hno2 ls hl
                        refine lv_iload hx hb dX2_may_95 (lv_at hl 0 rfl) ?_
                        refine lv_bipush (v := (nI 7)) hx hb dX2_may_97 (by decide) ?_
                        refine f_ige (tgt := 159) hx hb (nI_toInt (by omega)) (nI_toInt (by omega)) dX2_may_99 (by decide) (fun c_22 => ?_) (fun c_22 => ?_)
                        · have hnx : ∀ r9, r9 < 8 → hasV S (vC k9 h9 r9 0 b9) = true → lkF S (vC k9 h9 i9 1 z9) (vC k9 h9 r9 0 b9) = false := fun r9 hr hh => hno2 r9 (by omega) hh
                          refine lv_iinc (v := (nI (b9 + 1))) (lv' := [(7, .int (nI (b9 + 1))), (9, .int (nI v9)), (8, .int (bI F)), (6, .int (vrF S (nI k9) (nI h9) (nI i9) (nI 1) (nI z9))), (0, .ref (ad 0)), (1, .int (nI k9)), (2, .int (nI h9)), (3, .int (nI i9)), (4, .int (nI 1)), (5, .int (nI z9))]) hx hb dX2_may_159 hl (k := 2) rfl (nI_add b9 1) (by decide) rfl (fun ls hl => ?_)
                          refine lv_goto (tgt := 71) hx hb dX2_may_162 (by decide) ?_
                          exact ih_71 (b9 + 1) (by omega) (lt_s hno hnx) (by omega) (by omega) ls (lv_sub hl [0, 3, 4, 5, 6, 7, 8, 9] rfl)
                        · refine lv_iload hx hb dX2_may_102 (lv_at hl 1 rfl) ?_
                          refine f_bne (tgt := 119) hx hb dX2_may_104 (by decide) (fun c_23 => ?_) (fun c_23 => ?_)
                          · have hG : (decide (b9 = z9) || ulF S h9 b9 i9 (v9 + 1)) = true := by
                              rw [c_23] at hF
                              have e9 : ulF S h9 b9 i9 (v9 + 1) = (ulF S h9 b9 i9 v9 || ulT S h9 b9 i9 v9) := rfl
                              rw [e9, ← Bool.or_assoc, ← hF]
                              rfl
                            refine lv_iconst (v := (nI 1)) hx hb dX2_may_119 (by decide) ?_
                            refine lv_goto (tgt := 124) hx hb dX2_may_120 (by decide) ?_
                            refine f_ti (y := (bI true)) rfl ?_
                            refine lv_istore (lv' := [(8, .int (bI true)), (9, .int (nI v9)), (7, .int (nI b9)), (6, .int (vrF S (nI k9) (nI h9) (nI i9) (nI 1) (nI z9))), (0, .ref (ad 0)), (1, .int (nI k9)), (2, .int (nI h9)), (3, .int (nI i9)), (4, .int (nI 1)), (5, .int (nI z9))]) hx hb dX2_may_124 hl (by decide) rfl (fun ls hl => ?_)
                            refine lv_iload hx hb dX2_may_126 (lv_at hl 0 rfl) ?_
                            refine f_bne (tgt := 153) hx hb dX2_may_128 (by decide) (fun c_24 => ?_) (fun c_24 => ?_)
                            · have hno4 : ∀ r9, r9 ≤ v9 + 1 → hasV S (vC k9 h9 r9 0 b9) = true → lkF S (vC k9 h9 i9 1 z9) (vC k9 h9 r9 0 b9) = false := fun r9 hr hh => by
                                rcases Nat.lt_or_ge v9 r9 with g9 | g9
                                · obtain rfl : r9 = v9 + 1 := by omega
                                  have q9 := vC_p (k := k9) (h := h9) (r := v9 + 1) (t := 0) (b := b9) (by omega) (by omega) (by decide) (by omega)
                                  rw [Bool.or_eq_true, decide_eq_true_eq] at hG
                                  rcases hG with hG | hG
                                  · have e9 : decide (b9 ≠ z9) = false := by simp [hG]
                                    simp only [lkF, hpc, q9, e9, Bool.and_false, Bool.false_and]
                                  · simp [lkF, hpc, q9, hG]
                                · exact hno2 r9 g9 hh
                              refine lv_iinc (v := (nI (v9 + 1))) (lv' := [(9, .int (nI (v9 + 1))), (8, .int (bI true)), (7, .int (nI b9)), (6, .int (vrF S (nI k9) (nI h9) (nI i9) (nI 1) (nI z9))), (0, .ref (ad 0)), (1, .int (nI k9)), (2, .int (nI h9)), (3, .int (nI i9)), (4, .int (nI 1)), (5, .int (nI z9))]) hx hb dX2_may_153 hl (k := 1) rfl (nI_add v9 1) (by decide) rfl (fun ls hl => ?_)
                              refine lv_goto (tgt := 95) hx hb dX2_may_156 (by decide) ?_
                              exact ih_95 (v9 + 1) true (by omega) (hG.symm) (by omega) (by omega) (hno4) ls (lv_sub hl [0, 1, 2, 3, 4, 5, 6, 7, 8, 9] rfl)
                            · exact absurd c_24 (by decide)
                          · have hF0 := c_23
                            refine lv_aload_n hx hb dX2_may_107 rfl (lv_at hl 4 rfl) ?_
                            refine lv_iload_n hx hb dX2_may_108 rfl (lv_at hl 6 rfl) ?_
                            refine lv_iload hx hb dX2_may_109 (lv_at hl 0 rfl) ?_
                            refine lv_iload hx hb dX2_may_111 (lv_at hl 2 rfl) ?_
                            refine f_cVi (As := [.int (nI h9), .int (nI v9), .int (nI b9)]) (rest := []) ⟨hx, hb, hml, hown, hts⟩ (c_X2_isBacked l9 dC dI ad cy S h9 v9 b9 I (by omega) (by omega) (by omega)) (cwV 3 hts gX2_may_X2_isBacked rfl rfl rfl (by decide +kernel) ⟨Nat.le_of_ble_eq_true rfl, Nat.le_of_ble_eq_true rfl⟩) roB_bl (va_recv hK hP (ci := 3) (q0 := 0) rfl rfl) (roB_at hP hK) rfl hl.1 rfl (Nat.le_of_ble_eq_true rfl) dX2_may_113 ⟨Nat.zero_le _, Nat.zero_le _⟩ ?_
                            refine f_beq (tgt := 123) hx hb dX2_may_116 (by decide) (fun c_25 => ?_) (fun c_25 => ?_)
                            · have hG : (decide (b9 = z9) || ulF S h9 b9 i9 (v9 + 1)) = false := by
                                rw [hF0] at hF
                                have e9 : ulF S h9 b9 i9 (v9 + 1) = (ulF S h9 b9 i9 v9 || ulT S h9 b9 i9 v9) := rfl
                                rw [e9, ← Bool.or_assoc, ← hF]
                                simp [ulT, bk_ms, c_25]
                              refine lv_iconst (v := (nI 0)) hx hb dX2_may_123 (by decide) ?_
                              refine f_ti (y := (bI false)) rfl ?_
                              refine lv_istore (lv' := [(8, .int (bI false)), (9, .int (nI v9)), (7, .int (nI b9)), (6, .int (vrF S (nI k9) (nI h9) (nI i9) (nI 1) (nI z9))), (0, .ref (ad 0)), (1, .int (nI k9)), (2, .int (nI h9)), (3, .int (nI i9)), (4, .int (nI 1)), (5, .int (nI z9))]) hx hb dX2_may_124 hl (by decide) rfl (fun ls hl => ?_)
                              refine lv_iload hx hb dX2_may_126 (lv_at hl 0 rfl) ?_
                              refine f_bne (tgt := 153) hx hb dX2_may_128 (by decide) (fun c_26 => ?_) (fun c_26 => ?_)
                              · exact absurd c_26 (by decide)
                              · refine lv_aload_n hx hb dX2_may_131 rfl (lv_at hl 4 rfl) ?_
                                refine lv_iload_n hx hb dX2_may_132 rfl (lv_at hl 5 rfl) ?_
                                refine lv_iload_n hx hb dX2_may_133 rfl (lv_at hl 6 rfl) ?_
                                refine lv_iload hx hb dX2_may_134 (lv_at hl 1 rfl) ?_
                                refine lv_iconst (v := (nI 1)) hx hb dX2_may_136 (by decide) ?_
                                refine lv_iadd hx hb dX2_may_137 ?_
                                refine f_ti (y := (nI (v9 + 1))) (nI_add _ _) ?_
                                refine lv_iconst (v := (nI 0)) hx hb dX2_may_138 (by decide) ?_
                                refine f_cVi (As := [.int (nI k9), .int (nI h9), .int (nI (v9 + 1)), .int (nI 0)]) (rest := []) ⟨hx, hb, hml, hown, hts⟩ (c_X2_saidBy l9 dC dI ad cy S k9 h9 (v9 + 1) 0 I (by omega) (by omega) (by omega) (by omega)) (cwV 4 hts gX2_may_X2_saidBy rfl rfl rfl (by decide +kernel) ⟨Nat.le_of_ble_eq_true rfl, Nat.le_of_ble_eq_true rfl⟩) roB_bl (va_recv hK hP (ci := 3) (q0 := 0) rfl rfl) (roB_at hP hK) rfl hl.1 rfl (Nat.le_of_ble_eq_true rfl) dX2_may_139 ⟨Nat.zero_le _, Nat.zero_le _⟩ ?_
                                refine lv_iload hx hb dX2_may_142 (lv_at hl 2 rfl) ?_
                                have hsl : sbF S k9 h9 (v9 + 1) 0 < 1024 := bitS_lt 10 _
                                have hsd : sbF S k9 h9 (v9 + 1) 0 / 2 ^ b9 ≤ sbF S k9 h9 (v9 + 1) 0 := Nat.div_le_self _ _
                                refine lv_ishr hx hb dX2_may_144 ?_
                                refine f_ti (y := (nI (sbF S k9 h9 (v9 + 1) 0 / 2 ^ b9))) (f_shrv (by omega) (by omega)) ?_
                                refine lv_iconst (v := (nI 1)) hx hb dX2_may_145 (by decide) ?_
                                refine lv_iand hx hb dX2_may_146 ?_
                                refine f_ti (y := (nI ((sbF S k9 h9 (v9 + 1) 0 / 2 ^ b9) % 2))) (pk_andN (by omega) 1 (by decide)) ?_
                                refine lv_iconst (v := (nI 1)) hx hb dX2_may_147 (by decide) ?_
                                have hbit := f_tb2 (sbF S k9 h9 (v9 + 1) 0) b9
                                rw [sb_tb2 S k9 h9 (v9 + 1) 0 (by omega)] at hbit
                                have q9 := vC_p (k := k9) (h := h9) (r := v9 + 1) (t := 0) (b := b9) (by omega) (by omega) (by decide) (by omega)
                                refine f_ine (tgt := 153) hx hb (nI_toInt (by omega)) (nI_toInt (by omega)) dX2_may_148 (by decide) (fun c_27 => ?_) (fun c_27 => ?_)
                                · have hno4 : ∀ r9, r9 ≤ v9 + 1 → hasV S (vC k9 h9 r9 0 b9) = true → lkF S (vC k9 h9 i9 1 z9) (vC k9 h9 r9 0 b9) = false := fun r9 hr hh => by
                                    rcases Nat.lt_or_ge v9 r9 with g9 | g9
                                    · obtain rfl : r9 = v9 + 1 := by omega
                                      rw [hh] at hbit
                                      simp at hbit
                                      omega
                                    · exact hno2 r9 g9 hh
                                  refine lv_iinc (v := (nI (v9 + 1))) (lv' := [(9, .int (nI (v9 + 1))), (8, .int (bI false)), (7, .int (nI b9)), (6, .int (vrF S (nI k9) (nI h9) (nI i9) (nI 1) (nI z9))), (0, .ref (ad 0)), (1, .int (nI k9)), (2, .int (nI h9)), (3, .int (nI i9)), (4, .int (nI 1)), (5, .int (nI z9))]) hx hb dX2_may_153 hl (k := 1) rfl (nI_add v9 1) (by decide) rfl (fun ls hl => ?_)
                                  refine lv_goto (tgt := 95) hx hb dX2_may_156 (by decide) ?_
                                  exact ih_95 (v9 + 1) false (by omega) (hG.symm) (by omega) (by omega) (hno4) ls (lv_sub hl [0, 1, 2, 3, 4, 5, 6, 7, 8, 9] rfl)
                                · have hyes : mkF S (vC k9 h9 i9 1 z9) = true := by
                                    have hf : hasV S (vC k9 h9 (v9 + 1) 0 b9) = true := by
                                      rw [← Bool.not_eq_false]
                                      intro e9
                                      rw [e9] at hbit
                                      simp at hbit
                                      omega
                                    refine mk_yes hf (by omega) ?_
                                    have hbz : b9 ≠ z9 := by
                                      intro e9
                                      simp [e9] at hG
                                    have hul : ulF S h9 b9 i9 (v9 + 1) = false := by
                                      have e9 : decide (b9 = z9) = false := by simp [hbz]
                                      rw [e9, Bool.false_or] at hG
                                      exact hG
                                    have e9 : lkF S (vC k9 h9 i9 1 z9) (vC k9 h9 (v9 + 1) 0 b9) = true := by
                                      simp only [lkF, lkg, hpc, q9, hul]
                                      simp
                                      omega
                                    simp [clF, e9]
                                  refine lv_iconst (v := (nI 0)) hx hb dX2_may_151 (by decide) ?_
                                  exact f_ri hx hb hr hlocks (by rw [hfin _ hyes]; rfl) dX2_may_152
                            · have hG : (decide (b9 = z9) || ulF S h9 b9 i9 (v9 + 1)) = true := by
                                have e9 : ulF S h9 b9 i9 (v9 + 1) = (ulF S h9 b9 i9 v9 || ulT S h9 b9 i9 v9) := rfl
                                have e0 : 0 < b9 := by omega
                                have e2 : ulT S h9 b9 i9 v9 = true := by simp [ulT, bk_ms, c_25, hvi, e0]
                                rw [e9, e2]
                                simp
                              refine lv_iconst (v := (nI 1)) hx hb dX2_may_119 (by decide) ?_
                              refine lv_goto (tgt := 124) hx hb dX2_may_120 (by decide) ?_
                              refine f_ti (y := (bI true)) rfl ?_
                              refine lv_istore (lv' := [(8, .int (bI true)), (9, .int (nI v9)), (7, .int (nI b9)), (6, .int (vrF S (nI k9) (nI h9) (nI i9) (nI 1) (nI z9))), (0, .ref (ad 0)), (1, .int (nI k9)), (2, .int (nI h9)), (3, .int (nI i9)), (4, .int (nI 1)), (5, .int (nI z9))]) hx hb dX2_may_124 hl (by decide) rfl (fun ls hl => ?_)
                              refine lv_iload hx hb dX2_may_126 (lv_at hl 0 rfl) ?_
                              refine f_bne (tgt := 153) hx hb dX2_may_128 (by decide) (fun c_28 => ?_) (fun c_28 => ?_)
                              · have hno4 : ∀ r9, r9 ≤ v9 + 1 → hasV S (vC k9 h9 r9 0 b9) = true → lkF S (vC k9 h9 i9 1 z9) (vC k9 h9 r9 0 b9) = false := fun r9 hr hh => by
                                  rcases Nat.lt_or_ge v9 r9 with g9 | g9
                                  · obtain rfl : r9 = v9 + 1 := by omega
                                    have q9 := vC_p (k := k9) (h := h9) (r := v9 + 1) (t := 0) (b := b9) (by omega) (by omega) (by decide) (by omega)
                                    rw [Bool.or_eq_true, decide_eq_true_eq] at hG
                                    rcases hG with hG | hG
                                    · have e9 : decide (b9 ≠ z9) = false := by simp [hG]
                                      simp only [lkF, hpc, q9, e9, Bool.and_false, Bool.false_and]
                                    · simp [lkF, hpc, q9, hG]
                                  · exact hno2 r9 g9 hh
                                refine lv_iinc (v := (nI (v9 + 1))) (lv' := [(9, .int (nI (v9 + 1))), (8, .int (bI true)), (7, .int (nI b9)), (6, .int (vrF S (nI k9) (nI h9) (nI i9) (nI 1) (nI z9))), (0, .ref (ad 0)), (1, .int (nI k9)), (2, .int (nI h9)), (3, .int (nI i9)), (4, .int (nI 1)), (5, .int (nI z9))]) hx hb dX2_may_153 hl (k := 1) rfl (nI_add v9 1) (by decide) rfl (fun ls hl => ?_)
                                refine lv_goto (tgt := 95) hx hb dX2_may_156 (by decide) ?_
                                exact ih_95 (v9 + 1) true (by omega) (hG.symm) (by omega) (by omega) (hno4) ls (lv_sub hl [0, 1, 2, 3, 4, 5, 6, 7, 8, 9] rfl)
                              · exact absurd c_28 (by decide)
                    exact loop_95 (7 - i9 + 1) i9 true (Nat.lt_succ_self _) (by have e9 : ulF S h9 b9 i9 i9 = false := (ex_no (fun y9 hy => by have e9 : ¬ i9 ≤ y9 := (by omega); simp [ulT, e9])); rw [e9]; simp; omega) (Nat.le_refl _) (by omega) (fun r9 hr hh => (by have q9 := vC_p (k := k9) (h := h9) (r := r9) (t := 0) (b := b9) (by omega) (by omega) (by decide) (by omega); have e9 : ¬ i9 < r9 := (by omega); simp [lkF, hpc, q9, e9])) ls (lv_sub hl [0, 1, 2, 3, 4, 5, 6, 7, 8, 9] rfl)
            exact loop_71 (10 - 1 + 1) 1 (Nat.lt_succ_self _) (fun b1 hb1 r9 _ _ => (by have e9 : b1 = 0 := (by omega); subst e9; have q9 := vC_p (k := k9) (h := h9) (r := r9) (t := 0) (b := 0) (by omega) (by assumption) (by decide) (by decide); simp [lkF, q9])) (by decide) (by decide) ls (lv_sub hl [0, 1, 2, 3, 4, 5, 6, 7] rfl)
          · have hyes : mkF S (vC k9 h9 i9 1 z9) = true := by
              have e9 : brF S (vC k9 h9 i9 1 z9) = true := by
                simp [brF, lkg, bk_ms, hpc, c_12]
                omega
              simp [mkF, e9]
            refine lv_iconst (v := (nI 0)) hx hb dX2_may_66 (by decide) ?_
            exact f_ri hx hb hr hlocks (by rw [hfin _ hyes]; rfl) dX2_may_67
      · have hyes : mkF S (vC k9 h9 i9 j9 z9) = false := mk_no I (by omega) hi hj hz hno1 (by
          have e9 : ¬ 0 < z9 := by omega
          simp [brF, lkg, hpc, e9]) (fun r9 b9 _ _ _ => by
          have e9 : ¬ 0 < z9 := by omega
          simp [lkF, lkg, hpc, e9]) (fun r9 b9 _ _ _ => by
          have e9 : ¬ 0 < z9 := by omega
          simp [lkF, hpc, e9])
        refine lv_iconst (v := (nI 1)) hx hb dX2_may_47 (by decide) ?_
        exact f_ri hx hb hr hlocks (by rw [hfin _ hyes]; rfl) dX2_may_48
    · have hyes : mkF S (vC k9 h9 i9 j9 z9) = true := by
        obtain ⟨b9, hb, hzb, hf⟩ := clr_1 (m := sbF S k9 h9 i9 j9) (z := z9) (by omega)
        rw [sb_tb2 S k9 h9 i9 j9 hb] at hf
        have q9 := vC_p (k := k9) (h := h9) (r := i9) (t := j9) (b := b9) (by omega) hi hj (by omega)
        refine mk_yes hf (by omega) ?_
        have e9 : twF (vC k9 h9 i9 j9 z9) (vC k9 h9 i9 j9 b9) = true := by
          simp only [twF, Bool.and_eq_true, decide_eq_true_eq]
          unfold vC
          omega
        simp [clF, e9]
      refine lv_iconst (v := (nI 0)) hx hb dX2_may_40 (by decide) ?_
      exact f_ri hx hb hr hlocks (by rw [hfin _ hyes]; rfl) dX2_may_41
  · refine lv_iload hx hb dX2_may_18 (lv_at hl 0 rfl) ?_
    exact f_ri hx hb hr hlocks (by have e9 : ¬ vrF S x9 y9 u9 t9 b9 = nI 0 := (fun e9 => c_1 (by rw [e9]; rfl)); rw [maF, if_neg e9]) dX2_may_20
