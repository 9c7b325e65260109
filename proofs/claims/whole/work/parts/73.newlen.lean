/-! how long the list's array gets -/
theorem mx_nI {x9 y9 : Nat} (h1 : x9 < 2147483648) (h2 : y9 < 2147483648) : (if nI x9 < nI y9 then nI y9 else nI x9) = nI (max x9 y9) := by
  by_cases h3 : x9 < y9
  · rw [if_pos ((nI_ltI h1 h2).mpr h3), Nat.max_eq_right (by omega)]
  · rw [if_neg (fun h4 => h3 ((nI_ltI h1 h2).mp h4)), Nat.max_eq_left (by omega)]
theorem mn_nI {x9 y9 : Nat} (h1 : x9 < 2147483648) (h2 : y9 < 2147483648) : (if nI y9 < nI x9 then nI y9 else nI x9) = nI (min x9 y9) := by
  by_cases h3 : y9 < x9
  · rw [if_pos ((nI_ltI h2 h1).mpr h3), Nat.min_eq_right (by omega)]
  · rw [if_neg (fun h4 => h3 ((nI_ltI h2 h1).mp h4)), Nat.min_eq_left (by omega)]
set_option maxRecDepth 100000 in
theorem c_newLen (l9 : Launch) (o9 mi pf : Nat) (h1 : 0 < o9 + max mi pf) (h2 : o9 + max mi pf ≤ 1000000000) : RoI l9 yJ8_newLength_cabcc wsJ8_newLength_cabcc { frames := 1, cells := 0, slots := 0, locals := 14 } [.int (nI o9), .int (nI mi), .int (nI pf)] noB (nI (o9 + max mi pf)) := by
  refine Ro_start (cc := cJ8_newLength_cabcc) (maxL := 4) (ret := (some .int)) (lv := [(0, .int (nI o9)), (1, .int (nI mi)), (2, .int (nI pf))]) (by decide) rfl (Nat.le_of_ble_eq_true rfl) rfl ?_
  intro pp ee ss mm aa bl me co hx hb hr hml hts hown hlocks hnm hB ls hl
  have hmi : mi ≤ max mi pf := Nat.le_max_left _ _
  have hpf : pf ≤ max mi pf := Nat.le_max_right _ _
  refine lv_iload_n hx hb dJ8_newLength_cabcc_0 rfl (lv_at hl 0 rfl) ?_
  refine lv_iload_n hx hb dJ8_newLength_cabcc_1 rfl (lv_at hl 1 rfl) ?_
  refine lv_iload_n hx hb dJ8_newLength_cabcc_2 rfl (lv_at hl 2 rfl) ?_
  refine va_mmax hx hb (by rw [hml]; exact hl.1.symm) hown (hts (.methodLink RJ8 194 Lib.Math.max.name) (by decide +kernel)) (hts (.static Lib.Math.max.name) (by decide +kernel)) (hts (.initialized "java/lang/Math") (by decide +kernel)) (hts _ (List.mem_cons_of_mem _ (List.mem_of_getElem? (i := 3) rfl))) (Nat.le_of_ble_eq_true rfl) (Nat.le_of_ble_eq_true rfl) (Nat.zero_le _) (Nat.zero_le _) dJ8_newLength_cabcc_3 ?_
  refine f_ti (y := nI (max mi pf)) (mx_nI (by omega) (by omega)) ?_
  refine lv_iadd hx hb dJ8_newLength_cabcc_6 ?_
  refine f_ti (y := nI (o9 + max mi pf)) (nI_add _ _) ?_
  refine lv_istore_n (lv' := [(3, .int (nI (o9 + max mi pf))), (0, .int (nI o9)), (1, .int (nI mi)), (2, .int (nI pf))]) hx hb dJ8_newLength_cabcc_7 rfl hl (by decide) rfl (fun ls hl => ?_)
  refine lv_iconst (v := nI 0) hx hb dJ8_newLength_cabcc_8 (by decide) ?_
  refine lv_iload_n hx hb dJ8_newLength_cabcc_9 rfl (lv_at hl 0 rfl) ?_
  refine f_ige (tgt := 21) hx hb (nI_toInt (by omega)) (nI_toInt (by omega)) dJ8_newLength_cabcc_10 (by decide) (fun c_1 => ?_) (fun c_1 => ?_)
  · exfalso; omega
  refine lv_iload_n hx hb dJ8_newLength_cabcc_13 rfl (lv_at hl 0 rfl) ?_
  refine lv_ldc (v := 2147483639) hx hb hown (hts (.constant RJ8 200 (2147483639)) (by decide +kernel)) dJ8_newLength_cabcc_14 ?_
  refine f_igt (tgt := 21) hx hb (nI_toInt (by omega)) (by decide : (2147483639 : Int32).toInt = 2147483639) dJ8_newLength_cabcc_16 (by decide) (fun c_2 => ?_) (fun c_2 => ?_)
  · exfalso; omega
  refine lv_iload_n hx hb dJ8_newLength_cabcc_19 rfl (lv_at hl 0 rfl) ?_
  exact f_ri hx hb hr hlocks rfl dJ8_newLength_cabcc_20
