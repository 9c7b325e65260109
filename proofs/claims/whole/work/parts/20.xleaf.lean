abbrev rm_X1_packed : Room := { frames := 0, cells := 0, slots := 0, locals := 0 }
set_option maxHeartbeats 4000000 in
set_option maxRecDepth 100000 in
theorem c_X1_packed (l : Launch) (k : Nat) (h : Nat) (r : Nat) (t : Nat) (b : Nat) (hk : k < 8) (hh : h ≤ 40) (hr1 : r < 8) (ht : t < 2) (hb1 : b < 16) : RoI l yX1_packed wsX1_packed rm_X1_packed [.int (nI k), .int (nI h), .int (nI r), .int (nI t), .int (nI b)] (noB) (nI (vC k h r t b)) := by
  refine Ro_start (cc := cX1_packed) (maxL := 5) (ret := (some .int)) (lv := [(0, .int (nI k)), (1, .int (nI h)), (2, .int (nI r)), (3, .int (nI t)), (4, .int (nI b))]) (by decide) rfl (Nat.le_of_ble_eq_true rfl) rfl ?_
  intro pp ee ss mm aa bl me co hx hb hr hml hts hown hlocks hnm hB ls hl
  refine lv_iload_n hx hb dX1_packed_0 rfl (lv_at hl 1 rfl) ?_
  refine lv_bipush (v := (nI 11)) hx hb dX1_packed_1 (by decide) ?_
  refine lv_ishl hx hb dX1_packed_3 ?_
  refine f_ti (y := (nI (h * 2048))) (pk_shlN _ 11 (by decide) (by omega)) ?_
  refine lv_iload_n hx hb dX1_packed_4 rfl (lv_at hl 0 rfl) ?_
  refine lv_bipush (v := (nI 8)) hx hb dX1_packed_5 (by decide) ?_
  refine lv_ishl hx hb dX1_packed_7 ?_
  refine f_ti (y := (nI (k * 256))) (pk_shlN _ 8 (by decide) (by omega)) ?_
  refine lv_ior hx hb dX1_packed_8 ?_
  refine f_ti (y := (nI (h * 2048 + k * 256))) (f_or (a := h) 11 rfl (by omega)) ?_
  refine lv_iload_n hx hb dX1_packed_9 rfl (lv_at hl 2 rfl) ?_
  refine lv_iconst (v := (nI 5)) hx hb dX1_packed_10 (by decide) ?_
  refine lv_ishl hx hb dX1_packed_11 ?_
  refine f_ti (y := (nI (r * 32))) (pk_shlN _ 5 (by decide) (by omega)) ?_
  refine lv_ior hx hb dX1_packed_12 ?_
  refine f_ti (y := (nI (h * 2048 + k * 256 + r * 32))) (f_or (a := h * 8 + k) 8 (by omega) (by omega)) ?_
  refine lv_iload_n hx hb dX1_packed_13 rfl (lv_at hl 3 rfl) ?_
  refine lv_iconst (v := (nI 4)) hx hb dX1_packed_14 (by decide) ?_
  refine lv_ishl hx hb dX1_packed_15 ?_
  refine f_ti (y := (nI (t * 16))) (pk_shlN _ 4 (by decide) (by omega)) ?_
  refine lv_ior hx hb dX1_packed_16 ?_
  refine f_ti (y := (nI (h * 2048 + k * 256 + r * 32 + t * 16))) (f_or (a := (h * 8 + k) * 8 + r) 5 (by omega) (by omega)) ?_
  refine lv_iload hx hb dX1_packed_17 (lv_at hl 4 rfl) ?_
  refine lv_ior hx hb dX1_packed_19 ?_
  refine f_ti (y := (nI (h * 2048 + k * 256 + r * 32 + t * 16 + b))) (f_or (a := ((h * 8 + k) * 8 + r) * 2 + t) 4 (by omega) (by omega)) ?_
  exact f_ri hx hb hr hlocks (by rw [vC]) dX1_packed_20

abbrev rm_X1_heightOf : Room := { frames := 0, cells := 0, slots := 0, locals := 0 }
set_option maxHeartbeats 4000000 in
set_option maxRecDepth 100000 in
theorem c_X1_heightOf (l : Launch) (c : Nat) (hc : c < 2147483648) : RoI l yX1_heightOf wsX1_heightOf rm_X1_heightOf [.int (nI c)] (noB) (nI (c / 2048)) := by
  refine Ro_start (cc := cX1_heightOf) (maxL := 1) (ret := (some .int)) (lv := [(0, .int (nI c))]) (by decide) rfl (Nat.le_of_ble_eq_true rfl) rfl ?_
  intro pp ee ss mm aa bl me co hx hb hr hml hts hown hlocks hnm hB ls hl
  refine lv_iload_n hx hb dX1_heightOf_0 rfl (lv_at hl 0 rfl) ?_
  refine lv_bipush (v := (nI 11)) hx hb dX1_heightOf_1 (by decide) ?_
  refine lv_ishr hx hb dX1_heightOf_3 ?_
  refine f_ti (y := (nI (c / 2048))) (pk_shrN (by omega) _ 11 (by decide)) ?_
  exact f_ri hx hb hr hlocks (rfl) dX1_heightOf_4

abbrev rm_X1_nodeOf : Room := { frames := 0, cells := 0, slots := 0, locals := 0 }
set_option maxHeartbeats 4000000 in
set_option maxRecDepth 100000 in
theorem c_X1_nodeOf (l : Launch) (c : Nat) (hc : c < 2147483648) : RoI l yX1_nodeOf wsX1_nodeOf rm_X1_nodeOf [.int (nI c)] (noB) (nI (c / 256 % 8)) := by
  refine Ro_start (cc := cX1_nodeOf) (maxL := 1) (ret := (some .int)) (lv := [(0, .int (nI c))]) (by decide) rfl (Nat.le_of_ble_eq_true rfl) rfl ?_
  intro pp ee ss mm aa bl me co hx hb hr hml hts hown hlocks hnm hB ls hl
  refine lv_iload_n hx hb dX1_nodeOf_0 rfl (lv_at hl 0 rfl) ?_
  refine lv_bipush (v := (nI 8)) hx hb dX1_nodeOf_1 (by decide) ?_
  refine lv_ishr hx hb dX1_nodeOf_3 ?_
  refine f_ti (y := (nI (c / 256))) (pk_shrN (by omega) _ 8 (by decide)) ?_
  refine lv_bipush (v := (nI 7)) hx hb dX1_nodeOf_4 (by decide) ?_
  refine lv_iand hx hb dX1_nodeOf_6 ?_
  refine f_ti (y := (nI ((c / 256) % 8))) (pk_andN (by omega) 3 (by decide)) ?_
  exact f_ri hx hb hr hlocks (rfl) dX1_nodeOf_7

abbrev rm_X1_roundOf : Room := { frames := 0, cells := 0, slots := 0, locals := 0 }
set_option maxHeartbeats 4000000 in
set_option maxRecDepth 100000 in
theorem c_X1_roundOf (l : Launch) (c : Nat) (hc : c < 2147483648) : RoI l yX1_roundOf wsX1_roundOf rm_X1_roundOf [.int (nI c)] (noB) (nI (c / 32 % 8)) := by
  refine Ro_start (cc := cX1_roundOf) (maxL := 1) (ret := (some .int)) (lv := [(0, .int (nI c))]) (by decide) rfl (Nat.le_of_ble_eq_true rfl) rfl ?_
  intro pp ee ss mm aa bl me co hx hb hr hml hts hown hlocks hnm hB ls hl
  refine lv_iload_n hx hb dX1_roundOf_0 rfl (lv_at hl 0 rfl) ?_
  refine lv_iconst (v := (nI 5)) hx hb dX1_roundOf_1 (by decide) ?_
  refine lv_ishr hx hb dX1_roundOf_2 ?_
  refine f_ti (y := (nI (c / 32))) (pk_shrN (by omega) _ 5 (by decide)) ?_
  refine lv_bipush (v := (nI 7)) hx hb dX1_roundOf_3 (by decide) ?_
  refine lv_iand hx hb dX1_roundOf_5 ?_
  refine f_ti (y := (nI ((c / 32) % 8))) (pk_andN (by omega) 3 (by decide)) ?_
  exact f_ri hx hb hr hlocks (rfl) dX1_roundOf_6

abbrev rm_X1_stepOf : Room := { frames := 0, cells := 0, slots := 0, locals := 0 }
set_option maxHeartbeats 4000000 in
set_option maxRecDepth 100000 in
theorem c_X1_stepOf (l : Launch) (c : Nat) (hc : c < 2147483648) : RoI l yX1_stepOf wsX1_stepOf rm_X1_stepOf [.int (nI c)] (noB) (nI (c / 16 % 2)) := by
  refine Ro_start (cc := cX1_stepOf) (maxL := 1) (ret := (some .int)) (lv := [(0, .int (nI c))]) (by decide) rfl (Nat.le_of_ble_eq_true rfl) rfl ?_
  intro pp ee ss mm aa bl me co hx hb hr hml hts hown hlocks hnm hB ls hl
  refine lv_iload_n hx hb dX1_stepOf_0 rfl (lv_at hl 0 rfl) ?_
  refine lv_iconst (v := (nI 4)) hx hb dX1_stepOf_1 (by decide) ?_
  refine lv_ishr hx hb dX1_stepOf_2 ?_
  refine f_ti (y := (nI (c / 16))) (pk_shrN (by omega) _ 4 (by decide)) ?_
  refine lv_iconst (v := (nI 1)) hx hb dX1_stepOf_3 (by decide) ?_
  refine lv_iand hx hb dX1_stepOf_4 ?_
  refine f_ti (y := (nI ((c / 16) % 2))) (pk_andN (by omega) 1 (by decide)) ?_
  exact f_ri hx hb hr hlocks (rfl) dX1_stepOf_5

abbrev rm_X1_blockOf : Room := { frames := 0, cells := 0, slots := 0, locals := 0 }
set_option maxHeartbeats 4000000 in
set_option maxRecDepth 100000 in
theorem c_X1_blockOf (l : Launch) (c : Nat) (hc : c < 2147483648) : RoI l yX1_blockOf wsX1_blockOf rm_X1_blockOf [.int (nI c)] (noB) (nI (c % 16)) := by
  refine Ro_start (cc := cX1_blockOf) (maxL := 1) (ret := (some .int)) (lv := [(0, .int (nI c))]) (by decide) rfl (Nat.le_of_ble_eq_true rfl) rfl ?_
  intro pp ee ss mm aa bl me co hx hb hr hml hts hown hlocks hnm hB ls hl
  refine lv_iload_n hx hb dX1_blockOf_0 rfl (lv_at hl 0 rfl) ?_
  refine lv_bipush (v := (nI 15)) hx hb dX1_blockOf_1 (by decide) ?_
  refine lv_iand hx hb dX1_blockOf_3 ?_
  refine f_ti (y := (nI (c % 16))) (pk_andN (by omega) 4 (by decide)) ?_
  exact f_ri hx hb hr hlocks (rfl) dX1_blockOf_4

abbrev rm_X1_voterOf : Room := { frames := 0, cells := 0, slots := 0, locals := 0 }
set_option maxHeartbeats 4000000 in
set_option maxRecDepth 100000 in
theorem c_X1_voterOf (l : Launch) (c : Nat) (hc : c < 2147483648) : RoI l yX1_voterOf wsX1_voterOf rm_X1_voterOf [.int (nI c)] (noB) (nI (c / 256)) := by
  refine Ro_start (cc := cX1_voterOf) (maxL := 1) (ret := (some .int)) (lv := [(0, .int (nI c))]) (by decide) rfl (Nat.le_of_ble_eq_true rfl) rfl ?_
  intro pp ee ss mm aa bl me co hx hb hr hml hts hown hlocks hnm hB ls hl
  refine lv_iload_n hx hb dX1_voterOf_0 rfl (lv_at hl 0 rfl) ?_
  refine lv_bipush (v := (nI 8)) hx hb dX1_voterOf_1 (by decide) ?_
  refine lv_ishr hx hb dX1_voterOf_3 ?_
  refine f_ti (y := (nI (c / 256))) (pk_shrN (by omega) _ 8 (by decide)) ?_
  exact f_ri hx hb hr hlocks (rfl) dX1_voterOf_4

abbrev rm_X1_weightIndex : Room := { frames := 0, cells := 0, slots := 0, locals := 0 }
set_option maxHeartbeats 4000000 in
set_option maxRecDepth 100000 in
theorem c_X1_weightIndex (l : Launch) (h : Nat) (k : Nat) : RoI l yX1_weightIndex wsX1_weightIndex rm_X1_weightIndex [.int (nI h), .int (nI k)] (noB) (nI (h * 8 + k)) := by
  refine Ro_start (cc := cX1_weightIndex) (maxL := 2) (ret := (some .int)) (lv := [(0, .int (nI h)), (1, .int (nI k))]) (by decide) rfl (Nat.le_of_ble_eq_true rfl) rfl ?_
  intro pp ee ss mm aa bl me co hx hb hr hml hts hown hlocks hnm hB ls hl
  refine lv_iload_n hx hb dX1_weightIndex_0 rfl (lv_at hl 0 rfl) ?_
  refine lv_bipush (v := (nI 8)) hx hb dX1_weightIndex_1 (by decide) ?_
  refine lv_imul hx hb dX1_weightIndex_3 ?_
  refine f_ti (y := (nI (h * 8))) (pk_mul _ _) ?_
  refine lv_iload_n hx hb dX1_weightIndex_4 rfl (lv_at hl 1 rfl) ?_
  refine lv_iadd hx hb dX1_weightIndex_5 ?_
  refine f_ti (y := (nI ((h * 8) + k))) (nI_add _ _) ?_
  exact f_ri hx hb hr hlocks (rfl) dX1_weightIndex_6

abbrev rm_X1_isKind : Room := { frames := 0, cells := 0, slots := 0, locals := 0 }
set_option maxHeartbeats 4000000 in
set_option maxRecDepth 100000 in
theorem c_X1_isKind (l : Launch) (x : Int32) : RoI l yX1_isKind wsX1_isKind rm_X1_isKind [.int x] (noB) (bI (isKd x)) := by
  refine Ro_start (cc := cX1_isKind) (maxL := 1) (ret := (some .boolean)) (lv := [(0, .int x)]) (by decide) rfl (Nat.le_of_ble_eq_true rfl) rfl ?_
  intro pp ee ss mm aa bl me co hx hb hr hml hts hown hlocks hnm hB ls hl
  refine lv_iload_n hx hb dX1_isKind_0 rfl (lv_at hl 0 rfl) ?_
  refine f_0lt (tgt := 13) hx hb (rfl) dX1_isKind_1 (by decide) (fun c_1 => ?_) (fun c_1 => ?_)
  · refine lv_iconst (v := (nI 0)) hx hb dX1_isKind_13 (by decide) ?_
    exact f_r0 hx hb hr hlocks (by rw [← Bool.not_eq_true]; simp only [isKd, Bool.and_eq_true, Bool.or_eq_true, Bool.not_eq_true', decide_eq_true_eq]; omega) dX1_isKind_14
  · refine lv_iload_n hx hb dX1_isKind_4 rfl (lv_at hl 0 rfl) ?_
    refine lv_iconst (v := (nI 3)) hx hb dX1_isKind_5 (by decide) ?_
    refine f_ige (tgt := 13) hx hb (rfl) (nI_toInt (by omega)) dX1_isKind_6 (by decide) (fun c_2 => ?_) (fun c_2 => ?_)
    · refine lv_iconst (v := (nI 0)) hx hb dX1_isKind_13 (by decide) ?_
      exact f_r0 hx hb hr hlocks (by rw [← Bool.not_eq_true]; simp only [isKd, Bool.and_eq_true, Bool.or_eq_true, Bool.not_eq_true', decide_eq_true_eq]; omega) dX1_isKind_14
    · refine lv_iconst (v := (nI 1)) hx hb dX1_isKind_9 (by decide) ?_
      refine lv_goto (tgt := 14) hx hb dX1_isKind_10 (by decide) ?_
      exact f_r1 hx hb hr hlocks (by simp only [isKd, Bool.and_eq_true, Bool.or_eq_true, Bool.not_eq_true', decide_eq_true_eq]; omega) dX1_isKind_14

abbrev rm_X1_isSayable : Room := { frames := 0, cells := 0, slots := 0, locals := 0 }
set_option maxHeartbeats 4000000 in
set_option maxRecDepth 100000 in
theorem c_X1_isSayable (l : Launch) (x : Int32) (y : Int32) (z : Int32) : RoI l yX1_isSayable wsX1_isSayable rm_X1_isSayable [.int x, .int y, .int z] (noB) (bI (isSy x y z)) := by
  refine Ro_start (cc := cX1_isSayable) (maxL := 3) (ret := (some .boolean)) (lv := [(0, .int x), (1, .int y), (2, .int z)]) (by decide) rfl (Nat.le_of_ble_eq_true rfl) rfl ?_
  intro pp ee ss mm aa bl me co hx hb hr hml hts hown hlocks hnm hB ls hl
  refine lv_iload_n hx hb dX1_isSayable_0 rfl (lv_at hl 0 rfl) ?_
  refine f_0lt (tgt := 33) hx hb (rfl) dX1_isSayable_1 (by decide) (fun c_1 => ?_) (fun c_1 => ?_)
  · refine lv_iconst (v := (nI 0)) hx hb dX1_isSayable_33 (by decide) ?_
    exact f_r0 hx hb hr hlocks (by rw [← Bool.not_eq_true]; simp only [isSy, Bool.and_eq_true, Bool.or_eq_true, Bool.not_eq_true', decide_eq_true_eq]; omega) dX1_isSayable_34
  · refine lv_iload_n hx hb dX1_isSayable_4 rfl (lv_at hl 0 rfl) ?_
    refine lv_bipush (v := (nI 8)) hx hb dX1_isSayable_5 (by decide) ?_
    refine f_ige (tgt := 33) hx hb (rfl) (nI_toInt (by omega)) dX1_isSayable_7 (by decide) (fun c_2 => ?_) (fun c_2 => ?_)
    · refine lv_iconst (v := (nI 0)) hx hb dX1_isSayable_33 (by decide) ?_
      exact f_r0 hx hb hr hlocks (by rw [← Bool.not_eq_true]; simp only [isSy, Bool.and_eq_true, Bool.or_eq_true, Bool.not_eq_true', decide_eq_true_eq]; omega) dX1_isSayable_34
    · refine lv_iload_n hx hb dX1_isSayable_10 rfl (lv_at hl 1 rfl) ?_
      refine f_0lt (tgt := 33) hx hb (rfl) dX1_isSayable_11 (by decide) (fun c_3 => ?_) (fun c_3 => ?_)
      · refine lv_iconst (v := (nI 0)) hx hb dX1_isSayable_33 (by decide) ?_
        exact f_r0 hx hb hr hlocks (by rw [← Bool.not_eq_true]; simp only [isSy, Bool.and_eq_true, Bool.or_eq_true, Bool.not_eq_true', decide_eq_true_eq]; omega) dX1_isSayable_34
      · refine lv_iload_n hx hb dX1_isSayable_14 rfl (lv_at hl 1 rfl) ?_
        refine lv_iconst (v := (nI 2)) hx hb dX1_isSayable_15 (by decide) ?_
        refine f_ige (tgt := 33) hx hb (rfl) (nI_toInt (by omega)) dX1_isSayable_16 (by decide) (fun c_4 => ?_) (fun c_4 => ?_)
        · refine lv_iconst (v := (nI 0)) hx hb dX1_isSayable_33 (by decide) ?_
          exact f_r0 hx hb hr hlocks (by rw [← Bool.not_eq_true]; simp only [isSy, Bool.and_eq_true, Bool.or_eq_true, Bool.not_eq_true', decide_eq_true_eq]; omega) dX1_isSayable_34
        · refine lv_iload_n hx hb dX1_isSayable_19 rfl (lv_at hl 2 rfl) ?_
          refine f_0lt (tgt := 33) hx hb (rfl) dX1_isSayable_20 (by decide) (fun c_5 => ?_) (fun c_5 => ?_)
          · refine lv_iconst (v := (nI 0)) hx hb dX1_isSayable_33 (by decide) ?_
            exact f_r0 hx hb hr hlocks (by rw [← Bool.not_eq_true]; simp only [isSy, Bool.and_eq_true, Bool.or_eq_true, Bool.not_eq_true', decide_eq_true_eq]; omega) dX1_isSayable_34
          · refine lv_iload_n hx hb dX1_isSayable_23 rfl (lv_at hl 2 rfl) ?_
            refine lv_bipush (v := (nI 10)) hx hb dX1_isSayable_24 (by decide) ?_
            refine f_ige (tgt := 33) hx hb (rfl) (nI_toInt (by omega)) dX1_isSayable_26 (by decide) (fun c_6 => ?_) (fun c_6 => ?_)
            · refine lv_iconst (v := (nI 0)) hx hb dX1_isSayable_33 (by decide) ?_
              exact f_r0 hx hb hr hlocks (by rw [← Bool.not_eq_true]; simp only [isSy, Bool.and_eq_true, Bool.or_eq_true, Bool.not_eq_true', decide_eq_true_eq]; omega) dX1_isSayable_34
            · refine lv_iconst (v := (nI 1)) hx hb dX1_isSayable_29 (by decide) ?_
              refine lv_goto (tgt := 34) hx hb dX1_isSayable_30 (by decide) ?_
              exact f_r1 hx hb hr hlocks (by simp only [isSy, Bool.and_eq_true, Bool.or_eq_true, Bool.not_eq_true', decide_eq_true_eq]; omega) dX1_isSayable_34

abbrev rm_X1_hasBlock : Room := { frames := 0, cells := 0, slots := 0, locals := 0 }
set_option maxHeartbeats 4000000 in
set_option maxRecDepth 100000 in
theorem c_X1_hasBlock (l : Launch) (x : Nat) (b : Nat) (hx1 : x < 1024) (hb1 : b < 10) : RoI l yX1_hasBlock wsX1_hasBlock rm_X1_hasBlock [.int (nI x), .int (nI b)] (noB) (bI (Nat.testBit x b)) := by
  refine Ro_start (cc := cX1_hasBlock) (maxL := 2) (ret := (some .boolean)) (lv := [(0, .int (nI x)), (1, .int (nI b))]) (by decide) rfl (Nat.le_of_ble_eq_true rfl) rfl ?_
  intro pp ee ss mm aa bl me co hx hb hr hml hts hown hlocks hnm hB ls hl
  have hp : 2 ^ b < 2 ^ 10 := Nat.pow_lt_pow_right (by decide) hb1
  refine lv_iload_n hx hb dX1_hasBlock_0 rfl (lv_at hl 0 rfl) ?_
  refine lv_iconst (v := (nI 1)) hx hb dX1_hasBlock_1 (by decide) ?_
  refine lv_iload_n hx hb dX1_hasBlock_2 rfl (lv_at hl 1 rfl) ?_
  refine lv_ishl hx hb dX1_hasBlock_3 ?_
  refine f_ti (y := (nI (2 ^ b))) (f_shl1 (by omega)) ?_
  refine lv_iand hx hb dX1_hasBlock_4 ?_
  refine f_ti (y := (nI (x &&& 2 ^ b))) (nx_and _ _) ?_
  have hq : x &&& 2 ^ b ≤ x := Nat.and_le_left
  refine f_0eq (tgt := 12) hx hb (nI_toInt (by omega)) dX1_hasBlock_5 (by decide) (fun c_1 => ?_) (fun c_1 => ?_)
  · refine lv_iconst (v := (nI 0)) hx hb dX1_hasBlock_12 (by decide) ?_
    exact f_r0 hx hb hr hlocks (f_tb (by omega)) dX1_hasBlock_13
  · refine lv_iconst (v := (nI 1)) hx hb dX1_hasBlock_8 (by decide) ?_
    refine lv_goto (tgt := 13) hx hb dX1_hasBlock_9 (by decide) ?_
    exact f_r1 hx hb hr hlocks (f_tb1 (by omega)) dX1_hasBlock_13

abbrev rm_X1_isTwice : Room := { frames := 0, cells := 0, slots := 0, locals := 0 }
set_option maxHeartbeats 4000000 in
set_option maxRecDepth 100000 in
theorem c_X1_isTwice (l : Launch) (c : Nat) (d : Nat) (hc : c < 2147483648) (hd : d < 2147483648) : RoI l yX1_isTwice wsX1_isTwice rm_X1_isTwice [.int (nI c), .int (nI d)] (noB) (bI (twF c d)) := by
  refine Ro_start (cc := cX1_isTwice) (maxL := 2) (ret := (some .boolean)) (lv := [(0, .int (nI c)), (1, .int (nI d))]) (by decide) rfl (Nat.le_of_ble_eq_true rfl) rfl ?_
  intro pp ee ss mm aa bl me co hx hb hr hml hts hown hlocks hnm hB ls hl
  refine lv_iload_n hx hb dX1_isTwice_0 rfl (lv_at hl 0 rfl) ?_
  refine lv_iload_n hx hb dX1_isTwice_1 rfl (lv_at hl 1 rfl) ?_
  refine f_ieq (tgt := 18) hx hb (nI_toInt (by omega)) (nI_toInt (by omega)) dX1_isTwice_2 (by decide) (fun c_1 => ?_) (fun c_1 => ?_)
  · refine lv_iconst (v := (nI 0)) hx hb dX1_isTwice_18 (by decide) ?_
    exact f_r0 hx hb hr hlocks (by rw [← Bool.not_eq_true]; simp only [twF, ne_eq, Bool.and_eq_true, Bool.or_eq_true, Bool.not_eq_true', decide_eq_true_eq]; omega) dX1_isTwice_19
  · refine lv_iload_n hx hb dX1_isTwice_5 rfl (lv_at hl 0 rfl) ?_
    refine lv_iconst (v := (nI 4)) hx hb dX1_isTwice_6 (by decide) ?_
    refine lv_ishr hx hb dX1_isTwice_7 ?_
    refine f_ti (y := (nI (c / 16))) (pk_shrN (by omega) _ 4 (by decide)) ?_
    refine lv_iload_n hx hb dX1_isTwice_8 rfl (lv_at hl 1 rfl) ?_
    refine lv_iconst (v := (nI 4)) hx hb dX1_isTwice_9 (by decide) ?_
    refine lv_ishr hx hb dX1_isTwice_10 ?_
    refine f_ti (y := (nI (d / 16))) (pk_shrN (by omega) _ 4 (by decide)) ?_
    refine f_ine (tgt := 18) hx hb (nI_toInt (by omega)) (nI_toInt (by omega)) dX1_isTwice_11 (by decide) (fun c_2 => ?_) (fun c_2 => ?_)
    · refine lv_iconst (v := (nI 0)) hx hb dX1_isTwice_18 (by decide) ?_
      exact f_r0 hx hb hr hlocks (by rw [← Bool.not_eq_true]; simp only [twF, ne_eq, Bool.and_eq_true, Bool.or_eq_true, Bool.not_eq_true', decide_eq_true_eq]; omega) dX1_isTwice_19
    · refine lv_iconst (v := (nI 1)) hx hb dX1_isTwice_14 (by decide) ?_
      refine lv_goto (tgt := 19) hx hb dX1_isTwice_15 (by decide) ?_
      exact f_r1 hx hb hr hlocks (by simp only [twF, ne_eq, Bool.and_eq_true, Bool.or_eq_true, Bool.not_eq_true', decide_eq_true_eq]; omega) dX1_isTwice_19

abbrev rm_X1_isLocking : Room := { frames := 1, cells := 0, slots := 0, locals := 20 }
set_option maxHeartbeats 4000000 in
set_option maxRecDepth 100000 in
theorem c_X1_isLocking (l : Launch) (c : Nat) (hc : c < 2147483648) : RoI l yX1_isLocking wsX1_isLocking rm_X1_isLocking [.int (nI c)] (noB) (bI (lkg c)) := by
  refine Ro_start (cc := cX1_isLocking) (maxL := 1) (ret := (some .boolean)) (lv := [(0, .int (nI c))]) (by decide) rfl (Nat.le_of_ble_eq_true rfl) rfl ?_
  intro pp ee ss mm aa bl me co hx hb hr hml hts hown hlocks hnm hB ls hl
  refine lv_iload_n hx hb dX1_isLocking_0 rfl (lv_at hl 0 rfl) ?_
  refine f_cSi (As := [.int (nI c)]) (rest := []) ⟨hx, hb, hml, hown, hts⟩ (c_X1_stepOf l c (by omega)) (va_cwS 1 hts gX1_isLocking_X1_stepOf rfl rfl rfl (by decide +kernel) ⟨Nat.le_of_ble_eq_true rfl, Nat.le_of_ble_eq_true rfl⟩) noB_bl noB_at rfl hl.1 rfl (Nat.le_of_ble_eq_true rfl) dX1_isLocking_1 ⟨Nat.zero_le _, Nat.zero_le _⟩ ?_
  refine lv_iconst (v := (nI 1)) hx hb dX1_isLocking_4 (by decide) ?_
  refine f_ine (tgt := 19) hx hb (nI_toInt (by omega)) (nI_toInt (by omega)) dX1_isLocking_5 (by decide) (fun c_1 => ?_) (fun c_1 => ?_)
  · refine lv_iconst (v := (nI 0)) hx hb dX1_isLocking_19 (by decide) ?_
    exact f_r0 hx hb hr hlocks (by rw [← Bool.not_eq_true]; simp only [lkg, Bool.and_eq_true, Bool.or_eq_true, Bool.not_eq_true', decide_eq_true_eq]; omega) dX1_isLocking_20
  · refine lv_iload_n hx hb dX1_isLocking_8 rfl (lv_at hl 0 rfl) ?_
    refine f_cSi (As := [.int (nI c)]) (rest := []) ⟨hx, hb, hml, hown, hts⟩ (c_X1_blockOf l c (by omega)) (va_cwS 1 hts gX1_isLocking_X1_blockOf rfl rfl rfl (by decide +kernel) ⟨Nat.le_of_ble_eq_true rfl, Nat.le_of_ble_eq_true rfl⟩) noB_bl noB_at rfl hl.1 rfl (Nat.le_of_ble_eq_true rfl) dX1_isLocking_9 ⟨Nat.zero_le _, Nat.zero_le _⟩ ?_
    refine f_0le (tgt := 19) hx hb (nI_toInt (by omega)) dX1_isLocking_12 (by decide) (fun c_2 => ?_) (fun c_2 => ?_)
    · refine lv_iconst (v := (nI 0)) hx hb dX1_isLocking_19 (by decide) ?_
      exact f_r0 hx hb hr hlocks (by rw [← Bool.not_eq_true]; simp only [lkg, Bool.and_eq_true, Bool.or_eq_true, Bool.not_eq_true', decide_eq_true_eq]; omega) dX1_isLocking_20
    · refine lv_iconst (v := (nI 1)) hx hb dX1_isLocking_15 (by decide) ?_
      refine lv_goto (tgt := 20) hx hb dX1_isLocking_16 (by decide) ?_
      exact f_r1 hx hb hr hlocks (by simp only [lkg, Bool.and_eq_true, Bool.or_eq_true, Bool.not_eq_true', decide_eq_true_eq]; omega) dX1_isLocking_20

abbrev rm_X1_firstPartner : Room := { frames := 0, cells := 0, slots := 0, locals := 0 }
set_option maxHeartbeats 4000000 in
set_option maxRecDepth 100000 in
theorem c_X1_firstPartner (l : Launch) (q : Nat) (a : Nat) (hq : q < 3) : RoI l yX1_firstPartner wsX1_firstPartner rm_X1_firstPartner [.int (nI q), .int (nI a)] (noB) (nI (if q = 0 then a + 1 else 0)) := by
  refine Ro_start (cc := cX1_firstPartner) (maxL := 2) (ret := (some .int)) (lv := [(0, .int (nI q)), (1, .int (nI a))]) (by decide) rfl (Nat.le_of_ble_eq_true rfl) rfl ?_
  intro pp ee ss mm aa bl me co hx hb hr hml hts hown hlocks hnm hB ls hl
  refine lv_iload_n hx hb dX1_firstPartner_0 rfl (lv_at hl 0 rfl) ?_
  refine f_0ne (tgt := 10) hx hb (nI_toInt (by omega)) dX1_firstPartner_1 (by decide) (fun c_1 => ?_) (fun c_1 => ?_)
  · refine lv_iconst (v := (nI 0)) hx hb dX1_firstPartner_10 (by decide) ?_
    exact f_ri hx hb hr hlocks (by split <;> first | rfl | (exfalso; omega)) dX1_firstPartner_11
  · refine lv_iload_n hx hb dX1_firstPartner_4 rfl (lv_at hl 1 rfl) ?_
    refine lv_iconst (v := (nI 1)) hx hb dX1_firstPartner_5 (by decide) ?_
    refine lv_iadd hx hb dX1_firstPartner_6 ?_
    refine f_ti (y := (nI (a + 1))) (nI_add _ _) ?_
    refine lv_goto (tgt := 11) hx hb dX1_firstPartner_7 (by decide) ?_
    exact f_ri hx hb hr hlocks (by split <;> first | rfl | (exfalso; omega)) dX1_firstPartner_11

abbrev rm_X1_isNode : Room := { frames := 0, cells := 0, slots := 0, locals := 0 }
set_option maxHeartbeats 4000000 in
set_option maxRecDepth 100000 in
theorem c_X1_isNode (l : Launch) (dC : Nat → ClassId) (dI : Nat → Nat → Nat) (ad : Nat → Nat) (cy : Nat → ClassId) (S : St) (x : Int32) (I : Inv S) : RoI l yX1_isNode wsX1_isNode rm_X1_isNode [.ref (ad 0), .int x] (xB dC dI ad cy S) (bI (isNd S x)) := by
  refine Ro_start (cc := cX1_isNode) (maxL := 2) (ret := (some .boolean)) (lv := [(0, .ref (ad 0)), (1, .int x)]) (by decide) rfl (Nat.le_of_ble_eq_true rfl) rfl ?_
  intro pp ee ss mm aa bl me co hx hb hr hml hts hown hlocks hnm hB ls hl
  obtain ⟨hP, hK⟩ := hB
  have hin : ∀ w ∈ wsX10, w ∈ wsX1_isNode := fun w h => List.mem_cons_of_mem _ (List.mem_append_right _ h)
  have hf_31 := hts (.fieldLink RX1 31 "FaultEvidence" "nodeCount" "I") (by decide +kernel)
  have I1 := I.n
  refine lv_iload_n hx hb dX1_isNode_0 rfl (lv_at hl 1 rfl) ?_
  refine f_0lt (tgt := 16) hx hb (rfl) dX1_isNode_1 (by decide) (fun c_1 => ?_) (fun c_1 => ?_)
  · refine lv_iconst (v := (nI 0)) hx hb dX1_isNode_16 (by decide) ?_
    exact f_r0 hx hb hr hlocks (by rw [← Bool.not_eq_true]; simp only [isNd, Bool.and_eq_true, Bool.or_eq_true, Bool.not_eq_true', decide_eq_true_eq]; omega) dX1_isNode_17
  · refine lv_iload_n hx hb dX1_isNode_4 rfl (lv_at hl 1 rfl) ?_
    refine lv_aload_n hx hb dX1_isNode_5 rfl (lv_at hl 0 rfl) ?_
    refine va_get (D := (dC, dI)) (ci := 2) (v := .int (nI (sNn S))) (C := RX1) (T := TX1) (N := 14) hx hb hts hin hown hK hP 0 rfl rfl 4 (by decide) hf_31 (fun _ h9 => h9) rfl dX1_isNode_6 ?_
    refine f_ige (tgt := 16) hx hb (rfl) (nI_toInt (by omega)) dX1_isNode_9 (by decide) (fun c_2 => ?_) (fun c_2 => ?_)
    · refine lv_iconst (v := (nI 0)) hx hb dX1_isNode_16 (by decide) ?_
      exact f_r0 hx hb hr hlocks (by rw [← Bool.not_eq_true]; simp only [isNd, Bool.and_eq_true, Bool.or_eq_true, Bool.not_eq_true', decide_eq_true_eq]; omega) dX1_isNode_17
    · refine lv_iconst (v := (nI 1)) hx hb dX1_isNode_12 (by decide) ?_
      refine lv_goto (tgt := 17) hx hb dX1_isNode_13 (by decide) ?_
      exact f_r1 hx hb hr hlocks (by simp only [isNd, Bool.and_eq_true, Bool.or_eq_true, Bool.not_eq_true', decide_eq_true_eq]; omega) dX1_isNode_17

abbrev rm_X1_isVote : Room := { frames := 0, cells := 0, slots := 0, locals := 0 }
set_option maxHeartbeats 4000000 in
set_option maxRecDepth 100000 in
theorem c_X1_isVote (l : Launch) (dC : Nat → ClassId) (dI : Nat → Nat → Nat) (ad : Nat → Nat) (cy : Nat → ClassId) (S : St) (x : Int32) (I : Inv S) : RoI l yX1_isVote wsX1_isVote rm_X1_isVote [.ref (ad 0), .int x] (xB dC dI ad cy S) (bI (isVt S x)) := by
  refine Ro_start (cc := cX1_isVote) (maxL := 2) (ret := (some .boolean)) (lv := [(0, .ref (ad 0)), (1, .int x)]) (by decide) rfl (Nat.le_of_ble_eq_true rfl) rfl ?_
  intro pp ee ss mm aa bl me co hx hb hr hml hts hown hlocks hnm hB ls hl
  obtain ⟨hP, hK⟩ := hB
  have hin : ∀ w ∈ wsX10, w ∈ wsX1_isVote := fun w h => List.mem_cons_of_mem _ (List.mem_append_right _ h)
  have hf_48 := hts (.fieldLink RX1 48 "FaultEvidence" "voteCount" "I") (by decide +kernel)
  have I1 := I.n
  refine lv_iload_n hx hb dX1_isVote_0 rfl (lv_at hl 1 rfl) ?_
  refine f_0lt (tgt := 16) hx hb (rfl) dX1_isVote_1 (by decide) (fun c_1 => ?_) (fun c_1 => ?_)
  · refine lv_iconst (v := (nI 0)) hx hb dX1_isVote_16 (by decide) ?_
    exact f_r0 hx hb hr hlocks (by rw [← Bool.not_eq_true]; simp only [isVt, Bool.and_eq_true, Bool.or_eq_true, Bool.not_eq_true', decide_eq_true_eq]; omega) dX1_isVote_17
  · refine lv_iload_n hx hb dX1_isVote_4 rfl (lv_at hl 1 rfl) ?_
    refine lv_aload_n hx hb dX1_isVote_5 rfl (lv_at hl 0 rfl) ?_
    refine va_get (D := (dC, dI)) (ci := 2) (v := .int (nI (sVn S))) (C := RX1) (T := TX1) (N := 14) hx hb hts hin hown hK hP 0 rfl rfl 9 (by decide) hf_48 (fun _ h9 => h9) rfl dX1_isVote_6 ?_
    refine f_ige (tgt := 16) hx hb (rfl) (nI_toInt (by omega)) dX1_isVote_9 (by decide) (fun c_2 => ?_) (fun c_2 => ?_)
    · refine lv_iconst (v := (nI 0)) hx hb dX1_isVote_16 (by decide) ?_
      exact f_r0 hx hb hr hlocks (by rw [← Bool.not_eq_true]; simp only [isVt, Bool.and_eq_true, Bool.or_eq_true, Bool.not_eq_true', decide_eq_true_eq]; omega) dX1_isVote_17
    · refine lv_iconst (v := (nI 1)) hx hb dX1_isVote_12 (by decide) ?_
      refine lv_goto (tgt := 17) hx hb dX1_isVote_13 (by decide) ?_
      exact f_r1 hx hb hr hlocks (by simp only [isVt, Bool.and_eq_true, Bool.or_eq_true, Bool.not_eq_true', decide_eq_true_eq]; omega) dX1_isVote_17

abbrev rm_X1_isNodeOrNone : Room := { frames := 1, cells := 0, slots := 0, locals := 21 }
set_option maxHeartbeats 4000000 in
set_option maxRecDepth 100000 in
theorem c_X1_isNodeOrNone (l : Launch) (dC : Nat → ClassId) (dI : Nat → Nat → Nat) (ad : Nat → Nat) (cy : Nat → ClassId) (S : St) (x : Int32) (I : Inv S) : RoI l yX1_isNodeOrNone wsX1_isNodeOrNone rm_X1_isNodeOrNone [.ref (ad 0), .int x] (xB dC dI ad cy S) (bI (isNN S x)) := by
  refine Ro_start (cc := cX1_isNodeOrNone) (maxL := 2) (ret := (some .boolean)) (lv := [(0, .ref (ad 0)), (1, .int x)]) (by decide) rfl (Nat.le_of_ble_eq_true rfl) rfl ?_
  intro pp ee ss mm aa bl me co hx hb hr hml hts hown hlocks hnm hB ls hl
  obtain ⟨hP, hK⟩ := hB
  have I1 := I.n
  refine lv_iload_n hx hb dX1_isNodeOrNone_0 rfl (lv_at hl 1 rfl) ?_
  refine lv_iconst (v := (-1)) hx hb dX1_isNodeOrNone_1 (by decide) ?_
  refine f_ieq (tgt := 13) hx hb (rfl) ((by decide : ((-1) : Int32).toInt = -1)) dX1_isNodeOrNone_2 (by decide) (fun c_1 => ?_) (fun c_1 => ?_)
  · refine lv_iconst (v := (nI 1)) hx hb dX1_isNodeOrNone_13 (by decide) ?_
    refine lv_goto (tgt := 18) hx hb dX1_isNodeOrNone_14 (by decide) ?_
    exact f_r1 hx hb hr hlocks (by simp [isNN] <;> omega) dX1_isNodeOrNone_18
  · refine lv_aload_n hx hb dX1_isNodeOrNone_5 rfl (lv_at hl 0 rfl) ?_
    refine lv_iload_n hx hb dX1_isNodeOrNone_6 rfl (lv_at hl 1 rfl) ?_
    refine f_cVi (As := [.int x]) (rest := []) ⟨hx, hb, hml, hown, hts⟩ (c_X1_isNode l dC dI ad cy S x I) (cwV 1 hts gX1_isNodeOrNone_X1_isNode rfl rfl rfl (by decide +kernel) ⟨Nat.le_of_ble_eq_true rfl, Nat.le_of_ble_eq_true rfl⟩) roB_bl (va_recv hK hP (ci := 2) (q0 := 0) rfl rfl) (roB_at hP hK) rfl hl.1 rfl (Nat.le_of_ble_eq_true rfl) dX1_isNodeOrNone_7 ⟨Nat.zero_le _, Nat.zero_le _⟩ ?_
    refine f_beq (tgt := 17) hx hb dX1_isNodeOrNone_10 (by decide) (fun c_2 => ?_) (fun c_2 => ?_)
    · refine lv_iconst (v := (nI 0)) hx hb dX1_isNodeOrNone_17 (by decide) ?_
      exact f_r0 hx hb hr hlocks (by simp [isNN, c_2] <;> omega) dX1_isNodeOrNone_18
    · refine lv_iconst (v := (nI 1)) hx hb dX1_isNodeOrNone_13 (by decide) ?_
      refine lv_goto (tgt := 18) hx hb dX1_isNodeOrNone_14 (by decide) ?_
      exact f_r1 hx hb hr hlocks (by simp [isNN, c_2] <;> omega) dX1_isNodeOrNone_18

abbrev rm_X1_hasBegun : Room := { frames := 0, cells := 0, slots := 0, locals := 0 }
set_option maxHeartbeats 4000000 in
set_option maxRecDepth 100000 in
theorem c_X1_hasBegun (l : Launch) (dC : Nat → ClassId) (dI : Nat → Nat → Nat) (ad : Nat → Nat) (cy : Nat → ClassId) (S : St) (x : Int32) (I : Inv S) : RoI l yX1_hasBegun wsX1_hasBegun rm_X1_hasBegun [.ref (ad 0), .int x] (xB dC dI ad cy S) (bI (isBg S x)) := by
  refine Ro_start (cc := cX1_hasBegun) (maxL := 2) (ret := (some .boolean)) (lv := [(0, .ref (ad 0)), (1, .int x)]) (by decide) rfl (Nat.le_of_ble_eq_true rfl) rfl ?_
  intro pp ee ss mm aa bl me co hx hb hr hml hts hown hlocks hnm hB ls hl
  obtain ⟨hP, hK⟩ := hB
  have hin : ∀ w ∈ wsX10, w ∈ wsX1_hasBegun := fun w h => List.mem_cons_of_mem _ (List.mem_append_right _ h)
  have hf_35 := hts (.fieldLink RX1 35 "FaultEvidence" "currentHeight" "I") (by decide +kernel)
  have I1 := I.n
  refine lv_iload_n hx hb dX1_hasBegun_0 rfl (lv_at hl 1 rfl) ?_
  refine lv_iconst (v := (nI 1)) hx hb dX1_hasBegun_1 (by decide) ?_
  refine f_ilt (tgt := 17) hx hb (rfl) (nI_toInt (by omega)) dX1_hasBegun_2 (by decide) (fun c_1 => ?_) (fun c_1 => ?_)
  · refine lv_iconst (v := (nI 0)) hx hb dX1_hasBegun_17 (by decide) ?_
    exact f_r0 hx hb hr hlocks (by rw [← Bool.not_eq_true]; simp only [isBg, Bool.and_eq_true, Bool.or_eq_true, Bool.not_eq_true', decide_eq_true_eq]; omega) dX1_hasBegun_18
  · refine lv_iload_n hx hb dX1_hasBegun_5 rfl (lv_at hl 1 rfl) ?_
    refine lv_aload_n hx hb dX1_hasBegun_6 rfl (lv_at hl 0 rfl) ?_
    refine va_get (D := (dC, dI)) (ci := 2) (v := .int (nI (sHh S))) (C := RX1) (T := TX1) (N := 14) hx hb hts hin hown hK hP 0 rfl rfl 5 (by decide) hf_35 (fun _ h9 => h9) rfl dX1_hasBegun_7 ?_
    refine f_igt (tgt := 17) hx hb (rfl) (nI_toInt (by omega)) dX1_hasBegun_10 (by decide) (fun c_2 => ?_) (fun c_2 => ?_)
    · refine lv_iconst (v := (nI 0)) hx hb dX1_hasBegun_17 (by decide) ?_
      exact f_r0 hx hb hr hlocks (by rw [← Bool.not_eq_true]; simp only [isBg, Bool.and_eq_true, Bool.or_eq_true, Bool.not_eq_true', decide_eq_true_eq]; omega) dX1_hasBegun_18
    · refine lv_iconst (v := (nI 1)) hx hb dX1_hasBegun_13 (by decide) ?_
      refine lv_goto (tgt := 18) hx hb dX1_hasBegun_14 (by decide) ?_
      exact f_r1 hx hb hr hlocks (by simp only [isBg, Bool.and_eq_true, Bool.or_eq_true, Bool.not_eq_true', decide_eq_true_eq]; omega) dX1_hasBegun_18

abbrev rm_X1_isOpen : Room := { frames := 1, cells := 0, slots := 0, locals := 21 }
set_option maxHeartbeats 4000000 in
set_option maxRecDepth 100000 in
theorem c_X1_isOpen (l : Launch) (dC : Nat → ClassId) (dI : Nat → Nat → Nat) (ad : Nat → Nat) (cy : Nat → ClassId) (S : St) (x : Int32) (I : Inv S) : RoI l yX1_isOpen wsX1_isOpen rm_X1_isOpen [.ref (ad 0), .int x] (xB dC dI ad cy S) (bI (isOp S x)) := by
  refine Ro_start (cc := cX1_isOpen) (maxL := 2) (ret := (some .boolean)) (lv := [(0, .ref (ad 0)), (1, .int x)]) (by decide) rfl (Nat.le_of_ble_eq_true rfl) rfl ?_
  intro pp ee ss mm aa bl me co hx hb hr hml hts hown hlocks hnm hB ls hl
  obtain ⟨hP, hK⟩ := hB
  have hin : ∀ w ∈ wsX10, w ∈ wsX1_isOpen := fun w h => List.mem_cons_of_mem _ (List.mem_append_right _ h)
  have hf_35 := hts (.fieldLink RX1 35 "FaultEvidence" "currentHeight" "I") (by decide +kernel)
  have I1 := I.n
  refine lv_aload_n hx hb dX1_isOpen_0 rfl (lv_at hl 0 rfl) ?_
  refine lv_iload_n hx hb dX1_isOpen_1 rfl (lv_at hl 1 rfl) ?_
  refine f_cVi (As := [.int x]) (rest := []) ⟨hx, hb, hml, hown, hts⟩ (c_X1_hasBegun l dC dI ad cy S x I) (cwV 1 hts gX1_isOpen_X1_hasBegun rfl rfl rfl (by decide +kernel) ⟨Nat.le_of_ble_eq_true rfl, Nat.le_of_ble_eq_true rfl⟩) roB_bl (va_recv hK hP (ci := 2) (q0 := 0) rfl rfl) (roB_at hP hK) rfl hl.1 rfl (Nat.le_of_ble_eq_true rfl) dX1_isOpen_2 ⟨Nat.zero_le _, Nat.zero_le _⟩ ?_
  refine f_beq (tgt := 22) hx hb dX1_isOpen_5 (by decide) (fun c_1 => ?_) (fun c_1 => ?_)
  · refine lv_iconst (v := (nI 0)) hx hb dX1_isOpen_22 (by decide) ?_
    exact f_r0 hx hb hr hlocks (by first | (simp [isOp, c_1]; done) | (rw [← Bool.not_eq_true]; simp [isOp, ht, c_1] <;> omega)) dX1_isOpen_23
  · obtain ⟨h, hh, rfl⟩ : ∃ h : Nat, h ≤ sHh S ∧ x = nI h := by
      simp only [isBg, Bool.and_eq_true, decide_eq_true_eq] at c_1
      obtain ⟨h, h1, h2⟩ := in_nI (n := sHh S + 1) (x := x) (by omega) (by omega)
      exact ⟨h, by omega, h2⟩
    have ht := nI_toInt (n := h) (by omega)
    refine lv_aload_n hx hb dX1_isOpen_8 rfl (lv_at hl 0 rfl) ?_
    refine va_get (D := (dC, dI)) (ci := 2) (v := .int (nI (sHh S))) (C := RX1) (T := TX1) (N := 14) hx hb hts hin hown hK hP 0 rfl rfl 5 (by decide) hf_35 (fun _ h9 => h9) rfl dX1_isOpen_9 ?_
    refine lv_iload_n hx hb dX1_isOpen_12 rfl (lv_at hl 1 rfl) ?_
    refine lv_isub hx hb dX1_isOpen_13 ?_
    refine lv_iconst (v := (nI 1)) hx hb dX1_isOpen_14 (by decide) ?_
    refine f_igt (tgt := 22) hx hb (pk_sub_toInt (by omega) (by omega)) (nI_toInt (by omega)) dX1_isOpen_15 (by decide) (fun c_2 => ?_) (fun c_2 => ?_)
    · refine lv_iconst (v := (nI 0)) hx hb dX1_isOpen_22 (by decide) ?_
      exact f_r0 hx hb hr hlocks (by first | (simp [isOp, c_1]; done) | (rw [← Bool.not_eq_true]; simp [isOp, ht, c_1] <;> omega)) dX1_isOpen_23
    · refine lv_iconst (v := (nI 1)) hx hb dX1_isOpen_18 (by decide) ?_
      refine lv_goto (tgt := 23) hx hb dX1_isOpen_19 (by decide) ?_
      exact f_r1 hx hb hr hlocks (by simp [isOp, ht, c_1] <;> omega) dX1_isOpen_23

abbrev rm_X1_isTheMost : Room := { frames := 0, cells := 0, slots := 0, locals := 0 }
set_option maxHeartbeats 4000000 in
set_option maxRecDepth 100000 in
theorem c_X1_isTheMost (l : Launch) (dC : Nat → ClassId) (dI : Nat → Nat → Nat) (ad : Nat → Nat) (cy : Nat → ClassId) (S : St) (h : Nat) (w : Nat) (I : Inv S) (hh : h ≤ 40) (hw : w ≤ 300000000000) : RoI l yX1_isTheMost wsX1_isTheMost rm_X1_isTheMost [.ref (ad 0), .int (nI h), .long (lN w)] (xB dC dI ad cy S) (bI (mostF S h w)) := by
  refine Ro_start (cc := cX1_isTheMost) (maxL := 4) (ret := (some .boolean)) (lv := [(0, .ref (ad 0)), (1, .int (nI h)), (2, .long (lN w))]) (by decide) rfl (Nat.le_of_ble_eq_true rfl) rfl ?_
  intro pp ee ss mm aa bl me co hx hb hr hml hts hown hlocks hnm hB ls hl
  obtain ⟨hP, hK⟩ := hB
  have hin : ∀ w ∈ wsX10, w ∈ wsX1_isTheMost := fun w h => List.mem_cons_of_mem _ (List.mem_append_right _ h)
  have hf_41 := hts (.fieldLink RX1 41 "FaultEvidence" "totals" "[J") (by decide +kernel)
  have hc_205 := hts (.constantLong RX1 205 (3)) (by decide +kernel)
  have hc_207 := hts (.constantLong RX1 207 (2)) (by decide +kernel)
  have I1 := I.n
  have I2 := I.t h
  refine lv_ldc2 (v := 3) hx hb hown hc_205 dX1_isTheMost_0 ?_
  refine f_tl (y := (lN 3)) (by decide) ?_
  refine lv_lload_n hx hb dX1_isTheMost_3 rfl (lv_at hl 2 rfl) ?_
  refine lv_lmul hx hb dX1_isTheMost_4 ?_
  refine f_tl (y := (lN (3 * w))) (lN_mul _ _) ?_
  refine lv_ldc2 (v := 2) hx hb hown hc_207 dX1_isTheMost_5 ?_
  refine f_tl (y := (lN 2)) (by decide) ?_
  refine lv_aload_n hx hb dX1_isTheMost_8 rfl (lv_at hl 0 rfl) ?_
  refine va_get (D := (dC, dI)) (ci := 2) (v := .ref (ad 6)) (C := RX1) (T := TX1) (N := 14) hx hb hts hin hown hK hP 0 rfl rfl 7 (by decide) hf_41 (fun _ h9 => h9) rfl dX1_isTheMost_9 ?_
  refine lv_iload_n hx hb dX1_isTheMost_12 rfl (lv_at hl 1 rfl) ?_
  refine f_lald hx hb hK hP 6 5 rfl rfl (k := h) (by omega) (by decide) (v := (lN (sTot S h))) rfl dX1_isTheMost_13 ?_
  refine lv_lmul hx hb dX1_isTheMost_14 ?_
  refine f_tl (y := (lN (2 * (sTot S h)))) (lN_mul _ _) ?_
  refine f_lle (tgt := 23) hx hb (pk_lT (by omega)) (pk_lT (by omega)) dX1_isTheMost_15 dX1_isTheMost_16 (by decide) (fun c_1 => ?_) (fun c_1 => ?_)
  · refine lv_iconst (v := (nI 0)) hx hb dX1_isTheMost_23 (by decide) ?_
    exact f_r0 hx hb hr hlocks (by rw [← Bool.not_eq_true]; simp only [mostF, Bool.and_eq_true, Bool.or_eq_true, Bool.not_eq_true', decide_eq_true_eq]; omega) dX1_isTheMost_24
  · refine lv_iconst (v := (nI 1)) hx hb dX1_isTheMost_19 (by decide) ?_
    refine lv_goto (tgt := 24) hx hb dX1_isTheMost_20 (by decide) ?_
    exact f_r1 hx hb hr hlocks (by simp only [mostF, Bool.and_eq_true, Bool.or_eq_true, Bool.not_eq_true', decide_eq_true_eq]; omega) dX1_isTheMost_24

abbrev rm_X1_isBacked : Room := { frames := 1, cells := 0, slots := 0, locals := 21 }
set_option maxHeartbeats 4000000 in
set_option maxRecDepth 100000 in
theorem c_X1_isBacked (l : Launch) (dC : Nat → ClassId) (dI : Nat → Nat → Nat) (ad : Nat → Nat) (cy : Nat → ClassId) (S : St) (h : Nat) (r : Nat) (b : Nat) (I : Inv S) (hh : h ≤ 40) (hr1 : r < 8) (hb1 : b < 10) : RoI l yX1_isBacked wsX1_isBacked rm_X1_isBacked [.ref (ad 0), .int (nI h), .int (nI r), .int (nI b)] (xB dC dI ad cy S) (bI (bkF S h r b)) := by
  refine Ro_start (cc := cX1_isBacked) (maxL := 4) (ret := (some .boolean)) (lv := [(0, .ref (ad 0)), (1, .int (nI h)), (2, .int (nI r)), (3, .int (nI b))]) (by decide) rfl (Nat.le_of_ble_eq_true rfl) rfl ?_
  intro pp ee ss mm aa bl me co hx hb hr hml hts hown hlocks hnm hB ls hl
  obtain ⟨hP, hK⟩ := hB
  have hin : ∀ w ∈ wsX10, w ∈ wsX1_isBacked := fun w h => List.mem_cons_of_mem _ (List.mem_append_right _ h)
  have hf_51 := hts (.fieldLink RX1 51 "FaultEvidence" "backedBlocks" "[I") (by decide +kernel)
  have I1 := I.n
  have I2 := bb_lt S (h * 8 + r)
  refine lv_aload_n hx hb dX1_isBacked_0 rfl (lv_at hl 0 rfl) ?_
  refine va_get (D := (dC, dI)) (ci := 2) (v := .ref (ad 8)) (C := RX1) (T := TX1) (N := 14) hx hb hts hin hown hK hP 0 rfl rfl 10 (by decide) hf_51 (fun _ h9 => h9) rfl dX1_isBacked_1 ?_
  refine lv_iload_n hx hb dX1_isBacked_4 rfl (lv_at hl 1 rfl) ?_
  refine lv_bipush (v := (nI 8)) hx hb dX1_isBacked_5 (by decide) ?_
  refine lv_imul hx hb dX1_isBacked_7 ?_
  refine f_ti (y := (nI (h * 8))) (pk_mul _ _) ?_
  refine lv_iload_n hx hb dX1_isBacked_8 rfl (lv_at hl 2 rfl) ?_
  refine lv_iadd hx hb dX1_isBacked_9 ?_
  refine f_ti (y := (nI ((h * 8) + r))) (nI_add _ _) ?_
  refine f_iald hx hb hK hP 8 7 rfl rfl (k := ((h * 8) + r)) (by omega) (by decide) (v := (nI (bbF S ((h * 8) + r)))) rfl dX1_isBacked_10 ?_
  refine lv_iload_n hx hb dX1_isBacked_11 rfl (lv_at hl 3 rfl) ?_
  refine f_cSi (As := [.int (nI (bbF S ((h * 8) + r))), .int (nI b)]) (rest := []) ⟨hx, hb, hml, hown, hts⟩ (c_X1_hasBlock l (bbF S ((h * 8) + r)) b (by omega) (by omega)) (va_cwS 2 hts gX1_isBacked_X1_hasBlock rfl rfl rfl (by decide +kernel) ⟨Nat.le_of_ble_eq_true rfl, Nat.le_of_ble_eq_true rfl⟩) noB_bl noB_at rfl hl.1 rfl (Nat.le_of_ble_eq_true rfl) dX1_isBacked_12 ⟨Nat.zero_le _, Nat.zero_le _⟩ ?_
  exact f_rb hx hb hr hlocks (bb_at S hr1 hb1) dX1_isBacked_15
