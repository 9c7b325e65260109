abbrev rm_X2_in : Room := { frames := 0, cells := 0, slots := 0, locals := 0 }
set_option maxHeartbeats 4000000 in
set_option maxRecDepth 100000 in
theorem c_X2_in (l : Launch) (x : Int64) (y : Int64) (z : Int64) : RoI l yX2_in wsX2_in rm_X2_in [.long x, .long y, .long z] (noB) (bI (inF x y z)) := by
  refine Ro_start (cc := cX2_in) (maxL := 6) (ret := (some .boolean)) (lv := [(0, .long x), (2, .long y), (4, .long z)]) (by decide) rfl (Nat.le_of_ble_eq_true rfl) rfl ?_
  intro pp ee ss mm aa bl me co hx hb hr hml hts hown hlocks hnm hB ls hl
  refine lv_lload_n hx hb dX2_in_0 rfl (lv_at hl 0 rfl) ?_
  refine lv_lload_n hx hb dX2_in_1 rfl (lv_at hl 1 rfl) ?_
  refine f_llt (tgt := 17) hx hb (rfl) (rfl) dX2_in_2 dX2_in_3 (by decide) (fun c_1 => ?_) (fun c_1 => ?_)
  · refine lv_iconst (v := (nI 0)) hx hb dX2_in_17 (by decide) ?_
    exact f_r0 hx hb hr hlocks (by rw [← Bool.not_eq_true]; simp only [inF, Bool.and_eq_true, Bool.or_eq_true, Bool.not_eq_true', decide_eq_true_eq]; omega) dX2_in_18
  · refine lv_lload_n hx hb dX2_in_6 rfl (lv_at hl 0 rfl) ?_
    refine lv_lload hx hb dX2_in_7 (lv_at hl 2 rfl) ?_
    refine f_lgt (tgt := 17) hx hb (rfl) (rfl) dX2_in_9 dX2_in_10 (by decide) (fun c_2 => ?_) (fun c_2 => ?_)
    · refine lv_iconst (v := (nI 0)) hx hb dX2_in_17 (by decide) ?_
      exact f_r0 hx hb hr hlocks (by rw [← Bool.not_eq_true]; simp only [inF, Bool.and_eq_true, Bool.or_eq_true, Bool.not_eq_true', decide_eq_true_eq]; omega) dX2_in_18
    · refine lv_iconst (v := (nI 1)) hx hb dX2_in_13 (by decide) ?_
      refine lv_goto (tgt := 18) hx hb dX2_in_14 (by decide) ?_
      exact f_r1 hx hb hr hlocks (by simp only [inF, Bool.and_eq_true, Bool.or_eq_true, Bool.not_eq_true', decide_eq_true_eq]; omega) dX2_in_18

abbrev rm_X2_place : Room := { frames := 0, cells := 0, slots := 0, locals := 0 }
set_option maxHeartbeats 4000000 in
set_option maxRecDepth 100000 in
theorem c_X2_place (l : Launch) (h : Nat) (r : Nat) (t : Nat) (b : Nat) : RoI l yX2_place wsX2_place rm_X2_place [.int (nI h), .int (nI r), .int (nI t), .int (nI b)] (noB) (nI (((8 * h + r) * 2 + t) * 10 + b)) := by
  refine Ro_start (cc := cX2_place) (maxL := 4) (ret := (some .int)) (lv := [(0, .int (nI h)), (1, .int (nI r)), (2, .int (nI t)), (3, .int (nI b))]) (by decide) rfl (Nat.le_of_ble_eq_true rfl) rfl ?_
  intro pp ee ss mm aa bl me co hx hb hr hml hts hown hlocks hnm hB ls hl
  refine lv_bipush (v := (nI 8)) hx hb dX2_place_0 (by decide) ?_
  refine lv_iload_n hx hb dX2_place_2 rfl (lv_at hl 0 rfl) ?_
  refine lv_imul hx hb dX2_place_3 ?_
  refine f_ti (y := (nI (8 * h))) (pk_mul _ _) ?_
  refine lv_iload_n hx hb dX2_place_4 rfl (lv_at hl 1 rfl) ?_
  refine lv_iadd hx hb dX2_place_5 ?_
  refine f_ti (y := (nI ((8 * h) + r))) (nI_add _ _) ?_
  refine lv_iconst (v := (nI 2)) hx hb dX2_place_6 (by decide) ?_
  refine lv_imul hx hb dX2_place_7 ?_
  refine f_ti (y := (nI (((8 * h) + r) * 2))) (pk_mul _ _) ?_
  refine lv_iload_n hx hb dX2_place_8 rfl (lv_at hl 2 rfl) ?_
  refine lv_iadd hx hb dX2_place_9 ?_
  refine f_ti (y := (nI ((((8 * h) + r) * 2) + t))) (nI_add _ _) ?_
  refine lv_bipush (v := (nI 10)) hx hb dX2_place_10 (by decide) ?_
  refine lv_imul hx hb dX2_place_12 ?_
  refine f_ti (y := (nI (((((8 * h) + r) * 2) + t) * 10))) (pk_mul _ _) ?_
  refine lv_iload_n hx hb dX2_place_13 rfl (lv_at hl 3 rfl) ?_
  refine lv_iadd hx hb dX2_place_14 ?_
  refine f_ti (y := (nI ((((((8 * h) + r) * 2) + t) * 10) + b))) (nI_add _ _) ?_
  exact f_ri hx hb hr hlocks (rfl) dX2_place_15

abbrev rm_X2_isNode : Room := { frames := 0, cells := 0, slots := 0, locals := 0 }
set_option maxHeartbeats 4000000 in
set_option maxRecDepth 100000 in
theorem c_X2_isNode (l : Launch) (dC : Nat → ClassId) (dI : Nat → Nat → Nat) (ad : Nat → Nat) (cy : Nat → ClassId) (S : St) (x : Int32) (I : Inv S) : RoI l yX2_isNode wsX2_isNode rm_X2_isNode [.ref (ad 0), .int x] (mB dC dI ad cy S) (bI (isNd S x)) := by
  refine Ro_start (cc := cX2_isNode) (maxL := 2) (ret := (some .boolean)) (lv := [(0, .ref (ad 0)), (1, .int x)]) (by decide) rfl (Nat.le_of_ble_eq_true rfl) rfl ?_
  intro pp ee ss mm aa bl me co hx hb hr hml hts hown hlocks hnm hB ls hl
  obtain ⟨hP, hK⟩ := hB
  have hin : ∀ w ∈ wsX20, w ∈ wsX2_isNode := fun w h => List.mem_cons_of_mem _ (List.mem_append_right _ h)
  have hf_76 := hts (.fieldLink RX2 76 "FaultEvidenceModel" "nodes" "I") (by decide +kernel)
  have I1 := I.n
  refine lv_iload_n hx hb dX2_isNode_0 rfl (lv_at hl 1 rfl) ?_
  refine f_0lt (tgt := 16) hx hb (rfl) dX2_isNode_1 (by decide) (fun c_1 => ?_) (fun c_1 => ?_)
  · refine lv_iconst (v := (nI 0)) hx hb dX2_isNode_16 (by decide) ?_
    exact f_r0 hx hb hr hlocks (by rw [← Bool.not_eq_true]; simp only [isNd, Bool.and_eq_true, Bool.or_eq_true, Bool.not_eq_true', decide_eq_true_eq]; omega) dX2_isNode_17
  · refine lv_iload_n hx hb dX2_isNode_4 rfl (lv_at hl 1 rfl) ?_
    refine lv_aload_n hx hb dX2_isNode_5 rfl (lv_at hl 0 rfl) ?_
    refine va_get (D := (dC, dI)) (ci := 3) (v := .int (nI (sNn S))) (C := RX2) (T := TX2) (N := 27) hx hb hts hin hown hK hP 0 rfl rfl 0 (by decide) hf_76 (fun _ h9 => h9) rfl dX2_isNode_6 ?_
    refine f_ige (tgt := 16) hx hb (rfl) (nI_toInt (by omega)) dX2_isNode_9 (by decide) (fun c_2 => ?_) (fun c_2 => ?_)
    · refine lv_iconst (v := (nI 0)) hx hb dX2_isNode_16 (by decide) ?_
      exact f_r0 hx hb hr hlocks (by rw [← Bool.not_eq_true]; simp only [isNd, Bool.and_eq_true, Bool.or_eq_true, Bool.not_eq_true', decide_eq_true_eq]; omega) dX2_isNode_17
    · refine lv_iconst (v := (nI 1)) hx hb dX2_isNode_12 (by decide) ?_
      refine lv_goto (tgt := 17) hx hb dX2_isNode_13 (by decide) ?_
      exact f_r1 hx hb hr hlocks (by simp only [isNd, Bool.and_eq_true, Bool.or_eq_true, Bool.not_eq_true', decide_eq_true_eq]; omega) dX2_isNode_17

abbrev rm_X2_isVote : Room := { frames := 0, cells := 0, slots := 0, locals := 0 }
set_option maxHeartbeats 4000000 in
set_option maxRecDepth 100000 in
theorem c_X2_isVote (l : Launch) (dC : Nat → ClassId) (dI : Nat → Nat → Nat) (ad : Nat → Nat) (cy : Nat → ClassId) (S : St) (x : Int32) (I : Inv S) : RoI l yX2_isVote wsX2_isVote rm_X2_isVote [.ref (ad 0), .int x] (mB dC dI ad cy S) (bI (isVt S x)) := by
  refine Ro_start (cc := cX2_isVote) (maxL := 2) (ret := (some .boolean)) (lv := [(0, .ref (ad 0)), (1, .int x)]) (by decide) rfl (Nat.le_of_ble_eq_true rfl) rfl ?_
  intro pp ee ss mm aa bl me co hx hb hr hml hts hown hlocks hnm hB ls hl
  obtain ⟨hP, hK⟩ := hB
  have hin : ∀ w ∈ wsX20, w ∈ wsX2_isVote := fun w h => List.mem_cons_of_mem _ (List.mem_append_right _ h)
  have hf_79 := hts (.fieldLink RX2 79 "FaultEvidenceModel" "votes" "I") (by decide +kernel)
  have I1 := I.n
  refine lv_iload_n hx hb dX2_isVote_0 rfl (lv_at hl 1 rfl) ?_
  refine f_0lt (tgt := 16) hx hb (rfl) dX2_isVote_1 (by decide) (fun c_1 => ?_) (fun c_1 => ?_)
  · refine lv_iconst (v := (nI 0)) hx hb dX2_isVote_16 (by decide) ?_
    exact f_r0 hx hb hr hlocks (by rw [← Bool.not_eq_true]; simp only [isVt, Bool.and_eq_true, Bool.or_eq_true, Bool.not_eq_true', decide_eq_true_eq]; omega) dX2_isVote_17
  · refine lv_iload_n hx hb dX2_isVote_4 rfl (lv_at hl 1 rfl) ?_
    refine lv_aload_n hx hb dX2_isVote_5 rfl (lv_at hl 0 rfl) ?_
    refine va_get (D := (dC, dI)) (ci := 3) (v := .int (nI (sVn S))) (C := RX2) (T := TX2) (N := 27) hx hb hts hin hown hK hP 0 rfl rfl 7 (by decide) hf_79 (fun _ h9 => h9) rfl dX2_isVote_6 ?_
    refine f_ige (tgt := 16) hx hb (rfl) (nI_toInt (by omega)) dX2_isVote_9 (by decide) (fun c_2 => ?_) (fun c_2 => ?_)
    · refine lv_iconst (v := (nI 0)) hx hb dX2_isVote_16 (by decide) ?_
      exact f_r0 hx hb hr hlocks (by rw [← Bool.not_eq_true]; simp only [isVt, Bool.and_eq_true, Bool.or_eq_true, Bool.not_eq_true', decide_eq_true_eq]; omega) dX2_isVote_17
    · refine lv_iconst (v := (nI 1)) hx hb dX2_isVote_12 (by decide) ?_
      refine lv_goto (tgt := 17) hx hb dX2_isVote_13 (by decide) ?_
      exact f_r1 hx hb hr hlocks (by simp only [isVt, Bool.and_eq_true, Bool.or_eq_true, Bool.not_eq_true', decide_eq_true_eq]; omega) dX2_isVote_17

abbrev rm_X2_isHeight : Room := { frames := 0, cells := 0, slots := 0, locals := 0 }
set_option maxHeartbeats 4000000 in
set_option maxRecDepth 100000 in
theorem c_X2_isHeight (l : Launch) (dC : Nat → ClassId) (dI : Nat → Nat → Nat) (ad : Nat → Nat) (cy : Nat → ClassId) (S : St) (x : Int32) (I : Inv S) : RoI l yX2_isHeight wsX2_isHeight rm_X2_isHeight [.ref (ad 0), .int x] (mB dC dI ad cy S) (bI (isBg S x)) := by
  refine Ro_start (cc := cX2_isHeight) (maxL := 2) (ret := (some .boolean)) (lv := [(0, .ref (ad 0)), (1, .int x)]) (by decide) rfl (Nat.le_of_ble_eq_true rfl) rfl ?_
  intro pp ee ss mm aa bl me co hx hb hr hml hts hown hlocks hnm hB ls hl
  obtain ⟨hP, hK⟩ := hB
  have hin : ∀ w ∈ wsX20, w ∈ wsX2_isHeight := fun w h => List.mem_cons_of_mem _ (List.mem_append_right _ h)
  have hf_82 := hts (.fieldLink RX2 82 "FaultEvidenceModel" "height" "I") (by decide +kernel)
  have I1 := I.n
  refine lv_iload_n hx hb dX2_isHeight_0 rfl (lv_at hl 1 rfl) ?_
  refine lv_iconst (v := (nI 1)) hx hb dX2_isHeight_1 (by decide) ?_
  refine f_ilt (tgt := 17) hx hb (rfl) (nI_toInt (by omega)) dX2_isHeight_2 (by decide) (fun c_1 => ?_) (fun c_1 => ?_)
  · refine lv_iconst (v := (nI 0)) hx hb dX2_isHeight_17 (by decide) ?_
    exact f_r0 hx hb hr hlocks (by rw [← Bool.not_eq_true]; simp only [isBg, Bool.and_eq_true, Bool.or_eq_true, Bool.not_eq_true', decide_eq_true_eq]; omega) dX2_isHeight_18
  · refine lv_iload_n hx hb dX2_isHeight_5 rfl (lv_at hl 1 rfl) ?_
    refine lv_aload_n hx hb dX2_isHeight_6 rfl (lv_at hl 0 rfl) ?_
    refine va_get (D := (dC, dI)) (ci := 3) (v := .int (nI (sHh S))) (C := RX2) (T := TX2) (N := 27) hx hb hts hin hown hK hP 0 rfl rfl 4 (by decide) hf_82 (fun _ h9 => h9) rfl dX2_isHeight_7 ?_
    refine f_igt (tgt := 17) hx hb (rfl) (nI_toInt (by omega)) dX2_isHeight_10 (by decide) (fun c_2 => ?_) (fun c_2 => ?_)
    · refine lv_iconst (v := (nI 0)) hx hb dX2_isHeight_17 (by decide) ?_
      exact f_r0 hx hb hr hlocks (by rw [← Bool.not_eq_true]; simp only [isBg, Bool.and_eq_true, Bool.or_eq_true, Bool.not_eq_true', decide_eq_true_eq]; omega) dX2_isHeight_18
    · refine lv_iconst (v := (nI 1)) hx hb dX2_isHeight_13 (by decide) ?_
      refine lv_goto (tgt := 18) hx hb dX2_isHeight_14 (by decide) ?_
      exact f_r1 hx hb hr hlocks (by simp only [isBg, Bool.and_eq_true, Bool.or_eq_true, Bool.not_eq_true', decide_eq_true_eq]; omega) dX2_isHeight_18

abbrev rm_X2_weightOf : Room := { frames := 0, cells := 0, slots := 0, locals := 0 }
set_option maxHeartbeats 4000000 in
set_option maxRecDepth 100000 in
theorem c_X2_weightOf (l : Launch) (dC : Nat → ClassId) (dI : Nat → Nat → Nat) (ad : Nat → Nat) (cy : Nat → ClassId) (S : St) (h : Nat) (m : Nat) (I : Inv S) (hh : h ≤ 40) (hm1 : m < 256) : RoL l yX2_weightOf wsX2_weightOf rm_X2_weightOf [.ref (ad 0), .int (nI h), .int (nI m)] (mB dC dI ad cy S) (lN (woF S h m)) := by
  refine Ro_start (cc := cX2_weightOf) (maxL := 6) (ret := (some .long)) (lv := [(0, .ref (ad 0)), (1, .int (nI h)), (2, .int (nI m))]) (by decide) rfl (Nat.le_of_ble_eq_true rfl) rfl ?_
  intro pp ee ss mm aa bl me co hx hb hr hml hts hown hlocks hnm hB ls hl
  obtain ⟨hP, hK⟩ := hB
  have hin : ∀ w ∈ wsX20, w ∈ wsX2_weightOf := fun w h => List.mem_cons_of_mem _ (List.mem_append_right _ h)
  have hf_20 := hts (.fieldLink RX2 20 "FaultEvidenceModel" "weights" "[J") (by decide +kernel)
  have I1 := I.n
  refine lv_lconst (v := (lN 0)) hx hb dX2_weightOf_0 (by decide) ?_
  refine lv_lstore_n (lv' := [(3, .long (lN 0)), (0, .ref (ad 0)), (1, .int (nI h)), (2, .int (nI m))]) hx hb dX2_weightOf_1 rfl hl (by decide) rfl (fun ls hl => ?_)
  refine lv_iconst (v := (nI 0)) hx hb dX2_weightOf_2 (by decide) ?_
  refine lv_istore (lv' := [(5, .int (nI 0)), (3, .long (lN 0)), (0, .ref (ad 0)), (1, .int (nI h)), (2, .int (nI m))]) hx hb dX2_weightOf_3 hl (by decide) rfl (fun ls hl => ?_)
  have loop_5 : ∀ (n : Nat) (k : Nat) (w : Nat), 8 - k < n → w = sm k (woT S h m) → k ≤ 8 → ∀ ls : Array Slot, lv_has ls 6 [(5, .int (nI k)), (3, .long (lN w)), (0, .ref (ad 0)), (1, .int (nI h)), (2, .int (nI m))] → W pp l ee rm_X2_weightOf ss mm aa bl me co ss.heap [] 0 0 (MQ bl (vp_Sl (fun z_ => z_ = lN (woF S h m))) aa ss 0 0 (fun _ => False)) (F0 mm 5 ls []) := by
    intro n
    induction n with
    | zero => intro k w hm; exact absurd hm (Nat.not_lt_zero _)
    | succ n ih_5 =>
      intro k w hm hw hk ls hl
      refine lv_iload hx hb dX2_weightOf_5 (lv_at hl 0 rfl) ?_
      refine lv_bipush (v := (nI 8)) hx hb dX2_weightOf_7 (by decide) ?_
      refine f_ige (tgt := 47) hx hb (nI_toInt (by omega)) (nI_toInt (by omega)) dX2_weightOf_9 (by decide) (fun c_1 => ?_) (fun c_1 => ?_)
      · refine lv_lload_n hx hb dX2_weightOf_47 rfl (lv_at hl 1 rfl) ?_
        exact f_rl hx hb hr hlocks (by have e : k = 8 := (by omega); rw [hw, e]; rfl) dX2_weightOf_48
      · refine lv_lload_n hx hb dX2_weightOf_12 rfl (lv_at hl 1 rfl) ?_
        refine lv_iload_n hx hb dX2_weightOf_13 rfl (lv_at hl 4 rfl) ?_
        refine lv_iload hx hb dX2_weightOf_14 (lv_at hl 0 rfl) ?_
        refine lv_ishr hx hb dX2_weightOf_16 ?_
        refine f_ti (y := (nI (m / 2 ^ k))) (f_shrv (by omega) (by omega)) ?_
        refine lv_iconst (v := (nI 1)) hx hb dX2_weightOf_17 (by decide) ?_
        have hql : m / 2 ^ k ≤ m := Nat.div_le_self _ _
        refine lv_iand hx hb dX2_weightOf_18 ?_
        refine f_ti (y := (nI ((m / 2 ^ k) % 2))) (pk_andN (by omega) 1 (by decide)) ?_
        refine lv_iconst (v := (nI 1)) hx hb dX2_weightOf_19 (by decide) ?_
        have hq := f_tb2 m k
        refine f_ine (tgt := 38) hx hb (nI_toInt (by omega)) (nI_toInt (by omega)) dX2_weightOf_20 (by decide) (fun c_2 => ?_) (fun c_2 => ?_)
        · have hz : woT S h m k = 0 := by
            unfold woT
            rw [if_neg]
            intro e
            rw [if_pos e] at hq
            omega
          refine lv_lconst (v := (lN 0)) hx hb dX2_weightOf_38 (by decide) ?_
          refine lv_ladd hx hb dX2_weightOf_39 ?_
          refine f_tl (y := (lN (w + 0))) (lN_add _ _) ?_
          refine lv_lstore_n (lv' := [(3, .long (lN (w + 0))), (5, .int (nI k)), (0, .ref (ad 0)), (1, .int (nI h)), (2, .int (nI m))]) hx hb dX2_weightOf_40 rfl hl (by decide) rfl (fun ls hl => ?_)
          refine lv_iinc (v := (nI (k + 1))) (lv' := [(5, .int (nI (k + 1))), (3, .long (lN (w + 0))), (0, .ref (ad 0)), (1, .int (nI h)), (2, .int (nI m))]) hx hb dX2_weightOf_41 hl (k := 1) rfl (nI_add k 1) (by decide) rfl (fun ls hl => ?_)
          refine lv_goto (tgt := 5) hx hb dX2_weightOf_44 (by decide) ?_
          exact ih_5 (k + 1) (w + 0) (by omega) (by rw [sm, ← hw, hz]) (by omega) ls (lv_sub hl [0, 1, 2, 3, 4] rfl)
        · have hz : woT S h m k = sWts S (8 * h + k) := by
            unfold woT
            rw [if_pos]
            rw [← Bool.not_eq_false]
            intro e
            rw [e, if_neg (by decide)] at hq
            omega
          refine lv_aload_n hx hb dX2_weightOf_23 rfl (lv_at hl 2 rfl) ?_
          refine va_get (D := (dC, dI)) (ci := 3) (v := .ref (ad 4)) (C := RX2) (T := TX2) (N := 27) hx hb hts hin hown hK hP 0 rfl rfl 5 (by decide) hf_20 (fun _ h9 => h9) rfl dX2_weightOf_24 ?_
          refine lv_bipush (v := (nI 8)) hx hb dX2_weightOf_27 (by decide) ?_
          refine lv_iload_n hx hb dX2_weightOf_29 rfl (lv_at hl 3 rfl) ?_
          refine lv_imul hx hb dX2_weightOf_30 ?_
          refine f_ti (y := (nI (8 * h))) (pk_mul _ _) ?_
          refine lv_iload hx hb dX2_weightOf_31 (lv_at hl 0 rfl) ?_
          refine lv_iadd hx hb dX2_weightOf_33 ?_
          refine f_ti (y := (nI ((8 * h) + k))) (nI_add _ _) ?_
          refine f_lald hx hb hK hP 4 3 rfl rfl (k := ((8 * h) + k)) (by omega) (by decide) (v := (lN (sWts S ((8 * h) + k)))) rfl dX2_weightOf_34 ?_
          refine lv_goto (tgt := 39) hx hb dX2_weightOf_35 (by decide) ?_
          refine lv_ladd hx hb dX2_weightOf_39 ?_
          refine f_tl (y := (lN (w + (sWts S ((8 * h) + k))))) (lN_add _ _) ?_
          refine lv_lstore_n (lv' := [(3, .long (lN (w + (sWts S ((8 * h) + k))))), (5, .int (nI k)), (0, .ref (ad 0)), (1, .int (nI h)), (2, .int (nI m))]) hx hb dX2_weightOf_40 rfl hl (by decide) rfl (fun ls hl => ?_)
          refine lv_iinc (v := (nI (k + 1))) (lv' := [(5, .int (nI (k + 1))), (3, .long (lN (w + (sWts S ((8 * h) + k))))), (0, .ref (ad 0)), (1, .int (nI h)), (2, .int (nI m))]) hx hb dX2_weightOf_41 hl (k := 1) rfl (nI_add k 1) (by decide) rfl (fun ls hl => ?_)
          refine lv_goto (tgt := 5) hx hb dX2_weightOf_44 (by decide) ?_
          exact ih_5 (k + 1) (w + (sWts S ((8 * h) + k))) (by omega) (by rw [sm, ← hw, hz]) (by omega) ls (lv_sub hl [0, 1, 2, 3, 4] rfl)
  exact loop_5 (8 - 0 + 1) 0 0 (Nat.lt_succ_self _) (rfl) (by decide) ls (lv_sub hl [0, 1, 2, 3, 4] rfl)

abbrev rm_X2_haveMost : Room := { frames := 1, cells := 0, slots := 0, locals := 25 }
set_option maxHeartbeats 4000000 in
set_option maxRecDepth 100000 in
theorem c_X2_haveMost (l : Launch) (dC : Nat → ClassId) (dI : Nat → Nat → Nat) (ad : Nat → Nat) (cy : Nat → ClassId) (S : St) (h : Nat) (m : Nat) (I : Inv S) (hh : h ≤ 40) (hm1 : m < 256) : RoI l yX2_haveMost wsX2_haveMost rm_X2_haveMost [.ref (ad 0), .int (nI h), .int (nI m)] (mB dC dI ad cy S) (bI (mostF S h (woF S h m))) := by
  refine Ro_start (cc := cX2_haveMost) (maxL := 3) (ret := (some .boolean)) (lv := [(0, .ref (ad 0)), (1, .int (nI h)), (2, .int (nI m))]) (by decide) rfl (Nat.le_of_ble_eq_true rfl) rfl ?_
  intro pp ee ss mm aa bl me co hx hb hr hml hts hown hlocks hnm hB ls hl
  obtain ⟨hP, hK⟩ := hB
  have hin : ∀ w ∈ wsX20, w ∈ wsX2_haveMost := fun w h => List.mem_cons_of_mem _ (List.mem_append_right _ h)
  have hf_23 := hts (.fieldLink RX2 23 "FaultEvidenceModel" "totals" "[J") (by decide +kernel)
  have hc_85 := hts (.constantLong RX2 85 (3)) (by decide +kernel)
  have hc_91 := hts (.constantLong RX2 91 (2)) (by decide +kernel)
  have I1 := I.n
  have I2 := I.t h
  have I3 := woF_le I h m
  refine lv_ldc2 (v := 3) hx hb hown hc_85 dX2_haveMost_0 ?_
  refine f_tl (y := (lN 3)) (by decide) ?_
  refine lv_aload_n hx hb dX2_haveMost_3 rfl (lv_at hl 0 rfl) ?_
  refine lv_iload_n hx hb dX2_haveMost_4 rfl (lv_at hl 1 rfl) ?_
  refine lv_iload_n hx hb dX2_haveMost_5 rfl (lv_at hl 2 rfl) ?_
  refine f_cVl (As := [.int (nI h), .int (nI m)]) (rest := [.long (lN 3)]) ⟨hx, hb, hml, hown, hts⟩ (c_X2_weightOf l dC dI ad cy S h m I (by omega) (by omega)) (cwV 2 hts gX2_haveMost_X2_weightOf rfl rfl rfl (by decide +kernel) ⟨Nat.le_of_ble_eq_true rfl, Nat.le_of_ble_eq_true rfl⟩) roB_bl (va_recv hK hP (ci := 3) (q0 := 0) rfl rfl) (roB_at hP hK) rfl hl.1 rfl (Nat.le_of_ble_eq_true rfl) dX2_haveMost_6 ⟨Nat.zero_le _, Nat.zero_le _⟩ ?_
  refine lv_lmul hx hb dX2_haveMost_9 ?_
  refine f_tl (y := (lN (3 * (woF S h m)))) (lN_mul _ _) ?_
  refine lv_ldc2 (v := 2) hx hb hown hc_91 dX2_haveMost_10 ?_
  refine f_tl (y := (lN 2)) (by decide) ?_
  refine lv_aload_n hx hb dX2_haveMost_13 rfl (lv_at hl 0 rfl) ?_
  refine va_get (D := (dC, dI)) (ci := 3) (v := .ref (ad 5)) (C := RX2) (T := TX2) (N := 27) hx hb hts hin hown hK hP 0 rfl rfl 6 (by decide) hf_23 (fun _ h9 => h9) rfl dX2_haveMost_14 ?_
  refine lv_iload_n hx hb dX2_haveMost_17 rfl (lv_at hl 1 rfl) ?_
  refine f_lald hx hb hK hP 5 4 rfl rfl (k := h) (by omega) (by decide) (v := (lN (sTot S h))) rfl dX2_haveMost_18 ?_
  refine lv_lmul hx hb dX2_haveMost_19 ?_
  refine f_tl (y := (lN (2 * (sTot S h)))) (lN_mul _ _) ?_
  refine f_lle (tgt := 28) hx hb (pk_lT (by omega)) (pk_lT (by omega)) dX2_haveMost_20 dX2_haveMost_21 (by decide) (fun c_1 => ?_) (fun c_1 => ?_)
  · refine lv_iconst (v := (nI 0)) hx hb dX2_haveMost_28 (by decide) ?_
    exact f_r0 hx hb hr hlocks (by rw [← Bool.not_eq_true]; simp only [mostF, Bool.and_eq_true, Bool.or_eq_true, Bool.not_eq_true', decide_eq_true_eq]; omega) dX2_haveMost_29
  · refine lv_iconst (v := (nI 1)) hx hb dX2_haveMost_24 (by decide) ?_
    refine lv_goto (tgt := 29) hx hb dX2_haveMost_25 (by decide) ?_
    exact f_r1 hx hb hr hlocks (by simp only [mostF, Bool.and_eq_true, Bool.or_eq_true, Bool.not_eq_true', decide_eq_true_eq]; omega) dX2_haveMost_29

abbrev rm_X2_isBacked : Room := { frames := 2, cells := 0, slots := 0, locals := 47 }
set_option maxHeartbeats 4000000 in
set_option maxRecDepth 100000 in
theorem c_X2_isBacked (l : Launch) (dC : Nat → ClassId) (dI : Nat → Nat → Nat) (ad : Nat → Nat) (cy : Nat → ClassId) (S : St) (h : Nat) (r : Nat) (b : Nat) (I : Inv S) (hh : h ≤ 40) (hr1 : r < 8) (hb1 : b < 10) : RoI l yX2_isBacked wsX2_isBacked rm_X2_isBacked [.ref (ad 0), .int (nI h), .int (nI r), .int (nI b)] (mB dC dI ad cy S) (bI (msF S h r 0 b)) := by
  refine Ro_start (cc := cX2_isBacked) (maxL := 4) (ret := (some .boolean)) (lv := [(0, .ref (ad 0)), (1, .int (nI h)), (2, .int (nI r)), (3, .int (nI b))]) (by decide) rfl (Nat.le_of_ble_eq_true rfl) rfl ?_
  intro pp ee ss mm aa bl me co hx hb hr hml hts hown hlocks hnm hB ls hl
  obtain ⟨hP, hK⟩ := hB
  have hin : ∀ w ∈ wsX20, w ∈ wsX2_isBacked := fun w h => List.mem_cons_of_mem _ (List.mem_append_right _ h)
  have hf_42 := hts (.fieldLink RX2 42 "FaultEvidenceModel" "saying" "[I") (by decide +kernel)
  have I1 := I.n
  have I2 := sy_lt S (((8 * h + r) * 2 + 0) * 10 + b)
  refine lv_aload_n hx hb dX2_isBacked_0 rfl (lv_at hl 0 rfl) ?_
  refine lv_iload_n hx hb dX2_isBacked_1 rfl (lv_at hl 1 rfl) ?_
  refine lv_aload_n hx hb dX2_isBacked_2 rfl (lv_at hl 0 rfl) ?_
  refine va_get (D := (dC, dI)) (ci := 3) (v := .ref (ad 11)) (C := RX2) (T := TX2) (N := 27) hx hb hts hin hown hK hP 0 rfl rfl 13 (by decide) hf_42 (fun _ h9 => h9) rfl dX2_isBacked_3 ?_
  refine lv_iload_n hx hb dX2_isBacked_6 rfl (lv_at hl 1 rfl) ?_
  refine lv_iload_n hx hb dX2_isBacked_7 rfl (lv_at hl 2 rfl) ?_
  refine lv_iconst (v := (nI 0)) hx hb dX2_isBacked_8 (by decide) ?_
  refine lv_iload_n hx hb dX2_isBacked_9 rfl (lv_at hl 3 rfl) ?_
  refine f_cSi (As := [.int (nI h), .int (nI r), .int (nI 0), .int (nI b)]) (rest := [.ref (ad 11), .int (nI h), .ref (ad 0)]) ⟨hx, hb, hml, hown, hts⟩ (c_X2_place l h r 0 b) (va_cwS 4 hts gX2_isBacked_X2_place rfl rfl rfl (by decide +kernel) ⟨Nat.le_of_ble_eq_true rfl, Nat.le_of_ble_eq_true rfl⟩) noB_bl noB_at rfl hl.1 rfl (Nat.le_of_ble_eq_true rfl) dX2_isBacked_10 ⟨Nat.zero_le _, Nat.zero_le _⟩ ?_
  refine f_iald hx hb hK hP 11 10 rfl rfl (k := (((8 * h + r) * 2 + 0) * 10 + b)) (by omega) (by decide) (v := (nI (syF S (((8 * h + r) * 2 + 0) * 10 + b)))) rfl dX2_isBacked_13 ?_
  refine f_cVi (As := [.int (nI h), .int (nI (syF S (((8 * h + r) * 2 + 0) * 10 + b)))]) (rest := []) ⟨hx, hb, hml, hown, hts⟩ (c_X2_haveMost l dC dI ad cy S h (syF S (((8 * h + r) * 2 + 0) * 10 + b)) I (by omega) (by omega)) (cwV 2 hts gX2_isBacked_X2_haveMost rfl rfl rfl (by decide +kernel) ⟨Nat.le_of_ble_eq_true rfl, Nat.le_of_ble_eq_true rfl⟩) roB_bl (va_recv hK hP (ci := 3) (q0 := 0) rfl rfl) (roB_at hP hK) rfl hl.1 rfl (Nat.le_of_ble_eq_true rfl) dX2_isBacked_14 ⟨Nat.zero_le _, Nat.zero_le _⟩ ?_
  exact f_rb hx hb hr hlocks (by unfold msF; rw [wo_at S hr1 (by decide) hb1]) dX2_isBacked_17

abbrev rm_X2_isCertain : Room := { frames := 2, cells := 0, slots := 0, locals := 47 }
set_option maxHeartbeats 4000000 in
set_option maxRecDepth 100000 in
theorem c_X2_isCertain (l : Launch) (dC : Nat → ClassId) (dI : Nat → Nat → Nat) (ad : Nat → Nat) (cy : Nat → ClassId) (S : St) (h : Nat) (b : Nat) (I : Inv S) (hh : h ≤ 40) (hb1 : b < 10) : RoI l yX2_isCertain wsX2_isCertain rm_X2_isCertain [.ref (ad 0), .int (nI h), .int (nI b)] (mB dC dI ad cy S) (bI (ex 8 (fun r => msF S h r 1 b))) := by
  refine Ro_start (cc := cX2_isCertain) (maxL := 5) (ret := (some .boolean)) (lv := [(0, .ref (ad 0)), (1, .int (nI h)), (2, .int (nI b))]) (by decide) rfl (Nat.le_of_ble_eq_true rfl) rfl ?_
  intro pp ee ss mm aa bl me co hx hb hr hml hts hown hlocks hnm hB ls hl
  obtain ⟨hP, hK⟩ := hB
  have hin : ∀ w ∈ wsX20, w ∈ wsX2_isCertain := fun w h => List.mem_cons_of_mem _ (List.mem_append_right _ h)
  have hf_42 := hts (.fieldLink RX2 42 "FaultEvidenceModel" "saying" "[I") (by decide +kernel)
  have I1 := I.n
  refine lv_iconst (v := (nI 0)) hx hb dX2_isCertain_0 (by decide) ?_
  refine f_ti (y := (bI false)) rfl ?_
  refine lv_istore_n (lv' := [(3, .int (bI false)), (0, .ref (ad 0)), (1, .int (nI h)), (2, .int (nI b))]) hx hb dX2_isCertain_1 rfl hl (by decide) rfl (fun ls hl => ?_)
  refine lv_iconst (v := (nI 0)) hx hb dX2_isCertain_2 (by decide) ?_
  refine lv_istore (lv' := [(4, .int (nI 0)), (3, .int (bI false)), (0, .ref (ad 0)), (1, .int (nI h)), (2, .int (nI b))]) hx hb dX2_isCertain_3 hl (by decide) rfl (fun ls hl => ?_)
  have loop_5 : ∀ (n : Nat) (r : Nat) (F : Bool), 8 - r < n → F = ex r (fun r => msF S h r 1 b) → r ≤ 8 → ∀ ls : Array Slot, lv_has ls 5 [(4, .int (nI r)), (3, .int (bI F)), (0, .ref (ad 0)), (1, .int (nI h)), (2, .int (nI b))] → W pp l ee rm_X2_isCertain ss mm aa bl me co ss.heap [] 0 0 (MQ bl (vp_Si (fun z_ => z_ = bI (ex 8 (fun r => msF S h r 1 b)))) aa ss 0 0 (fun _ => False)) (F0 mm 5 ls []) := by
    intro n
    induction n with
    | zero => intro r F hm; exact absurd hm (Nat.not_lt_zero _)
    | succ n ih_5 =>
      intro r F hm hF hr1 ls hl
      refine lv_iload hx hb dX2_isCertain_5 (lv_at hl 0 rfl) ?_
      refine lv_bipush (v := (nI 8)) hx hb dX2_isCertain_7 (by decide) ?_
      refine f_ige (tgt := 49) hx hb (nI_toInt (by omega)) (nI_toInt (by omega)) dX2_isCertain_9 (by decide) (fun c_1 => ?_) (fun c_1 => ?_)
      · refine lv_iload_n hx hb dX2_isCertain_49 rfl (lv_at hl 1 rfl) ?_
        exact f_rb hx hb hr hlocks (by have e : r = 8 := (by omega); rw [hF, e]) dX2_isCertain_50
      · refine lv_iload_n hx hb dX2_isCertain_12 rfl (lv_at hl 1 rfl) ?_
        refine f_bne (tgt := 37) hx hb dX2_isCertain_13 (by decide) (fun c_2 => ?_) (fun c_2 => ?_)
        · refine lv_iconst (v := (nI 1)) hx hb dX2_isCertain_37 (by decide) ?_
          refine lv_goto (tgt := 42) hx hb dX2_isCertain_38 (by decide) ?_
          refine f_ti (y := (bI true)) rfl ?_
          refine lv_istore_n (lv' := [(3, .int (bI true)), (4, .int (nI r)), (0, .ref (ad 0)), (1, .int (nI h)), (2, .int (nI b))]) hx hb dX2_isCertain_42 rfl hl (by decide) rfl (fun ls hl => ?_)
          refine lv_iinc (v := (nI (r + 1))) (lv' := [(4, .int (nI (r + 1))), (3, .int (bI true)), (0, .ref (ad 0)), (1, .int (nI h)), (2, .int (nI b))]) hx hb dX2_isCertain_43 hl (k := 1) rfl (nI_add r 1) (by decide) rfl (fun ls hl => ?_)
          refine lv_goto (tgt := 5) hx hb dX2_isCertain_46 (by decide) ?_
          exact ih_5 (r + 1) true (by omega) (by simp [ex, ← hF, c_2]) (by omega) ls (lv_sub hl [0, 1, 2, 3, 4] rfl)
        · refine lv_aload_n hx hb dX2_isCertain_16 rfl (lv_at hl 2 rfl) ?_
          refine lv_iload_n hx hb dX2_isCertain_17 rfl (lv_at hl 3 rfl) ?_
          refine lv_aload_n hx hb dX2_isCertain_18 rfl (lv_at hl 2 rfl) ?_
          refine va_get (D := (dC, dI)) (ci := 3) (v := .ref (ad 11)) (C := RX2) (T := TX2) (N := 27) hx hb hts hin hown hK hP 0 rfl rfl 13 (by decide) hf_42 (fun _ h9 => h9) rfl dX2_isCertain_19 ?_
          refine lv_iload_n hx hb dX2_isCertain_22 rfl (lv_at hl 3 rfl) ?_
          refine lv_iload hx hb dX2_isCertain_23 (lv_at hl 0 rfl) ?_
          refine lv_iconst (v := (nI 1)) hx hb dX2_isCertain_25 (by decide) ?_
          refine lv_iload_n hx hb dX2_isCertain_26 rfl (lv_at hl 4 rfl) ?_
          refine f_cSi (As := [.int (nI h), .int (nI r), .int (nI 1), .int (nI b)]) (rest := [.ref (ad 11), .int (nI h), .ref (ad 0)]) ⟨hx, hb, hml, hown, hts⟩ (c_X2_place l h r 1 b) (va_cwS 4 hts gX2_isCertain_X2_place rfl rfl rfl (by decide +kernel) ⟨Nat.le_of_ble_eq_true rfl, Nat.le_of_ble_eq_true rfl⟩) noB_bl noB_at rfl hl.1 rfl (Nat.le_of_ble_eq_true rfl) dX2_isCertain_27 ⟨Nat.zero_le _, Nat.zero_le _⟩ ?_
          refine f_iald hx hb hK hP 11 10 rfl rfl (k := (((8 * h + r) * 2 + 1) * 10 + b)) (by omega) (by decide) (v := (nI (syF S (((8 * h + r) * 2 + 1) * 10 + b)))) rfl dX2_isCertain_30 ?_
          have I2 := sy_lt S (((8 * h + r) * 2 + 1) * 10 + b)
          refine f_cVi (As := [.int (nI h), .int (nI (syF S (((8 * h + r) * 2 + 1) * 10 + b)))]) (rest := []) ⟨hx, hb, hml, hown, hts⟩ (c_X2_haveMost l dC dI ad cy S h (syF S (((8 * h + r) * 2 + 1) * 10 + b)) I (by omega) (by omega)) (cwV 2 hts gX2_isCertain_X2_haveMost rfl rfl rfl (by decide +kernel) ⟨Nat.le_of_ble_eq_true rfl, Nat.le_of_ble_eq_true rfl⟩) roB_bl (va_recv hK hP (ci := 3) (q0 := 0) rfl rfl) (roB_at hP hK) rfl hl.1 rfl (Nat.le_of_ble_eq_true rfl) dX2_isCertain_31 ⟨Nat.zero_le _, Nat.zero_le _⟩ ?_
          refine f_beq (tgt := 41) hx hb dX2_isCertain_34 (by decide) (fun c_3 => ?_) (fun c_3 => ?_)
          · rw [wo_at S (by omega) (by decide) hb1] at c_3
            have c_3 : msF S h r 1 b = false := c_3
            refine lv_iconst (v := (nI 0)) hx hb dX2_isCertain_41 (by decide) ?_
            refine f_ti (y := (bI false)) rfl ?_
            refine lv_istore_n (lv' := [(3, .int (bI false)), (4, .int (nI r)), (0, .ref (ad 0)), (1, .int (nI h)), (2, .int (nI b))]) hx hb dX2_isCertain_42 rfl hl (by decide) rfl (fun ls hl => ?_)
            refine lv_iinc (v := (nI (r + 1))) (lv' := [(4, .int (nI (r + 1))), (3, .int (bI false)), (0, .ref (ad 0)), (1, .int (nI h)), (2, .int (nI b))]) hx hb dX2_isCertain_43 hl (k := 1) rfl (nI_add r 1) (by decide) rfl (fun ls hl => ?_)
            refine lv_goto (tgt := 5) hx hb dX2_isCertain_46 (by decide) ?_
            exact ih_5 (r + 1) false (by omega) (by simp [ex, ← hF, c_2, c_3]) (by omega) ls (lv_sub hl [0, 1, 2, 3, 4] rfl)
          · rw [wo_at S (by omega) (by decide) hb1] at c_3
            have c_3 : msF S h r 1 b = true := c_3
            refine lv_iconst (v := (nI 1)) hx hb dX2_isCertain_37 (by decide) ?_
            refine lv_goto (tgt := 42) hx hb dX2_isCertain_38 (by decide) ?_
            refine f_ti (y := (bI true)) rfl ?_
            refine lv_istore_n (lv' := [(3, .int (bI true)), (4, .int (nI r)), (0, .ref (ad 0)), (1, .int (nI h)), (2, .int (nI b))]) hx hb dX2_isCertain_42 rfl hl (by decide) rfl (fun ls hl => ?_)
            refine lv_iinc (v := (nI (r + 1))) (lv' := [(4, .int (nI (r + 1))), (3, .int (bI true)), (0, .ref (ad 0)), (1, .int (nI h)), (2, .int (nI b))]) hx hb dX2_isCertain_43 hl (k := 1) rfl (nI_add r 1) (by decide) rfl (fun ls hl => ?_)
            refine lv_goto (tgt := 5) hx hb dX2_isCertain_46 (by decide) ?_
            exact ih_5 (r + 1) true (by omega) (by simp [ex, ← hF, c_2, c_3]) (by omega) ls (lv_sub hl [0, 1, 2, 3, 4] rfl)
  exact loop_5 (8 - 0 + 1) 0 false (Nat.lt_succ_self _) (rfl) (by decide) ls (lv_sub hl [0, 1, 2, 3, 4] rfl)

abbrev rm_X2_isTwice : Room := { frames := 0, cells := 0, slots := 0, locals := 0 }
set_option maxHeartbeats 4000000 in
set_option maxRecDepth 100000 in
theorem c_X2_isTwice (l : Launch) (dC : Nat → ClassId) (dI : Nat → Nat → Nat) (ad : Nat → Nat) (cy : Nat → ClassId) (S : St) (a : Nat) (b : Nat) (I : Inv S) (ha : a < sVn S) (hb1 : b < sVn S) : RoI l yX2_isTwice wsX2_isTwice rm_X2_isTwice [.ref (ad 0), .int (nI a), .int (nI b)] (mB dC dI ad cy S) (bI (twF (sVts S a) (sVts S b))) := by
  refine Ro_start (cc := cX2_isTwice) (maxL := 3) (ret := (some .boolean)) (lv := [(0, .ref (ad 0)), (1, .int (nI a)), (2, .int (nI b))]) (by decide) rfl (Nat.le_of_ble_eq_true rfl) rfl ?_
  intro pp ee ss mm aa bl me co hx hb hr hml hts hown hlocks hnm hB ls hl
  obtain ⟨hP, hK⟩ := hB
  have hin : ∀ w ∈ wsX20, w ∈ wsX2_isTwice := fun w h => List.mem_cons_of_mem _ (List.mem_append_right _ h)
  have hf_26 := hts (.fieldLink RX2 26 "FaultEvidenceModel" "who" "[I") (by decide +kernel)
  have hf_30 := hts (.fieldLink RX2 30 "FaultEvidenceModel" "when" "[I") (by decide +kernel)
  have hf_33 := hts (.fieldLink RX2 33 "FaultEvidenceModel" "rounds" "[I") (by decide +kernel)
  have hf_36 := hts (.fieldLink RX2 36 "FaultEvidenceModel" "steps" "[I") (by decide +kernel)
  have hf_39 := hts (.fieldLink RX2 39 "FaultEvidenceModel" "blocks" "[I") (by decide +kernel)
  have I1 := I.n
  have v1 := I.v ha
  have v2 := I.v hb1
  refine lv_aload_n hx hb dX2_isTwice_0 rfl (lv_at hl 0 rfl) ?_
  refine va_get (D := (dC, dI)) (ci := 3) (v := .ref (ad 6)) (C := RX2) (T := TX2) (N := 27) hx hb hts hin hown hK hP 0 rfl rfl 8 (by decide) hf_26 (fun _ h9 => h9) rfl dX2_isTwice_1 ?_
  refine lv_iload_n hx hb dX2_isTwice_4 rfl (lv_at hl 1 rfl) ?_
  refine f_iald hx hb hK hP 6 5 rfl rfl (k := a) (by omega) (by decide) (v := (nI (sVts S a / 256 % 8))) rfl dX2_isTwice_5 ?_
  refine lv_aload_n hx hb dX2_isTwice_6 rfl (lv_at hl 0 rfl) ?_
  refine va_get (D := (dC, dI)) (ci := 3) (v := .ref (ad 6)) (C := RX2) (T := TX2) (N := 27) hx hb hts hin hown hK hP 0 rfl rfl 8 (by decide) hf_26 (fun _ h9 => h9) rfl dX2_isTwice_7 ?_
  refine lv_iload_n hx hb dX2_isTwice_10 rfl (lv_at hl 2 rfl) ?_
  refine f_iald hx hb hK hP 6 5 rfl rfl (k := b) (by omega) (by decide) (v := (nI (sVts S b / 256 % 8))) rfl dX2_isTwice_11 ?_
  refine f_ine (tgt := 79) hx hb (nI_toInt (by omega)) (nI_toInt (by omega)) dX2_isTwice_12 (by decide) (fun c_1 => ?_) (fun c_1 => ?_)
  · refine lv_iconst (v := (nI 0)) hx hb dX2_isTwice_79 (by decide) ?_
    exact f_r0 hx hb hr hlocks (by rw [← Bool.not_eq_true]; simp only [twF, ne_eq, Bool.and_eq_true, Bool.or_eq_true, Bool.not_eq_true', decide_eq_true_eq]; omega) dX2_isTwice_80
  · refine lv_aload_n hx hb dX2_isTwice_15 rfl (lv_at hl 0 rfl) ?_
    refine va_get (D := (dC, dI)) (ci := 3) (v := .ref (ad 7)) (C := RX2) (T := TX2) (N := 27) hx hb hts hin hown hK hP 0 rfl rfl 9 (by decide) hf_30 (fun _ h9 => h9) rfl dX2_isTwice_16 ?_
    refine lv_iload_n hx hb dX2_isTwice_19 rfl (lv_at hl 1 rfl) ?_
    refine f_iald hx hb hK hP 7 6 rfl rfl (k := a) (by omega) (by decide) (v := (nI (sVts S a / 2048))) rfl dX2_isTwice_20 ?_
    refine lv_aload_n hx hb dX2_isTwice_21 rfl (lv_at hl 0 rfl) ?_
    refine va_get (D := (dC, dI)) (ci := 3) (v := .ref (ad 7)) (C := RX2) (T := TX2) (N := 27) hx hb hts hin hown hK hP 0 rfl rfl 9 (by decide) hf_30 (fun _ h9 => h9) rfl dX2_isTwice_22 ?_
    refine lv_iload_n hx hb dX2_isTwice_25 rfl (lv_at hl 2 rfl) ?_
    refine f_iald hx hb hK hP 7 6 rfl rfl (k := b) (by omega) (by decide) (v := (nI (sVts S b / 2048))) rfl dX2_isTwice_26 ?_
    refine f_ine (tgt := 79) hx hb (nI_toInt (by omega)) (nI_toInt (by omega)) dX2_isTwice_27 (by decide) (fun c_2 => ?_) (fun c_2 => ?_)
    · refine lv_iconst (v := (nI 0)) hx hb dX2_isTwice_79 (by decide) ?_
      exact f_r0 hx hb hr hlocks (by rw [← Bool.not_eq_true]; simp only [twF, ne_eq, Bool.and_eq_true, Bool.or_eq_true, Bool.not_eq_true', decide_eq_true_eq]; omega) dX2_isTwice_80
    · refine lv_aload_n hx hb dX2_isTwice_30 rfl (lv_at hl 0 rfl) ?_
      refine va_get (D := (dC, dI)) (ci := 3) (v := .ref (ad 8)) (C := RX2) (T := TX2) (N := 27) hx hb hts hin hown hK hP 0 rfl rfl 10 (by decide) hf_33 (fun _ h9 => h9) rfl dX2_isTwice_31 ?_
      refine lv_iload_n hx hb dX2_isTwice_34 rfl (lv_at hl 1 rfl) ?_
      refine f_iald hx hb hK hP 8 7 rfl rfl (k := a) (by omega) (by decide) (v := (nI (sVts S a / 32 % 8))) rfl dX2_isTwice_35 ?_
      refine lv_aload_n hx hb dX2_isTwice_36 rfl (lv_at hl 0 rfl) ?_
      refine va_get (D := (dC, dI)) (ci := 3) (v := .ref (ad 8)) (C := RX2) (T := TX2) (N := 27) hx hb hts hin hown hK hP 0 rfl rfl 10 (by decide) hf_33 (fun _ h9 => h9) rfl dX2_isTwice_37 ?_
      refine lv_iload_n hx hb dX2_isTwice_40 rfl (lv_at hl 2 rfl) ?_
      refine f_iald hx hb hK hP 8 7 rfl rfl (k := b) (by omega) (by decide) (v := (nI (sVts S b / 32 % 8))) rfl dX2_isTwice_41 ?_
      refine f_ine (tgt := 79) hx hb (nI_toInt (by omega)) (nI_toInt (by omega)) dX2_isTwice_42 (by decide) (fun c_3 => ?_) (fun c_3 => ?_)
      · refine lv_iconst (v := (nI 0)) hx hb dX2_isTwice_79 (by decide) ?_
        exact f_r0 hx hb hr hlocks (by rw [← Bool.not_eq_true]; simp only [twF, ne_eq, Bool.and_eq_true, Bool.or_eq_true, Bool.not_eq_true', decide_eq_true_eq]; omega) dX2_isTwice_80
      · refine lv_aload_n hx hb dX2_isTwice_45 rfl (lv_at hl 0 rfl) ?_
        refine va_get (D := (dC, dI)) (ci := 3) (v := .ref (ad 9)) (C := RX2) (T := TX2) (N := 27) hx hb hts hin hown hK hP 0 rfl rfl 11 (by decide) hf_36 (fun _ h9 => h9) rfl dX2_isTwice_46 ?_
        refine lv_iload_n hx hb dX2_isTwice_49 rfl (lv_at hl 1 rfl) ?_
        refine f_iald hx hb hK hP 9 8 rfl rfl (k := a) (by omega) (by decide) (v := (nI (sVts S a / 16 % 2))) rfl dX2_isTwice_50 ?_
        refine lv_aload_n hx hb dX2_isTwice_51 rfl (lv_at hl 0 rfl) ?_
        refine va_get (D := (dC, dI)) (ci := 3) (v := .ref (ad 9)) (C := RX2) (T := TX2) (N := 27) hx hb hts hin hown hK hP 0 rfl rfl 11 (by decide) hf_36 (fun _ h9 => h9) rfl dX2_isTwice_52 ?_
        refine lv_iload_n hx hb dX2_isTwice_55 rfl (lv_at hl 2 rfl) ?_
        refine f_iald hx hb hK hP 9 8 rfl rfl (k := b) (by omega) (by decide) (v := (nI (sVts S b / 16 % 2))) rfl dX2_isTwice_56 ?_
        refine f_ine (tgt := 79) hx hb (nI_toInt (by omega)) (nI_toInt (by omega)) dX2_isTwice_57 (by decide) (fun c_4 => ?_) (fun c_4 => ?_)
        · refine lv_iconst (v := (nI 0)) hx hb dX2_isTwice_79 (by decide) ?_
          exact f_r0 hx hb hr hlocks (by rw [← Bool.not_eq_true]; simp only [twF, ne_eq, Bool.and_eq_true, Bool.or_eq_true, Bool.not_eq_true', decide_eq_true_eq]; omega) dX2_isTwice_80
        · refine lv_aload_n hx hb dX2_isTwice_60 rfl (lv_at hl 0 rfl) ?_
          refine va_get (D := (dC, dI)) (ci := 3) (v := .ref (ad 10)) (C := RX2) (T := TX2) (N := 27) hx hb hts hin hown hK hP 0 rfl rfl 12 (by decide) hf_39 (fun _ h9 => h9) rfl dX2_isTwice_61 ?_
          refine lv_iload_n hx hb dX2_isTwice_64 rfl (lv_at hl 1 rfl) ?_
          refine f_iald hx hb hK hP 10 9 rfl rfl (k := a) (by omega) (by decide) (v := (nI (sVts S a % 16))) rfl dX2_isTwice_65 ?_
          refine lv_aload_n hx hb dX2_isTwice_66 rfl (lv_at hl 0 rfl) ?_
          refine va_get (D := (dC, dI)) (ci := 3) (v := .ref (ad 10)) (C := RX2) (T := TX2) (N := 27) hx hb hts hin hown hK hP 0 rfl rfl 12 (by decide) hf_39 (fun _ h9 => h9) rfl dX2_isTwice_67 ?_
          refine lv_iload_n hx hb dX2_isTwice_70 rfl (lv_at hl 2 rfl) ?_
          refine f_iald hx hb hK hP 10 9 rfl rfl (k := b) (by omega) (by decide) (v := (nI (sVts S b % 16))) rfl dX2_isTwice_71 ?_
          refine f_ieq (tgt := 79) hx hb (nI_toInt (by omega)) (nI_toInt (by omega)) dX2_isTwice_72 (by decide) (fun c_5 => ?_) (fun c_5 => ?_)
          · refine lv_iconst (v := (nI 0)) hx hb dX2_isTwice_79 (by decide) ?_
            exact f_r0 hx hb hr hlocks (by rw [← Bool.not_eq_true]; simp only [twF, ne_eq, Bool.and_eq_true, Bool.or_eq_true, Bool.not_eq_true', decide_eq_true_eq]; omega) dX2_isTwice_80
          · refine lv_iconst (v := (nI 1)) hx hb dX2_isTwice_75 (by decide) ?_
            refine lv_goto (tgt := 80) hx hb dX2_isTwice_76 (by decide) ?_
            exact f_r1 hx hb hr hlocks (by simp only [twF, ne_eq, Bool.and_eq_true, Bool.or_eq_true, Bool.not_eq_true', decide_eq_true_eq]; omega) dX2_isTwice_80

abbrev rm_X2_isLock : Room := { frames := 3, cells := 0, slots := 0, locals := 70 }
set_option maxHeartbeats 4000000 in
set_option maxRecDepth 100000 in
theorem c_X2_isLock (l : Launch) (dC : Nat → ClassId) (dI : Nat → Nat → Nat) (ad : Nat → Nat) (cy : Nat → ClassId) (S : St) (a : Nat) (b : Nat) (I : Inv S) (ha : a < sVn S) (hb1 : b < sVn S) : RoI l yX2_isLock wsX2_isLock rm_X2_isLock [.ref (ad 0), .int (nI a), .int (nI b)] (mB dC dI ad cy S) (bI (lkF S (sVts S a) (sVts S b))) := by
  refine Ro_start (cc := cX2_isLock) (maxL := 5) (ret := (some .boolean)) (lv := [(0, .ref (ad 0)), (1, .int (nI a)), (2, .int (nI b))]) (by decide) rfl (Nat.le_of_ble_eq_true rfl) rfl ?_
  intro pp ee ss mm aa bl me co hx hb hr hml hts hown hlocks hnm hB ls hl
  obtain ⟨hP, hK⟩ := hB
  have hin : ∀ w ∈ wsX20, w ∈ wsX2_isLock := fun w h => List.mem_cons_of_mem _ (List.mem_append_right _ h)
  have hf_26 := hts (.fieldLink RX2 26 "FaultEvidenceModel" "who" "[I") (by decide +kernel)
  have hf_30 := hts (.fieldLink RX2 30 "FaultEvidenceModel" "when" "[I") (by decide +kernel)
  have hf_33 := hts (.fieldLink RX2 33 "FaultEvidenceModel" "rounds" "[I") (by decide +kernel)
  have hf_36 := hts (.fieldLink RX2 36 "FaultEvidenceModel" "steps" "[I") (by decide +kernel)
  have hf_39 := hts (.fieldLink RX2 39 "FaultEvidenceModel" "blocks" "[I") (by decide +kernel)
  have I1 := I.n
  have v1 := I.v ha
  have v2 := I.v hb1
  refine lv_aload_n hx hb dX2_isLock_0 rfl (lv_at hl 0 rfl) ?_
  refine va_get (D := (dC, dI)) (ci := 3) (v := .ref (ad 6)) (C := RX2) (T := TX2) (N := 27) hx hb hts hin hown hK hP 0 rfl rfl 8 (by decide) hf_26 (fun _ h9 => h9) rfl dX2_isLock_1 ?_
  refine lv_iload_n hx hb dX2_isLock_4 rfl (lv_at hl 1 rfl) ?_
  refine f_iald hx hb hK hP 6 5 rfl rfl (k := a) (by omega) (by decide) (v := (nI (sVts S a / 256 % 8))) rfl dX2_isLock_5 ?_
  refine lv_aload_n hx hb dX2_isLock_6 rfl (lv_at hl 0 rfl) ?_
  refine va_get (D := (dC, dI)) (ci := 3) (v := .ref (ad 6)) (C := RX2) (T := TX2) (N := 27) hx hb hts hin hown hK hP 0 rfl rfl 8 (by decide) hf_26 (fun _ h9 => h9) rfl dX2_isLock_7 ?_
  refine lv_iload_n hx hb dX2_isLock_10 rfl (lv_at hl 2 rfl) ?_
  refine f_iald hx hb hK hP 6 5 rfl rfl (k := b) (by omega) (by decide) (v := (nI (sVts S b / 256 % 8))) rfl dX2_isLock_11 ?_
  refine f_ine (tgt := 97) hx hb (nI_toInt (by omega)) (nI_toInt (by omega)) dX2_isLock_12 (by decide) (fun c_1 => ?_) (fun c_1 => ?_)
  · refine lv_iconst (v := (nI 0)) hx hb dX2_isLock_97 (by decide) ?_
    exact f_r0 hx hb hr hlocks (by rw [← Bool.not_eq_true]; simp only [lkF, lkg, Bool.and_eq_true, decide_eq_true_eq]; omega) dX2_isLock_98
  · refine lv_aload_n hx hb dX2_isLock_15 rfl (lv_at hl 0 rfl) ?_
    refine va_get (D := (dC, dI)) (ci := 3) (v := .ref (ad 7)) (C := RX2) (T := TX2) (N := 27) hx hb hts hin hown hK hP 0 rfl rfl 9 (by decide) hf_30 (fun _ h9 => h9) rfl dX2_isLock_16 ?_
    refine lv_iload_n hx hb dX2_isLock_19 rfl (lv_at hl 1 rfl) ?_
    refine f_iald hx hb hK hP 7 6 rfl rfl (k := a) (by omega) (by decide) (v := (nI (sVts S a / 2048))) rfl dX2_isLock_20 ?_
    refine lv_aload_n hx hb dX2_isLock_21 rfl (lv_at hl 0 rfl) ?_
    refine va_get (D := (dC, dI)) (ci := 3) (v := .ref (ad 7)) (C := RX2) (T := TX2) (N := 27) hx hb hts hin hown hK hP 0 rfl rfl 9 (by decide) hf_30 (fun _ h9 => h9) rfl dX2_isLock_22 ?_
    refine lv_iload_n hx hb dX2_isLock_25 rfl (lv_at hl 2 rfl) ?_
    refine f_iald hx hb hK hP 7 6 rfl rfl (k := b) (by omega) (by decide) (v := (nI (sVts S b / 2048))) rfl dX2_isLock_26 ?_
    refine f_ine (tgt := 97) hx hb (nI_toInt (by omega)) (nI_toInt (by omega)) dX2_isLock_27 (by decide) (fun c_2 => ?_) (fun c_2 => ?_)
    · refine lv_iconst (v := (nI 0)) hx hb dX2_isLock_97 (by decide) ?_
      exact f_r0 hx hb hr hlocks (by rw [← Bool.not_eq_true]; simp only [lkF, lkg, Bool.and_eq_true, decide_eq_true_eq]; omega) dX2_isLock_98
    · refine lv_aload_n hx hb dX2_isLock_30 rfl (lv_at hl 0 rfl) ?_
      refine va_get (D := (dC, dI)) (ci := 3) (v := .ref (ad 9)) (C := RX2) (T := TX2) (N := 27) hx hb hts hin hown hK hP 0 rfl rfl 11 (by decide) hf_36 (fun _ h9 => h9) rfl dX2_isLock_31 ?_
      refine lv_iload_n hx hb dX2_isLock_34 rfl (lv_at hl 1 rfl) ?_
      refine f_iald hx hb hK hP 9 8 rfl rfl (k := a) (by omega) (by decide) (v := (nI (sVts S a / 16 % 2))) rfl dX2_isLock_35 ?_
      refine lv_iconst (v := (nI 1)) hx hb dX2_isLock_36 (by decide) ?_
      refine f_ine (tgt := 97) hx hb (nI_toInt (by omega)) (nI_toInt (by omega)) dX2_isLock_37 (by decide) (fun c_3 => ?_) (fun c_3 => ?_)
      · refine lv_iconst (v := (nI 0)) hx hb dX2_isLock_97 (by decide) ?_
        exact f_r0 hx hb hr hlocks (by rw [← Bool.not_eq_true]; simp only [lkF, lkg, Bool.and_eq_true, decide_eq_true_eq]; omega) dX2_isLock_98
      · refine lv_aload_n hx hb dX2_isLock_40 rfl (lv_at hl 0 rfl) ?_
        refine va_get (D := (dC, dI)) (ci := 3) (v := .ref (ad 9)) (C := RX2) (T := TX2) (N := 27) hx hb hts hin hown hK hP 0 rfl rfl 11 (by decide) hf_36 (fun _ h9 => h9) rfl dX2_isLock_41 ?_
        refine lv_iload_n hx hb dX2_isLock_44 rfl (lv_at hl 2 rfl) ?_
        refine f_iald hx hb hK hP 9 8 rfl rfl (k := b) (by omega) (by decide) (v := (nI (sVts S b / 16 % 2))) rfl dX2_isLock_45 ?_
        refine f_0ne (tgt := 97) hx hb (nI_toInt (by omega)) dX2_isLock_46 (by decide) (fun c_4 => ?_) (fun c_4 => ?_)
        · refine lv_iconst (v := (nI 0)) hx hb dX2_isLock_97 (by decide) ?_
          exact f_r0 hx hb hr hlocks (by rw [← Bool.not_eq_true]; simp only [lkF, lkg, Bool.and_eq_true, decide_eq_true_eq]; omega) dX2_isLock_98
        · refine lv_aload_n hx hb dX2_isLock_49 rfl (lv_at hl 0 rfl) ?_
          refine va_get (D := (dC, dI)) (ci := 3) (v := .ref (ad 8)) (C := RX2) (T := TX2) (N := 27) hx hb hts hin hown hK hP 0 rfl rfl 10 (by decide) hf_33 (fun _ h9 => h9) rfl dX2_isLock_50 ?_
          refine lv_iload_n hx hb dX2_isLock_53 rfl (lv_at hl 1 rfl) ?_
          refine f_iald hx hb hK hP 8 7 rfl rfl (k := a) (by omega) (by decide) (v := (nI (sVts S a / 32 % 8))) rfl dX2_isLock_54 ?_
          refine lv_aload_n hx hb dX2_isLock_55 rfl (lv_at hl 0 rfl) ?_
          refine va_get (D := (dC, dI)) (ci := 3) (v := .ref (ad 8)) (C := RX2) (T := TX2) (N := 27) hx hb hts hin hown hK hP 0 rfl rfl 10 (by decide) hf_33 (fun _ h9 => h9) rfl dX2_isLock_56 ?_
          refine lv_iload_n hx hb dX2_isLock_59 rfl (lv_at hl 2 rfl) ?_
          refine f_iald hx hb hK hP 8 7 rfl rfl (k := b) (by omega) (by decide) (v := (nI (sVts S b / 32 % 8))) rfl dX2_isLock_60 ?_
          refine f_ige (tgt := 97) hx hb (nI_toInt (by omega)) (nI_toInt (by omega)) dX2_isLock_61 (by decide) (fun c_5 => ?_) (fun c_5 => ?_)
          · refine lv_iconst (v := (nI 0)) hx hb dX2_isLock_97 (by decide) ?_
            exact f_r0 hx hb hr hlocks (by rw [← Bool.not_eq_true]; simp only [lkF, lkg, Bool.and_eq_true, decide_eq_true_eq]; omega) dX2_isLock_98
          · refine lv_aload_n hx hb dX2_isLock_64 rfl (lv_at hl 0 rfl) ?_
            refine va_get (D := (dC, dI)) (ci := 3) (v := .ref (ad 10)) (C := RX2) (T := TX2) (N := 27) hx hb hts hin hown hK hP 0 rfl rfl 12 (by decide) hf_39 (fun _ h9 => h9) rfl dX2_isLock_65 ?_
            refine lv_iload_n hx hb dX2_isLock_68 rfl (lv_at hl 1 rfl) ?_
            refine f_iald hx hb hK hP 10 9 rfl rfl (k := a) (by omega) (by decide) (v := (nI (sVts S a % 16))) rfl dX2_isLock_69 ?_
            refine f_0eq (tgt := 97) hx hb (nI_toInt (by omega)) dX2_isLock_70 (by decide) (fun c_6 => ?_) (fun c_6 => ?_)
            · refine lv_iconst (v := (nI 0)) hx hb dX2_isLock_97 (by decide) ?_
              exact f_r0 hx hb hr hlocks (by rw [← Bool.not_eq_true]; simp only [lkF, lkg, Bool.and_eq_true, decide_eq_true_eq]; omega) dX2_isLock_98
            · refine lv_aload_n hx hb dX2_isLock_73 rfl (lv_at hl 0 rfl) ?_
              refine va_get (D := (dC, dI)) (ci := 3) (v := .ref (ad 10)) (C := RX2) (T := TX2) (N := 27) hx hb hts hin hown hK hP 0 rfl rfl 12 (by decide) hf_39 (fun _ h9 => h9) rfl dX2_isLock_74 ?_
              refine lv_iload_n hx hb dX2_isLock_77 rfl (lv_at hl 2 rfl) ?_
              refine f_iald hx hb hK hP 10 9 rfl rfl (k := b) (by omega) (by decide) (v := (nI (sVts S b % 16))) rfl dX2_isLock_78 ?_
              refine f_0eq (tgt := 97) hx hb (nI_toInt (by omega)) dX2_isLock_79 (by decide) (fun c_7 => ?_) (fun c_7 => ?_)
              · refine lv_iconst (v := (nI 0)) hx hb dX2_isLock_97 (by decide) ?_
                exact f_r0 hx hb hr hlocks (by rw [← Bool.not_eq_true]; simp only [lkF, lkg, Bool.and_eq_true, decide_eq_true_eq]; omega) dX2_isLock_98
              · refine lv_aload_n hx hb dX2_isLock_82 rfl (lv_at hl 0 rfl) ?_
                refine va_get (D := (dC, dI)) (ci := 3) (v := .ref (ad 10)) (C := RX2) (T := TX2) (N := 27) hx hb hts hin hown hK hP 0 rfl rfl 12 (by decide) hf_39 (fun _ h9 => h9) rfl dX2_isLock_83 ?_
                refine lv_iload_n hx hb dX2_isLock_86 rfl (lv_at hl 1 rfl) ?_
                refine f_iald hx hb hK hP 10 9 rfl rfl (k := a) (by omega) (by decide) (v := (nI (sVts S a % 16))) rfl dX2_isLock_87 ?_
                refine lv_aload_n hx hb dX2_isLock_88 rfl (lv_at hl 0 rfl) ?_
                refine va_get (D := (dC, dI)) (ci := 3) (v := .ref (ad 10)) (C := RX2) (T := TX2) (N := 27) hx hb hts hin hown hK hP 0 rfl rfl 12 (by decide) hf_39 (fun _ h9 => h9) rfl dX2_isLock_89 ?_
                refine lv_iload_n hx hb dX2_isLock_92 rfl (lv_at hl 2 rfl) ?_
                refine f_iald hx hb hK hP 10 9 rfl rfl (k := b) (by omega) (by decide) (v := (nI (sVts S b % 16))) rfl dX2_isLock_93 ?_
                refine f_ine (tgt := 99) hx hb (nI_toInt (by omega)) (nI_toInt (by omega)) dX2_isLock_94 (by decide) (fun c_8 => ?_) (fun c_8 => ?_)
                · have hbz : 0 < sVts S b % 16 := by omega
                  have hab : sVts S a / 2048 = sVts S b / 2048 := by omega
                  refine lv_iconst (v := (nI 0)) hx hb dX2_isLock_99 (by decide) ?_
                  refine f_ti (y := (bI false)) rfl ?_
                  refine lv_istore_n (lv' := [(3, .int (bI false)), (0, .ref (ad 0)), (1, .int (nI a)), (2, .int (nI b))]) hx hb dX2_isLock_100 rfl hl (by decide) rfl (fun ls hl => ?_)
                  refine lv_aload_n hx hb dX2_isLock_101 rfl (lv_at hl 1 rfl) ?_
                  refine va_get (D := (dC, dI)) (ci := 3) (v := .ref (ad 8)) (C := RX2) (T := TX2) (N := 27) hx hb hts hin hown hK hP 0 rfl rfl 10 (by decide) hf_33 (fun _ h9 => h9) rfl dX2_isLock_102 ?_
                  refine lv_iload_n hx hb dX2_isLock_105 rfl (lv_at hl 2 rfl) ?_
                  refine f_iald hx hb hK hP 8 7 rfl rfl (k := a) (by omega) (by decide) (v := (nI (sVts S a / 32 % 8))) rfl dX2_isLock_106 ?_
                  refine lv_istore (lv' := [(4, .int (nI (sVts S a / 32 % 8))), (3, .int (bI false)), (0, .ref (ad 0)), (1, .int (nI a)), (2, .int (nI b))]) hx hb dX2_isLock_107 hl (by decide) rfl (fun ls hl => ?_)
                  have loop_109 : ∀ (n : Nat) (q : Nat) (F : Bool), 8 - q < n → F = ex q (ulT S (sVts S b / 2048) (sVts S b % 16) (sVts S a / 32 % 8)) → sVts S a / 32 % 8 ≤ q → q ≤ sVts S b / 32 % 8 → ∀ ls : Array Slot, lv_has ls 5 [(4, .int (nI q)), (3, .int (bI F)), (0, .ref (ad 0)), (1, .int (nI a)), (2, .int (nI b))] → W pp l ee rm_X2_isLock ss mm aa bl me co ss.heap [] 0 0 (MQ bl (vp_Si (fun z_ => z_ = bI (lkF S (sVts S a) (sVts S b)))) aa ss 0 0 (fun _ => False)) (F0 mm 109 ls []) := by
                    intro n
                    induction n with
                    | zero => intro q F hm; exact absurd hm (Nat.not_lt_zero _)
                    | succ n ih_109 =>
                      intro q F hm hF hq hq2 ls hl
                      refine lv_iload hx hb dX2_isLock_109 (lv_at hl 0 rfl) ?_
                      refine lv_aload_n hx hb dX2_isLock_111 rfl (lv_at hl 2 rfl) ?_
                      refine va_get (D := (dC, dI)) (ci := 3) (v := .ref (ad 8)) (C := RX2) (T := TX2) (N := 27) hx hb hts hin hown hK hP 0 rfl rfl 10 (by decide) hf_33 (fun _ h9 => h9) rfl dX2_isLock_112 ?_
                      refine lv_iload_n hx hb dX2_isLock_115 rfl (lv_at hl 4 rfl) ?_
                      refine f_iald hx hb hK hP 8 7 rfl rfl (k := b) (by omega) (by decide) (v := (nI (sVts S b / 32 % 8))) rfl dX2_isLock_116 ?_
                      refine f_ige (tgt := 157) hx hb (nI_toInt (by omega)) (nI_toInt (by omega)) dX2_isLock_117 (by decide) (fun c_9 => ?_) (fun c_9 => ?_)
                      · refine lv_iload_n hx hb dX2_isLock_157 rfl (lv_at hl 1 rfl) ?_
                        refine f_bne (tgt := 165) hx hb dX2_isLock_158 (by decide) (fun c_10 => ?_) (fun c_10 => ?_)
                        · refine lv_iconst (v := (nI 0)) hx hb dX2_isLock_165 (by decide) ?_
                          exact f_r0 hx hb hr hlocks (by have e : q = sVts S b / 32 % 8 := (by omega); have hu : ulF S (sVts S b / 2048) (sVts S b % 16) (sVts S a / 32 % 8) (sVts S b / 32 % 8) = true := (by unfold ulF; rw [← e, ← hF]; assumption); simp [lkF, hu]) dX2_isLock_166
                        · refine lv_iconst (v := (nI 1)) hx hb dX2_isLock_161 (by decide) ?_
                          refine lv_goto (tgt := 166) hx hb dX2_isLock_162 (by decide) ?_
                          exact f_r1 hx hb hr hlocks (by have e : q = sVts S b / 32 % 8 := (by omega); have hu : ulF S (sVts S b / 2048) (sVts S b % 16) (sVts S a / 32 % 8) (sVts S b / 32 % 8) = false := (by unfold ulF; rw [← e, ← hF]; assumption); simp [lkF, lkg, hu]; omega) dX2_isLock_166
                      · refine lv_iload_n hx hb dX2_isLock_120 rfl (lv_at hl 1 rfl) ?_
                        refine f_bne (tgt := 145) hx hb dX2_isLock_121 (by decide) (fun c_11 => ?_) (fun c_11 => ?_)
                        · refine lv_iconst (v := (nI 1)) hx hb dX2_isLock_145 (by decide) ?_
                          refine lv_goto (tgt := 150) hx hb dX2_isLock_146 (by decide) ?_
                          refine f_ti (y := (bI true)) rfl ?_
                          refine lv_istore_n (lv' := [(3, .int (bI true)), (4, .int (nI q)), (0, .ref (ad 0)), (1, .int (nI a)), (2, .int (nI b))]) hx hb dX2_isLock_150 rfl hl (by decide) rfl (fun ls hl => ?_)
                          refine lv_iinc (v := (nI (q + 1))) (lv' := [(4, .int (nI (q + 1))), (3, .int (bI true)), (0, .ref (ad 0)), (1, .int (nI a)), (2, .int (nI b))]) hx hb dX2_isLock_151 hl (k := 1) rfl (nI_add q 1) (by decide) rfl (fun ls hl => ?_)
                          refine lv_goto (tgt := 109) hx hb dX2_isLock_154 (by decide) ?_
                          exact ih_109 (q + 1) true (by omega) (by simp [ex, ulT, bk_ms, hq, hbz, ← hF, c_11]) (by omega) (by omega) ls (lv_sub hl [0, 1, 2, 3, 4] rfl)
                        · refine lv_aload_n hx hb dX2_isLock_124 rfl (lv_at hl 2 rfl) ?_
                          refine lv_aload_n hx hb dX2_isLock_125 rfl (lv_at hl 2 rfl) ?_
                          refine va_get (D := (dC, dI)) (ci := 3) (v := .ref (ad 7)) (C := RX2) (T := TX2) (N := 27) hx hb hts hin hown hK hP 0 rfl rfl 9 (by decide) hf_30 (fun _ h9 => h9) rfl dX2_isLock_126 ?_
                          refine lv_iload_n hx hb dX2_isLock_129 rfl (lv_at hl 3 rfl) ?_
                          refine f_iald hx hb hK hP 7 6 rfl rfl (k := a) (by omega) (by decide) (v := (nI (sVts S a / 2048))) rfl dX2_isLock_130 ?_
                          refine lv_iload hx hb dX2_isLock_131 (lv_at hl 0 rfl) ?_
                          refine lv_aload_n hx hb dX2_isLock_133 rfl (lv_at hl 2 rfl) ?_
                          refine va_get (D := (dC, dI)) (ci := 3) (v := .ref (ad 10)) (C := RX2) (T := TX2) (N := 27) hx hb hts hin hown hK hP 0 rfl rfl 12 (by decide) hf_39 (fun _ h9 => h9) rfl dX2_isLock_134 ?_
                          refine lv_iload_n hx hb dX2_isLock_137 rfl (lv_at hl 4 rfl) ?_
                          refine f_iald hx hb hK hP 10 9 rfl rfl (k := b) (by omega) (by decide) (v := (nI (sVts S b % 16))) rfl dX2_isLock_138 ?_
                          refine f_cVi (As := [.int (nI (sVts S a / 2048)), .int (nI q), .int (nI (sVts S b % 16))]) (rest := []) ⟨hx, hb, hml, hown, hts⟩ (c_X2_isBacked l dC dI ad cy S (sVts S a / 2048) q (sVts S b % 16) I (by omega) (by omega) (by omega)) (cwV 3 hts gX2_isLock_X2_isBacked rfl rfl rfl (by decide +kernel) ⟨Nat.le_of_ble_eq_true rfl, Nat.le_of_ble_eq_true rfl⟩) roB_bl (va_recv hK hP (ci := 3) (q0 := 0) rfl rfl) (roB_at hP hK) rfl hl.1 rfl (Nat.le_of_ble_eq_true rfl) dX2_isLock_139 ⟨Nat.zero_le _, Nat.zero_le _⟩ ?_
                          refine f_beq (tgt := 149) hx hb dX2_isLock_142 (by decide) (fun c_12 => ?_) (fun c_12 => ?_)
                          · rw [hab] at c_12
                            refine lv_iconst (v := (nI 0)) hx hb dX2_isLock_149 (by decide) ?_
                            refine f_ti (y := (bI false)) rfl ?_
                            refine lv_istore_n (lv' := [(3, .int (bI false)), (4, .int (nI q)), (0, .ref (ad 0)), (1, .int (nI a)), (2, .int (nI b))]) hx hb dX2_isLock_150 rfl hl (by decide) rfl (fun ls hl => ?_)
                            refine lv_iinc (v := (nI (q + 1))) (lv' := [(4, .int (nI (q + 1))), (3, .int (bI false)), (0, .ref (ad 0)), (1, .int (nI a)), (2, .int (nI b))]) hx hb dX2_isLock_151 hl (k := 1) rfl (nI_add q 1) (by decide) rfl (fun ls hl => ?_)
                            refine lv_goto (tgt := 109) hx hb dX2_isLock_154 (by decide) ?_
                            exact ih_109 (q + 1) false (by omega) (by simp [ex, ulT, bk_ms, hq, hbz, ← hF, c_11, c_12]) (by omega) (by omega) ls (lv_sub hl [0, 1, 2, 3, 4] rfl)
                          · rw [hab] at c_12
                            refine lv_iconst (v := (nI 1)) hx hb dX2_isLock_145 (by decide) ?_
                            refine lv_goto (tgt := 150) hx hb dX2_isLock_146 (by decide) ?_
                            refine f_ti (y := (bI true)) rfl ?_
                            refine lv_istore_n (lv' := [(3, .int (bI true)), (4, .int (nI q)), (0, .ref (ad 0)), (1, .int (nI a)), (2, .int (nI b))]) hx hb dX2_isLock_150 rfl hl (by decide) rfl (fun ls hl => ?_)
                            refine lv_iinc (v := (nI (q + 1))) (lv' := [(4, .int (nI (q + 1))), (3, .int (bI true)), (0, .ref (ad 0)), (1, .int (nI a)), (2, .int (nI b))]) hx hb dX2_isLock_151 hl (k := 1) rfl (nI_add q 1) (by decide) rfl (fun ls hl => ?_)
                            refine lv_goto (tgt := 109) hx hb dX2_isLock_154 (by decide) ?_
                            exact ih_109 (q + 1) true (by omega) (by simp [ex, ulT, bk_ms, hq, hbz, ← hF, c_11, c_12]) (by omega) (by omega) ls (lv_sub hl [0, 1, 2, 3, 4] rfl)
                  exact loop_109 (8 - (sVts S a / 32 % 8) + 1) (sVts S a / 32 % 8) false (Nat.lt_succ_self _) ((ex_no (fun i hi => by have e : ¬ sVts S a / 32 % 8 ≤ i := (by omega); simp [ulT, e])).symm) (Nat.le_refl _) (by omega) ls (lv_sub hl [0, 1, 2, 3, 4] rfl)
                · refine lv_iconst (v := (nI 0)) hx hb dX2_isLock_97 (by decide) ?_
                  exact f_r0 hx hb hr hlocks (by rw [← Bool.not_eq_true]; simp only [lkF, lkg, Bool.and_eq_true, decide_eq_true_eq]; omega) dX2_isLock_98

abbrev rm_X2_isBare : Room := { frames := 3, cells := 0, slots := 0, locals := 70 }
set_option maxHeartbeats 4000000 in
set_option maxRecDepth 100000 in
theorem c_X2_isBare (l : Launch) (dC : Nat → ClassId) (dI : Nat → Nat → Nat) (ad : Nat → Nat) (cy : Nat → ClassId) (S : St) (a : Nat) (I : Inv S) (ha : a < sVn S) : RoI l yX2_isBare wsX2_isBare rm_X2_isBare [.ref (ad 0), .int (nI a)] (mB dC dI ad cy S) (bI (brF S (sVts S a))) := by
  refine Ro_start (cc := cX2_isBare) (maxL := 2) (ret := (some .boolean)) (lv := [(0, .ref (ad 0)), (1, .int (nI a))]) (by decide) rfl (Nat.le_of_ble_eq_true rfl) rfl ?_
  intro pp ee ss mm aa bl me co hx hb hr hml hts hown hlocks hnm hB ls hl
  obtain ⟨hP, hK⟩ := hB
  have hin : ∀ w ∈ wsX20, w ∈ wsX2_isBare := fun w h => List.mem_cons_of_mem _ (List.mem_append_right _ h)
  have hf_30 := hts (.fieldLink RX2 30 "FaultEvidenceModel" "when" "[I") (by decide +kernel)
  have hf_33 := hts (.fieldLink RX2 33 "FaultEvidenceModel" "rounds" "[I") (by decide +kernel)
  have hf_36 := hts (.fieldLink RX2 36 "FaultEvidenceModel" "steps" "[I") (by decide +kernel)
  have hf_39 := hts (.fieldLink RX2 39 "FaultEvidenceModel" "blocks" "[I") (by decide +kernel)
  have I1 := I.n
  have v1 := I.v ha
  refine lv_aload_n hx hb dX2_isBare_0 rfl (lv_at hl 0 rfl) ?_
  refine va_get (D := (dC, dI)) (ci := 3) (v := .ref (ad 9)) (C := RX2) (T := TX2) (N := 27) hx hb hts hin hown hK hP 0 rfl rfl 11 (by decide) hf_36 (fun _ h9 => h9) rfl dX2_isBare_1 ?_
  refine lv_iload_n hx hb dX2_isBare_4 rfl (lv_at hl 1 rfl) ?_
  refine f_iald hx hb hK hP 9 8 rfl rfl (k := a) (by omega) (by decide) (v := (nI (sVts S a / 16 % 2))) rfl dX2_isBare_5 ?_
  refine lv_iconst (v := (nI 1)) hx hb dX2_isBare_6 (by decide) ?_
  refine f_ine (tgt := 48) hx hb (nI_toInt (by omega)) (nI_toInt (by omega)) dX2_isBare_7 (by decide) (fun c_1 => ?_) (fun c_1 => ?_)
  · refine lv_iconst (v := (nI 0)) hx hb dX2_isBare_48 (by decide) ?_
    exact f_r0 hx hb hr hlocks (by rw [← Bool.not_eq_true]; simp [brF, lkg, bk_ms] <;> omega) dX2_isBare_49
  · refine lv_aload_n hx hb dX2_isBare_10 rfl (lv_at hl 0 rfl) ?_
    refine va_get (D := (dC, dI)) (ci := 3) (v := .ref (ad 10)) (C := RX2) (T := TX2) (N := 27) hx hb hts hin hown hK hP 0 rfl rfl 12 (by decide) hf_39 (fun _ h9 => h9) rfl dX2_isBare_11 ?_
    refine lv_iload_n hx hb dX2_isBare_14 rfl (lv_at hl 1 rfl) ?_
    refine f_iald hx hb hK hP 10 9 rfl rfl (k := a) (by omega) (by decide) (v := (nI (sVts S a % 16))) rfl dX2_isBare_15 ?_
    refine f_0le (tgt := 48) hx hb (nI_toInt (by omega)) dX2_isBare_16 (by decide) (fun c_2 => ?_) (fun c_2 => ?_)
    · refine lv_iconst (v := (nI 0)) hx hb dX2_isBare_48 (by decide) ?_
      exact f_r0 hx hb hr hlocks (by rw [← Bool.not_eq_true]; simp [brF, lkg, bk_ms] <;> omega) dX2_isBare_49
    · refine lv_aload_n hx hb dX2_isBare_19 rfl (lv_at hl 0 rfl) ?_
      refine lv_aload_n hx hb dX2_isBare_20 rfl (lv_at hl 0 rfl) ?_
      refine va_get (D := (dC, dI)) (ci := 3) (v := .ref (ad 7)) (C := RX2) (T := TX2) (N := 27) hx hb hts hin hown hK hP 0 rfl rfl 9 (by decide) hf_30 (fun _ h9 => h9) rfl dX2_isBare_21 ?_
      refine lv_iload_n hx hb dX2_isBare_24 rfl (lv_at hl 1 rfl) ?_
      refine f_iald hx hb hK hP 7 6 rfl rfl (k := a) (by omega) (by decide) (v := (nI (sVts S a / 2048))) rfl dX2_isBare_25 ?_
      refine lv_aload_n hx hb dX2_isBare_26 rfl (lv_at hl 0 rfl) ?_
      refine va_get (D := (dC, dI)) (ci := 3) (v := .ref (ad 8)) (C := RX2) (T := TX2) (N := 27) hx hb hts hin hown hK hP 0 rfl rfl 10 (by decide) hf_33 (fun _ h9 => h9) rfl dX2_isBare_27 ?_
      refine lv_iload_n hx hb dX2_isBare_30 rfl (lv_at hl 1 rfl) ?_
      refine f_iald hx hb hK hP 8 7 rfl rfl (k := a) (by omega) (by decide) (v := (nI (sVts S a / 32 % 8))) rfl dX2_isBare_31 ?_
      refine lv_aload_n hx hb dX2_isBare_32 rfl (lv_at hl 0 rfl) ?_
      refine va_get (D := (dC, dI)) (ci := 3) (v := .ref (ad 10)) (C := RX2) (T := TX2) (N := 27) hx hb hts hin hown hK hP 0 rfl rfl 12 (by decide) hf_39 (fun _ h9 => h9) rfl dX2_isBare_33 ?_
      refine lv_iload_n hx hb dX2_isBare_36 rfl (lv_at hl 1 rfl) ?_
      refine f_iald hx hb hK hP 10 9 rfl rfl (k := a) (by omega) (by decide) (v := (nI (sVts S a % 16))) rfl dX2_isBare_37 ?_
      refine f_cVi (As := [.int (nI (sVts S a / 2048)), .int (nI (sVts S a / 32 % 8)), .int (nI (sVts S a % 16))]) (rest := []) ⟨hx, hb, hml, hown, hts⟩ (c_X2_isBacked l dC dI ad cy S (sVts S a / 2048) (sVts S a / 32 % 8) (sVts S a % 16) I (by omega) (by omega) (by omega)) (cwV 3 hts gX2_isBare_X2_isBacked rfl rfl rfl (by decide +kernel) ⟨Nat.le_of_ble_eq_true rfl, Nat.le_of_ble_eq_true rfl⟩) roB_bl (va_recv hK hP (ci := 3) (q0 := 0) rfl rfl) (roB_at hP hK) rfl hl.1 rfl (Nat.le_of_ble_eq_true rfl) dX2_isBare_38 ⟨Nat.zero_le _, Nat.zero_le _⟩ ?_
      refine f_bne (tgt := 48) hx hb dX2_isBare_41 (by decide) (fun c_3 => ?_) (fun c_3 => ?_)
      · refine lv_iconst (v := (nI 0)) hx hb dX2_isBare_48 (by decide) ?_
        exact f_r0 hx hb hr hlocks (by rw [← Bool.not_eq_true]; simp [brF, lkg, bk_ms, c_3] <;> omega) dX2_isBare_49
      · refine lv_iconst (v := (nI 1)) hx hb dX2_isBare_44 (by decide) ?_
        refine lv_goto (tgt := 49) hx hb dX2_isBare_45 (by decide) ?_
        exact f_r1 hx hb hr hlocks (by simp [brF, lkg, bk_ms, c_3] <;> omega) dX2_isBare_49

abbrev rm_X2_isBreak : Room := { frames := 4, cells := 0, slots := 0, locals := 94 }
set_option maxHeartbeats 4000000 in
set_option maxRecDepth 100000 in
theorem c_X2_isBreak (l : Launch) (dC : Nat → ClassId) (dI : Nat → Nat → Nat) (ad : Nat → Nat) (cy : Nat → ClassId) (S : St) (q : Nat) (a : Nat) (b : Nat) (I : Inv S) (hq : q < 3) (ha : a < sVn S) (hb1 : b < sVn S) : RoI l yX2_isBreak wsX2_isBreak rm_X2_isBreak [.ref (ad 0), .int (nI q), .int (nI a), .int (nI b)] (mB dC dI ad cy S) (bI (ibF S q a b)) := by
  refine Ro_start (cc := cX2_isBreak) (maxL := 4) (ret := (some .boolean)) (lv := [(0, .ref (ad 0)), (1, .int (nI q)), (2, .int (nI a)), (3, .int (nI b))]) (by decide) rfl (Nat.le_of_ble_eq_true rfl) rfl ?_
  intro pp ee ss mm aa bl me co hx hb hr hml hts hown hlocks hnm hB ls hl
  obtain ⟨hP, hK⟩ := hB
  have I1 := I.n
  have v1 := I.v ha
  have v2 := I.v hb1
  refine lv_iload_n hx hb dX2_isBreak_0 rfl (lv_at hl 1 rfl) ?_
  refine f_0ne (tgt := 11) hx hb (nI_toInt (by omega)) dX2_isBreak_1 (by decide) (fun c_1 => ?_) (fun c_1 => ?_)
  · refine lv_iload_n hx hb dX2_isBreak_11 rfl (lv_at hl 1 rfl) ?_
    refine lv_iconst (v := (nI 1)) hx hb dX2_isBreak_12 (by decide) ?_
    refine f_ine (tgt := 25) hx hb (nI_toInt (by omega)) (nI_toInt (by omega)) dX2_isBreak_13 (by decide) (fun c_2 => ?_) (fun c_2 => ?_)
    · refine lv_iload_n hx hb dX2_isBreak_25 rfl (lv_at hl 2 rfl) ?_
      refine lv_iload_n hx hb dX2_isBreak_26 rfl (lv_at hl 3 rfl) ?_
      refine f_ine (tgt := 42) hx hb (nI_toInt (by omega)) (nI_toInt (by omega)) dX2_isBreak_27 (by decide) (fun c_3 => ?_) (fun c_3 => ?_)
      · refine lv_iconst (v := (nI 0)) hx hb dX2_isBreak_42 (by decide) ?_
        exact f_r0 hx hb hr hlocks (by have e : q = 2 := (by omega); rw [← Bool.not_eq_true]; simp [ibF, e] <;> omega) dX2_isBreak_43
      · refine lv_aload_n hx hb dX2_isBreak_30 rfl (lv_at hl 0 rfl) ?_
        refine lv_iload_n hx hb dX2_isBreak_31 rfl (lv_at hl 2 rfl) ?_
        refine f_cVi (As := [.int (nI a)]) (rest := []) ⟨hx, hb, hml, hown, hts⟩ (c_X2_isBare l dC dI ad cy S a I (by omega)) (cwV 1 hts gX2_isBreak_X2_isBare rfl rfl rfl (by decide +kernel) ⟨Nat.le_of_ble_eq_true rfl, Nat.le_of_ble_eq_true rfl⟩) roB_bl (va_recv hK hP (ci := 3) (q0 := 0) rfl rfl) (roB_at hP hK) rfl hl.1 rfl (Nat.le_of_ble_eq_true rfl) dX2_isBreak_32 ⟨Nat.zero_le _, Nat.zero_le _⟩ ?_
        refine f_beq (tgt := 42) hx hb dX2_isBreak_35 (by decide) (fun c_4 => ?_) (fun c_4 => ?_)
        · refine lv_iconst (v := (nI 0)) hx hb dX2_isBreak_42 (by decide) ?_
          exact f_r0 hx hb hr hlocks (by have e : q = 2 := (by omega); rw [← Bool.not_eq_true]; simp [ibF, e, c_4] <;> omega) dX2_isBreak_43
        · refine lv_iconst (v := (nI 1)) hx hb dX2_isBreak_38 (by decide) ?_
          refine lv_goto (tgt := 43) hx hb dX2_isBreak_39 (by decide) ?_
          exact f_r1 hx hb hr hlocks (by have e : q = 2 := (by omega); simp [ibF, e, c_4]; omega) dX2_isBreak_43
    · refine lv_aload_n hx hb dX2_isBreak_16 rfl (lv_at hl 0 rfl) ?_
      refine lv_iload_n hx hb dX2_isBreak_17 rfl (lv_at hl 2 rfl) ?_
      refine lv_iload_n hx hb dX2_isBreak_18 rfl (lv_at hl 3 rfl) ?_
      refine f_cVi (As := [.int (nI a), .int (nI b)]) (rest := []) ⟨hx, hb, hml, hown, hts⟩ (c_X2_isLock l dC dI ad cy S a b I (by omega) (by omega)) (cwV 2 hts gX2_isBreak_X2_isLock rfl rfl rfl (by decide +kernel) ⟨Nat.le_of_ble_eq_true rfl, Nat.le_of_ble_eq_true rfl⟩) roB_bl (va_recv hK hP (ci := 3) (q0 := 0) rfl rfl) (roB_at hP hK) rfl hl.1 rfl (Nat.le_of_ble_eq_true rfl) dX2_isBreak_19 ⟨Nat.zero_le _, Nat.zero_le _⟩ ?_
      refine lv_goto (tgt := 43) hx hb dX2_isBreak_22 (by decide) ?_
      exact f_rb hx hb hr hlocks (by have e : q = 1 := (by omega); simp [ibF, e]) dX2_isBreak_43
  · refine lv_aload_n hx hb dX2_isBreak_4 rfl (lv_at hl 0 rfl) ?_
    refine lv_iload_n hx hb dX2_isBreak_5 rfl (lv_at hl 2 rfl) ?_
    refine lv_iload_n hx hb dX2_isBreak_6 rfl (lv_at hl 3 rfl) ?_
    refine f_cVi (As := [.int (nI a), .int (nI b)]) (rest := []) ⟨hx, hb, hml, hown, hts⟩ (c_X2_isTwice l dC dI ad cy S a b I (by omega) (by omega)) (cwV 2 hts gX2_isBreak_X2_isTwice rfl rfl rfl (by decide +kernel) ⟨Nat.le_of_ble_eq_true rfl, Nat.le_of_ble_eq_true rfl⟩) roB_bl (va_recv hK hP (ci := 3) (q0 := 0) rfl rfl) (roB_at hP hK) rfl hl.1 rfl (Nat.le_of_ble_eq_true rfl) dX2_isBreak_7 ⟨Nat.zero_le _, Nat.zero_le _⟩ ?_
    exact f_rb hx hb hr hlocks (by have e : q = 0 := (by omega); simp [ibF, e]) dX2_isBreak_10
