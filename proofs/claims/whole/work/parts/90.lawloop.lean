/-! the law's loop -/
set_option maxHeartbeats 4000000 in
set_option maxRecDepth 100000 in
theorem law_loop {p9 : Program} {l9 : Launch} {e9 : Env} {s9 : State} {m9 : MethodId} {bl : List Frame} {me : Method} {c9 : Code} {dC : Nat → ClassId} {dI : Nat → Nat → Nat} {b9 L9 : Nat} {xs : Nat → Int32} (hL : L9 ≤ 3072) (C0 : lw_At p9 s9 m9 me c9 b9 L9 xs) {xa : Nat → Nat} {xc : Nat → ClassId} {ma : Nat → Nat} {mc : Nat → ClassId} {mi t0 t1 t2 : Nat} (hXs : xsB mi t0 (lA s9) s9) (hSt : stB t1 t2 (lA s9) s9) : ∀ (n9 i9 j9 : Nat), i9 = 6 * j9 → i9 ≤ L9 → L9 < i9 + n9 → ∀ (S : St) (u9 : LU) (H : Heap) (locs : List Loc), LSt dC dI xa xc ma mc t0 s9 S u9 j9 H locs → ∀ ls : Array Slot, lv_has ls 4 [(0, .ref b9), (1, .ref (xa 0)), (2, .ref (ma 0)), (3, .int (nI i9))] → W p9 l9 e9 room_1 s9 m9 #[Value.ref b9] bl me c9 H locs (32 + 2 * j9) (17271 + 1007 * j9) (lw_Z bl #[Value.ref b9] s9) (F0 m9 18 ls []) := by
  obtain ⟨hx, hb, hr, hml, hown, hts0, hX, hbl, hlocks, hgv⟩ := id C0
  have hbA : ¬ lA s9 b9 := Nat.not_le.mpr hbl
  intro n9
  induction n9 with
  | zero =>
    intro i9 j9 h1 h2 h3
    exact absurd h3 (by omega)
  | succ n9 ih =>
    intro i9 j9 hi hiL hin S u9 H locs hG ls hl
    have hS := hG.2.2.2.2.2.2.2
    refine lv_iload_n hx hb dL_law_18 rfl (lv_at hl 3 rfl) ?_
    refine lv_aload_n hx hb dL_law_19 rfl (lv_at hl 0 rfl) ?_
    refine va_slen hx hb hX hbl hbA hS dL_law_20 ?_
    refine f_ti (y := nI L9) rfl ?_
    refine lv_bipush (v := nI 6) hx hb dL_law_21 (by decide) ?_
    refine lv_isub hx hb dL_law_23 ?_
    refine f_igt (tgt := 851) hx hb (nI_toInt (by omega)) (pk_sub_toInt (by omega) (by omega)) dL_law_24 (by decide) (fun c_1 => ?_) (fun c_1 => ?_)
    · refine lv_iconst (v := 1) hx hb dL_law_851 (by decide) ?_
      refine va_forget (fun q9 hq => hS.2.2 q9 hq) ?_
      refine W.widen (k := 600000) (n := 7302250) (by omega) (by omega) ?_
      exact lw_ret hx hb hr hlocks dL_law_852
    · have hiL : i9 + 6 ≤ L9 := by omega
      have kk : ∀ (S1 : St) (u1 : LU) (H1 : Heap) (locs1 : List Loc), LSt dC dI xa xc ma mc t0 s9 S1 u1 (j9 + 1) H1 locs1 → W p9 l9 e9 room_1 s9 m9 #[Value.ref b9] bl me c9 H1 locs1 (32 + 2 * (j9 + 1)) (17271 + 1007 * (j9 + 1)) (lw_Z bl #[Value.ref b9] s9) (F0 m9 845 ls []) := by
        intro S1 u1 H1 locs1 hG1
        refine lv_iinc (v := nI (i9 + 6)) (lv' := [(3, .int (nI (i9 + 6))), (0, .ref b9), (1, .ref (xa 0)), (2, .ref (ma 0))]) hx hb dL_law_845 hl (k := 3) rfl (by rw [show Int32.ofInt 6 = nI 6 by decide]; exact nI_add _ _) (by decide) rfl (fun ls hl => ?_)
        refine lv_goto (tgt := 18) hx hb dL_law_848 (by decide) ?_
        exact ih (i9 + 6) (j9 + 1) (by omega) (by omega) (by omega) S1 u1 H1 locs1 hG1 ls (lv_sub hl [1, 2, 3, 0] rfl)
      refine lv_aload_n hx hb dL_law_27 rfl (lv_at hl 0 rfl) ?_
      refine lv_iload_n hx hb dL_law_28 rfl (lv_at hl 3 rfl) ?_
      refine va_sld hx hb hX hbl hbA hS (i := nI i9) (vp_in_nI (by omega) (by omega)) dL_law_29 ?_
      refine lv_bipush (v := 31) hx hb dL_law_30 (by decide) ?_
      refine lv_iand hx hb dL_law_32 ?_
      by_cases c_10 : Int32.toInt (xs (nI i9).toNatClampNeg &&& 31) = 0
      · refine lv_tableIn (tgt := 116) hx hb dL_law_33 (by omega) (by omega) (off := 83) (by rw [c_10]; rfl) (by decide) ?_
        exact law_node hL C0 hXs hSt hi hiL hG hl kk
      by_cases c_11 : Int32.toInt (xs (nI i9).toNatClampNeg &&& 31) = 1
      · refine lv_tableIn (tgt := 169) hx hb dL_law_33 (by omega) (by omega) (off := 136) (by rw [c_11]; rfl) (by decide) ?_
        exact law_add hL C0 hXs hSt hi hiL hG hl kk
      by_cases c_12 : Int32.toInt (xs (nI i9).toNatClampNeg &&& 31) = 2
      · refine lv_tableIn (tgt := 233) hx hb dL_law_33 (by omega) (by omega) (off := 200) (by rw [c_12]; rfl) (by decide) ?_
        exact law_next hL C0 hXs hSt hi hiL hG hl kk
      by_cases c_13 : Int32.toInt (xs (nI i9).toNatClampNeg &&& 31) = 3
      · refine lv_tableIn (tgt := 246) hx hb dL_law_33 (by omega) (by omega) (off := 213) (by rw [c_13]; rfl) (by decide) ?_
        exact law_set hL C0 hXs hSt hi hiL hG hl kk
      by_cases c_14 : Int32.toInt (xs (nI i9).toNatClampNeg &&& 31) = 4
      · refine lv_tableIn (tgt := 310) hx hb dL_law_33 (by omega) (by omega) (off := 277) (by rw [c_14]; rfl) (by decide) ?_
        exact law_vote hL C0 hXs hSt hi hiL hG hl kk
      by_cases c_15 : Int32.toInt (xs (nI i9).toNatClampNeg &&& 31) = 5
      · refine lv_tableIn (tgt := 373) hx hb dL_law_33 (by omega) (by omega) (off := 340) (by rw [c_15]; rfl) (by decide) ?_
        exact law_may hL C0 hXs hSt hi hiL hG hl kk
      by_cases c_16 : Int32.toInt (xs (nI i9).toNatClampNeg &&& 31) = 6
      · refine lv_tableIn (tgt := 436) hx hb dL_law_33 (by omega) (by omega) (off := 403) (by rw [c_16]; rfl) (by decide) ?_
        exact law_accuse hL C0 hXs hSt hi hiL hG hl kk
      by_cases c_17 : Int32.toInt (xs (nI i9).toNatClampNeg &&& 31) = 7
      · refine lv_tableIn (tgt := 490) hx hb dL_law_33 (by omega) (by omega) (off := 457) (by rw [c_17]; rfl) (by decide) ?_
        exact law_about hL C0 hXs hSt hi hiL hG hl kk
      by_cases c_18 : Int32.toInt (xs (nI i9).toNatClampNeg &&& 31) = 8
      · refine lv_tableIn (tgt := 514) hx hb dL_law_33 (by omega) (by omega) (off := 481) (by rw [c_18]; rfl) (by decide) ?_
        exact law_holds hL C0 hXs hSt hi hiL hG hl kk
      by_cases c_19 : Int32.toInt (xs (nI i9).toNatClampNeg &&& 31) = 9
      · refine lv_tableIn (tgt := 548) hx hb dL_law_33 (by omega) (by omega) (off := 515) (by rw [c_19]; rfl) (by decide) ?_
        exact law_said hL C0 hXs hSt hi hiL hG hl kk
      by_cases c_20 : Int32.toInt (xs (nI i9).toNatClampNeg &&& 31) = 10
      · refine lv_tableIn (tgt := 581) hx hb dL_law_33 (by omega) (by omega) (off := 548) (by rw [c_20]; rfl) (by decide) ?_
        exact law_weight hL C0 hXs hSt hi hiL hG hl kk
      by_cases c_21 : Int32.toInt (xs (nI i9).toNatClampNeg &&& 31) = 11
      · refine lv_tableIn (tgt := 615) hx hb dL_law_33 (by omega) (by omega) (off := 582) (by rw [c_21]; rfl) (by decide) ?_
        exact law_backed hL C0 hXs hSt hi hiL hG hl kk
      by_cases c_22 : Int32.toInt (xs (nI i9).toNatClampNeg &&& 31) = 12
      · refine lv_tableIn (tgt := 669) hx hb dL_law_33 (by omega) (by omega) (off := 636) (by rw [c_22]; rfl) (by decide) ?_
        exact law_certain hL C0 hXs hSt hi hiL hG hl kk
      by_cases c_23 : Int32.toInt (xs (nI i9).toNatClampNeg &&& 31) = 13
      · refine lv_tableIn (tgt := 702) hx hb dL_law_33 (by omega) (by omega) (off := 669) (by rw [c_23]; rfl) (by decide) ?_
        exact law_breaks hL C0 hXs hSt hi hiL hG hl kk
      by_cases c_24 : Int32.toInt (xs (nI i9).toNatClampNeg &&& 31) = 14
      · refine lv_tableIn (tgt := 735) hx hb dL_law_33 (by omega) (by omega) (off := 702) (by rw [c_24]; rfl) (by decide) ?_
        exact law_broken hL C0 hXs hSt hi hiL hG hl kk
      by_cases c_25 : Int32.toInt (xs (nI i9).toNatClampNeg &&& 31) = 15
      · refine lv_tableIn (tgt := 788) hx hb dL_law_33 (by omega) (by omega) (off := 755) (by rw [c_25]; rfl) (by decide) ?_
        exact law_named hL C0 hXs hSt hi hiL hG hl kk
      by_cases c_26 : Int32.toInt (xs (nI i9).toNatClampNeg &&& 31) = 16
      · refine lv_tableIn (tgt := 811) hx hb dL_law_33 (by omega) (by omega) (off := 778) (by rw [c_26]; rfl) (by decide) ?_
        exact law_taken hL C0 hXs hSt hi hiL hG hl kk
      refine lv_tableOut (tgt := 845) hx hb dL_law_33 (by omega) (by decide) ?_
      refine W.widen (k := 32 + 2 * (j9 + 1)) (n := 17271 + 1007 * (j9 + 1)) (by omega) (by omega) ?_
      obtain ⟨g1, g2, g3, g4⟩ := hG
      exact kk S u9 H locs ⟨g1, g2, Nat.le_succ_of_le g3, g4⟩
