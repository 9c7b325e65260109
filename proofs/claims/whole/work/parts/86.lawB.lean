/-! the law: one call of each side -/
set_option maxHeartbeats 4000000 in
set_option maxRecDepth 100000 in
theorem law_may {p9 : Program} {l9 : Launch} {e9 : Env} {s9 : State} {m9 : MethodId} {bl : List Frame} {me : Method} {c9 : Code} {dC : Nat → ClassId} {dI : Nat → Nat → Nat} {b9 L9 : Nat} {xs : Nat → Int32} (hL : L9 ≤ 3072) (C0 : lw_At p9 s9 m9 me c9 b9 L9 xs) {xa : Nat → Nat} {xc : Nat → ClassId} {ma : Nat → Nat} {mc : Nat → ClassId} {mi t0 t1 t2 : Nat} (hXs : xsB mi t0 (lA s9) s9) (hSt : stB t1 t2 (lA s9) s9) {i9 j9 : Nat} (hi : i9 = 6 * j9) (hiL : i9 + 6 ≤ L9) {S : St} {u9 : LU} {H : Heap} {locs : List Loc} (hG : LSt dC dI xa xc ma mc t0 s9 S u9 j9 H locs) {ls : Array Slot} (hl : lv_has ls 4 [(0, .ref b9), (1, .ref (xa 0)), (2, .ref (ma 0)), (3, .int (nI i9))]) (kk : ∀ (S1 : St) (u1 : LU) (H1 : Heap) (locs1 : List Loc), LSt dC dI xa xc ma mc t0 s9 S1 u1 (j9 + 1) H1 locs1 → W p9 l9 e9 room_1 s9 m9 #[Value.ref b9] bl me c9 H1 locs1 (32 + 2 * (j9 + 1)) (17271 + 1007 * (j9 + 1)) (lw_Z bl #[Value.ref b9] s9) (F0 m9 845 ls [])) : W p9 l9 e9 room_1 s9 m9 #[Value.ref b9] bl me c9 H locs (32 + 2 * j9) (17271 + 1007 * j9) (lw_Z bl #[Value.ref b9] s9) (F0 m9 373 ls []) := by
  obtain ⟨hx, hb, hr, hml, hown, hts0, hX, hbl, hlocks, hgv⟩ := C0
  have hts : ∀ w9 ∈ wsL_law, w9.before #[Value.ref b9] s9 = true := fun w9 h9 => hts0 w9 (wsL_law_in w9 h9)
  have hown : s9.vm.findClass RL = some m9.cls := hown
  have hA : ∀ q9 : Nat, s9.heap.size ≤ q9 → lA s9 q9 := fun _ h9 => h9
  have hbA : ¬ lA s9 b9 := Nat.not_le.mpr hbl
  obtain ⟨I, hH0, hTn, hZ, hK, hP, hD, hS⟩ := hG
  have hfc := lw_hc hL hi hiL
  obtain ⟨mk, ed, cO, nn, pa, Za, tz⟩ := u9
  have hK : va_K (dC, dI) vwCl ((xty xc ++ tz) ++ mty mc) s9 := hK
  have hP : va_P (dC, dI) vwCl (tW xa xc S mk ed (Za ++ tw pa S) ++ mw ma mc S) H := hP
  have hD : va_D (lA s9) (tW xa xc S mk ed (Za ++ tw pa S) ++ mw ma mc S) := hD
  have hKt : va_K (dC, dI) vwCl (xty xc ++ tz) s9 := kl_left hK
  have hKx : va_K (dC, dI) vwCl (xty xc) s9 := kl_left hKt
  have hKm : va_K (dC, dI) vwCl (mty mc) s9 := kl_right hK
  have hPt : va_P (dC, dI) vwCl (tW xa xc S mk ed (Za ++ tw pa S)) H := pl_left hP
  have hPx : va_P (dC, dI) vwCl (xw xa xc S) H := pl_left hPt
  have hPm : va_P (dC, dI) vwCl (mw ma mc S) H := pl_right hP
  refine lv_aload_n hx hb dL_law_373 rfl (lv_at hl 1 rfl) ?_
  refine lv_aload_n hx hb dL_law_374 rfl (lv_at hl 0 rfl) ?_
  refine lv_iload_n hx hb dL_law_375 rfl (lv_at hl 3 rfl) ?_
  refine lv_iconst (v := nI 1) hx hb dL_law_376 (by decide) ?_
  refine lv_iadd hx hb dL_law_377 ?_
  refine f_ti (y := nI (i9 + 1)) (nI_add _ _) ?_
  refine va_sld hx hb hX hbl hbA hS (i := nI (i9 + 1)) (vp_in_nI (by omega) (by omega)) dL_law_378 ?_
  refine lv_aload_n hx hb dL_law_379 rfl (lv_at hl 0 rfl) ?_
  refine lv_iload_n hx hb dL_law_380 rfl (lv_at hl 3 rfl) ?_
  refine lv_iconst (v := nI 2) hx hb dL_law_381 (by decide) ?_
  refine lv_iadd hx hb dL_law_382 ?_
  refine f_ti (y := nI (i9 + 2)) (nI_add _ _) ?_
  refine va_sld hx hb hX hbl hbA hS (i := nI (i9 + 2)) (vp_in_nI (by omega) (by omega)) dL_law_383 ?_
  refine lv_aload_n hx hb dL_law_384 rfl (lv_at hl 0 rfl) ?_
  refine lv_iload_n hx hb dL_law_385 rfl (lv_at hl 3 rfl) ?_
  refine lv_iconst (v := nI 3) hx hb dL_law_386 (by decide) ?_
  refine lv_iadd hx hb dL_law_387 ?_
  refine f_ti (y := nI (i9 + 3)) (nI_add _ _) ?_
  refine va_sld hx hb hX hbl hbA hS (i := nI (i9 + 3)) (vp_in_nI (by omega) (by omega)) dL_law_388 ?_
  refine lv_aload_n hx hb dL_law_389 rfl (lv_at hl 0 rfl) ?_
  refine lv_iload_n hx hb dL_law_390 rfl (lv_at hl 3 rfl) ?_
  refine lv_iconst (v := nI 4) hx hb dL_law_391 (by decide) ?_
  refine lv_iadd hx hb dL_law_392 ?_
  refine f_ti (y := nI (i9 + 4)) (nI_add _ _) ?_
  refine va_sld hx hb hX hbl hbA hS (i := nI (i9 + 4)) (vp_in_nI (by omega) (by omega)) dL_law_393 ?_
  refine lv_aload_n hx hb dL_law_394 rfl (lv_at hl 0 rfl) ?_
  refine lv_iload_n hx hb dL_law_395 rfl (lv_at hl 3 rfl) ?_
  refine lv_iconst (v := nI 5) hx hb dL_law_396 (by decide) ?_
  refine lv_iadd hx hb dL_law_397 ?_
  refine f_ti (y := nI (i9 + 5)) (nI_add _ _) ?_
  refine va_sld hx hb hX hbl hbA hS (i := nI (i9 + 5)) (vp_in_nI (by omega) (by omega)) dL_law_398 ?_
  refine f_cVi (As := [.int (xs (nI (i9 + 1)).toNatClampNeg), .int (xs (nI (i9 + 2)).toNatClampNeg), .int (xs (nI (i9 + 3)).toNatClampNeg), .int (xs (nI (i9 + 4)).toNatClampNeg), .int (xs (nI (i9 + 5)).toNatClampNeg)]) (rest := []) ⟨hx, hb, hml, hown, hts⟩ (c_X1_may l9 dC dI xa xc S (xs (nI (i9 + 1)).toNatClampNeg) (xs (nI (i9 + 2)).toNatClampNeg) (xs (nI (i9 + 3)).toNatClampNeg) (xs (nI (i9 + 4)).toNatClampNeg) (xs (nI (i9 + 5)).toNatClampNeg) I) (cwV 5 hts gL_law_X1_may rfl rfl rfl (by decide +kernel) ⟨Nat.le_of_ble_eq_true rfl, Nat.le_of_ble_eq_true rfl⟩) roB_bl (va_recv hKx hPx (ci := 2) (q0 := 0) rfl rfl) (roB_at hPx hKx) rfl hl.1 rfl (Nat.le_of_ble_eq_true rfl) dL_law_399 hfc ?_
  refine lv_aload_n hx hb dL_law_402 rfl (lv_at hl 2 rfl) ?_
  refine lv_aload_n hx hb dL_law_403 rfl (lv_at hl 0 rfl) ?_
  refine lv_iload_n hx hb dL_law_404 rfl (lv_at hl 3 rfl) ?_
  refine lv_iconst (v := nI 1) hx hb dL_law_405 (by decide) ?_
  refine lv_iadd hx hb dL_law_406 ?_
  refine f_ti (y := nI (i9 + 1)) (nI_add _ _) ?_
  refine va_sld hx hb hX hbl hbA hS (i := nI (i9 + 1)) (vp_in_nI (by omega) (by omega)) dL_law_407 ?_
  refine lv_aload_n hx hb dL_law_408 rfl (lv_at hl 0 rfl) ?_
  refine lv_iload_n hx hb dL_law_409 rfl (lv_at hl 3 rfl) ?_
  refine lv_iconst (v := nI 2) hx hb dL_law_410 (by decide) ?_
  refine lv_iadd hx hb dL_law_411 ?_
  refine f_ti (y := nI (i9 + 2)) (nI_add _ _) ?_
  refine va_sld hx hb hX hbl hbA hS (i := nI (i9 + 2)) (vp_in_nI (by omega) (by omega)) dL_law_412 ?_
  refine lv_aload_n hx hb dL_law_413 rfl (lv_at hl 0 rfl) ?_
  refine lv_iload_n hx hb dL_law_414 rfl (lv_at hl 3 rfl) ?_
  refine lv_iconst (v := nI 3) hx hb dL_law_415 (by decide) ?_
  refine lv_iadd hx hb dL_law_416 ?_
  refine f_ti (y := nI (i9 + 3)) (nI_add _ _) ?_
  refine va_sld hx hb hX hbl hbA hS (i := nI (i9 + 3)) (vp_in_nI (by omega) (by omega)) dL_law_417 ?_
  refine lv_aload_n hx hb dL_law_418 rfl (lv_at hl 0 rfl) ?_
  refine lv_iload_n hx hb dL_law_419 rfl (lv_at hl 3 rfl) ?_
  refine lv_iconst (v := nI 4) hx hb dL_law_420 (by decide) ?_
  refine lv_iadd hx hb dL_law_421 ?_
  refine f_ti (y := nI (i9 + 4)) (nI_add _ _) ?_
  refine va_sld hx hb hX hbl hbA hS (i := nI (i9 + 4)) (vp_in_nI (by omega) (by omega)) dL_law_422 ?_
  refine lv_aload_n hx hb dL_law_423 rfl (lv_at hl 0 rfl) ?_
  refine lv_iload_n hx hb dL_law_424 rfl (lv_at hl 3 rfl) ?_
  refine lv_iconst (v := nI 5) hx hb dL_law_425 (by decide) ?_
  refine lv_iadd hx hb dL_law_426 ?_
  refine f_ti (y := nI (i9 + 5)) (nI_add _ _) ?_
  refine va_sld hx hb hX hbl hbA hS (i := nI (i9 + 5)) (vp_in_nI (by omega) (by omega)) dL_law_427 ?_
  refine f_cVi (As := [.int (xs (nI (i9 + 1)).toNatClampNeg), .int (xs (nI (i9 + 2)).toNatClampNeg), .int (xs (nI (i9 + 3)).toNatClampNeg), .int (xs (nI (i9 + 4)).toNatClampNeg), .int (xs (nI (i9 + 5)).toNatClampNeg)]) (rest := [.int (maF S (xs (nI (i9 + 1)).toNatClampNeg) (xs (nI (i9 + 2)).toNatClampNeg) (xs (nI (i9 + 3)).toNatClampNeg) (xs (nI (i9 + 4)).toNatClampNeg) (xs (nI (i9 + 5)).toNatClampNeg))]) ⟨hx, hb, hml, hown, hts⟩ (c_X2_may l9 dC dI ma mc S (xs (nI (i9 + 1)).toNatClampNeg) (xs (nI (i9 + 2)).toNatClampNeg) (xs (nI (i9 + 3)).toNatClampNeg) (xs (nI (i9 + 4)).toNatClampNeg) (xs (nI (i9 + 5)).toNatClampNeg) I) (cwV 5 hts gL_law_X2_may rfl rfl rfl (by decide +kernel) ⟨Nat.le_of_ble_eq_true rfl, Nat.le_of_ble_eq_true rfl⟩) roB_bl (va_recv hKm hPm (ci := 3) (q0 := 0) rfl rfl) (roB_at hPm hKm) rfl hl.1 rfl (Nat.le_of_ble_eq_true rfl) dL_law_428 hfc ?_
  refine f_ieq (tgt := 845) hx hb rfl rfl dL_law_431 (by decide) (fun _ => ?_) (fun h9 => absurd rfl h9)
  refine W.widen (k := 32 + 2 * (j9 + 1)) (n := 17271 + 1007 * (j9 + 1)) (by omega) (by omega) ?_
  exact kk S (mk, ed, cO, nn, pa, Za, tz) H locs ⟨I, hH0, by omega, hZ, hK, hP, hD, hS⟩
set_option maxHeartbeats 4000000 in
set_option maxRecDepth 100000 in
theorem law_backed {p9 : Program} {l9 : Launch} {e9 : Env} {s9 : State} {m9 : MethodId} {bl : List Frame} {me : Method} {c9 : Code} {dC : Nat → ClassId} {dI : Nat → Nat → Nat} {b9 L9 : Nat} {xs : Nat → Int32} (hL : L9 ≤ 3072) (C0 : lw_At p9 s9 m9 me c9 b9 L9 xs) {xa : Nat → Nat} {xc : Nat → ClassId} {ma : Nat → Nat} {mc : Nat → ClassId} {mi t0 t1 t2 : Nat} (hXs : xsB mi t0 (lA s9) s9) (hSt : stB t1 t2 (lA s9) s9) {i9 j9 : Nat} (hi : i9 = 6 * j9) (hiL : i9 + 6 ≤ L9) {S : St} {u9 : LU} {H : Heap} {locs : List Loc} (hG : LSt dC dI xa xc ma mc t0 s9 S u9 j9 H locs) {ls : Array Slot} (hl : lv_has ls 4 [(0, .ref b9), (1, .ref (xa 0)), (2, .ref (ma 0)), (3, .int (nI i9))]) (kk : ∀ (S1 : St) (u1 : LU) (H1 : Heap) (locs1 : List Loc), LSt dC dI xa xc ma mc t0 s9 S1 u1 (j9 + 1) H1 locs1 → W p9 l9 e9 room_1 s9 m9 #[Value.ref b9] bl me c9 H1 locs1 (32 + 2 * (j9 + 1)) (17271 + 1007 * (j9 + 1)) (lw_Z bl #[Value.ref b9] s9) (F0 m9 845 ls [])) : W p9 l9 e9 room_1 s9 m9 #[Value.ref b9] bl me c9 H locs (32 + 2 * j9) (17271 + 1007 * j9) (lw_Z bl #[Value.ref b9] s9) (F0 m9 615 ls []) := by
  obtain ⟨hx, hb, hr, hml, hown, hts0, hX, hbl, hlocks, hgv⟩ := C0
  have hts : ∀ w9 ∈ wsL_law, w9.before #[Value.ref b9] s9 = true := fun w9 h9 => hts0 w9 (wsL_law_in w9 h9)
  have hown : s9.vm.findClass RL = some m9.cls := hown
  have hA : ∀ q9 : Nat, s9.heap.size ≤ q9 → lA s9 q9 := fun _ h9 => h9
  have hbA : ¬ lA s9 b9 := Nat.not_le.mpr hbl
  obtain ⟨I, hH0, hTn, hZ, hK, hP, hD, hS⟩ := hG
  have hfc := lw_hc hL hi hiL
  obtain ⟨mk, ed, cO, nn, pa, Za, tz⟩ := u9
  have hK : va_K (dC, dI) vwCl ((xty xc ++ tz) ++ mty mc) s9 := hK
  have hP : va_P (dC, dI) vwCl (tW xa xc S mk ed (Za ++ tw pa S) ++ mw ma mc S) H := hP
  have hD : va_D (lA s9) (tW xa xc S mk ed (Za ++ tw pa S) ++ mw ma mc S) := hD
  have hKt : va_K (dC, dI) vwCl (xty xc ++ tz) s9 := kl_left hK
  have hKx : va_K (dC, dI) vwCl (xty xc) s9 := kl_left hKt
  have hKm : va_K (dC, dI) vwCl (mty mc) s9 := kl_right hK
  have hPt : va_P (dC, dI) vwCl (tW xa xc S mk ed (Za ++ tw pa S)) H := pl_left hP
  have hPx : va_P (dC, dI) vwCl (xw xa xc S) H := pl_left hPt
  have hPm : va_P (dC, dI) vwCl (mw ma mc S) H := pl_right hP
  refine lv_aload_n hx hb dL_law_615 rfl (lv_at hl 1 rfl) ?_
  refine lv_aload_n hx hb dL_law_616 rfl (lv_at hl 0 rfl) ?_
  refine lv_iload_n hx hb dL_law_617 rfl (lv_at hl 3 rfl) ?_
  refine lv_iconst (v := nI 1) hx hb dL_law_618 (by decide) ?_
  refine lv_iadd hx hb dL_law_619 ?_
  refine f_ti (y := nI (i9 + 1)) (nI_add _ _) ?_
  refine va_sld hx hb hX hbl hbA hS (i := nI (i9 + 1)) (vp_in_nI (by omega) (by omega)) dL_law_620 ?_
  refine lv_aload_n hx hb dL_law_621 rfl (lv_at hl 0 rfl) ?_
  refine lv_iload_n hx hb dL_law_622 rfl (lv_at hl 3 rfl) ?_
  refine lv_iconst (v := nI 2) hx hb dL_law_623 (by decide) ?_
  refine lv_iadd hx hb dL_law_624 ?_
  refine f_ti (y := nI (i9 + 2)) (nI_add _ _) ?_
  refine va_sld hx hb hX hbl hbA hS (i := nI (i9 + 2)) (vp_in_nI (by omega) (by omega)) dL_law_625 ?_
  refine lv_aload_n hx hb dL_law_626 rfl (lv_at hl 0 rfl) ?_
  refine lv_iload_n hx hb dL_law_627 rfl (lv_at hl 3 rfl) ?_
  refine lv_iconst (v := nI 3) hx hb dL_law_628 (by decide) ?_
  refine lv_iadd hx hb dL_law_629 ?_
  refine f_ti (y := nI (i9 + 3)) (nI_add _ _) ?_
  refine va_sld hx hb hX hbl hbA hS (i := nI (i9 + 3)) (vp_in_nI (by omega) (by omega)) dL_law_630 ?_
  refine lv_aload_n hx hb dL_law_631 rfl (lv_at hl 0 rfl) ?_
  refine lv_iload_n hx hb dL_law_632 rfl (lv_at hl 3 rfl) ?_
  refine lv_iconst (v := nI 4) hx hb dL_law_633 (by decide) ?_
  refine lv_iadd hx hb dL_law_634 ?_
  refine f_ti (y := nI (i9 + 4)) (nI_add _ _) ?_
  refine va_sld hx hb hX hbl hbA hS (i := nI (i9 + 4)) (vp_in_nI (by omega) (by omega)) dL_law_635 ?_
  refine f_cVl (As := [.int (xs (nI (i9 + 1)).toNatClampNeg), .int (xs (nI (i9 + 2)).toNatClampNeg), .int (xs (nI (i9 + 3)).toNatClampNeg), .int (xs (nI (i9 + 4)).toNatClampNeg)]) (rest := []) ⟨hx, hb, hml, hown, hts⟩ (c_X1_backed l9 dC dI xa xc S (xs (nI (i9 + 1)).toNatClampNeg) (xs (nI (i9 + 2)).toNatClampNeg) (xs (nI (i9 + 3)).toNatClampNeg) (xs (nI (i9 + 4)).toNatClampNeg) I) (cwV 4 hts gL_law_X1_backed rfl rfl rfl (by decide +kernel) ⟨Nat.le_of_ble_eq_true rfl, Nat.le_of_ble_eq_true rfl⟩) roB_bl (va_recv hKx hPx (ci := 2) (q0 := 0) rfl rfl) (roB_at hPx hKx) rfl hl.1 rfl (Nat.le_of_ble_eq_true rfl) dL_law_636 hfc ?_
  refine lv_aload_n hx hb dL_law_639 rfl (lv_at hl 2 rfl) ?_
  refine lv_aload_n hx hb dL_law_640 rfl (lv_at hl 0 rfl) ?_
  refine lv_iload_n hx hb dL_law_641 rfl (lv_at hl 3 rfl) ?_
  refine lv_iconst (v := nI 1) hx hb dL_law_642 (by decide) ?_
  refine lv_iadd hx hb dL_law_643 ?_
  refine f_ti (y := nI (i9 + 1)) (nI_add _ _) ?_
  refine va_sld hx hb hX hbl hbA hS (i := nI (i9 + 1)) (vp_in_nI (by omega) (by omega)) dL_law_644 ?_
  refine lv_aload_n hx hb dL_law_645 rfl (lv_at hl 0 rfl) ?_
  refine lv_iload_n hx hb dL_law_646 rfl (lv_at hl 3 rfl) ?_
  refine lv_iconst (v := nI 2) hx hb dL_law_647 (by decide) ?_
  refine lv_iadd hx hb dL_law_648 ?_
  refine f_ti (y := nI (i9 + 2)) (nI_add _ _) ?_
  refine va_sld hx hb hX hbl hbA hS (i := nI (i9 + 2)) (vp_in_nI (by omega) (by omega)) dL_law_649 ?_
  refine lv_aload_n hx hb dL_law_650 rfl (lv_at hl 0 rfl) ?_
  refine lv_iload_n hx hb dL_law_651 rfl (lv_at hl 3 rfl) ?_
  refine lv_iconst (v := nI 3) hx hb dL_law_652 (by decide) ?_
  refine lv_iadd hx hb dL_law_653 ?_
  refine f_ti (y := nI (i9 + 3)) (nI_add _ _) ?_
  refine va_sld hx hb hX hbl hbA hS (i := nI (i9 + 3)) (vp_in_nI (by omega) (by omega)) dL_law_654 ?_
  refine lv_aload_n hx hb dL_law_655 rfl (lv_at hl 0 rfl) ?_
  refine lv_iload_n hx hb dL_law_656 rfl (lv_at hl 3 rfl) ?_
  refine lv_iconst (v := nI 4) hx hb dL_law_657 (by decide) ?_
  refine lv_iadd hx hb dL_law_658 ?_
  refine f_ti (y := nI (i9 + 4)) (nI_add _ _) ?_
  refine va_sld hx hb hX hbl hbA hS (i := nI (i9 + 4)) (vp_in_nI (by omega) (by omega)) dL_law_659 ?_
  refine f_cVl (As := [.int (xs (nI (i9 + 1)).toNatClampNeg), .int (xs (nI (i9 + 2)).toNatClampNeg), .int (xs (nI (i9 + 3)).toNatClampNeg), .int (xs (nI (i9 + 4)).toNatClampNeg)]) (rest := [.long (bdF S (xs (nI (i9 + 1)).toNatClampNeg) (xs (nI (i9 + 2)).toNatClampNeg) (xs (nI (i9 + 3)).toNatClampNeg) (xs (nI (i9 + 4)).toNatClampNeg))]) ⟨hx, hb, hml, hown, hts⟩ (c_X2_backed l9 dC dI ma mc S (xs (nI (i9 + 1)).toNatClampNeg) (xs (nI (i9 + 2)).toNatClampNeg) (xs (nI (i9 + 3)).toNatClampNeg) (xs (nI (i9 + 4)).toNatClampNeg) I) (cwV 4 hts gL_law_X2_backed rfl rfl rfl (by decide +kernel) ⟨Nat.le_of_ble_eq_true rfl, Nat.le_of_ble_eq_true rfl⟩) roB_bl (va_recv hKm hPm (ci := 3) (q0 := 0) rfl rfl) (roB_at hPm hKm) rfl hl.1 rfl (Nat.le_of_ble_eq_true rfl) dL_law_660 hfc ?_
  refine f_leq (tgt := 845) hx hb rfl rfl dL_law_663 dL_law_664 (by decide) (fun _ => ?_) (fun h9 => absurd rfl h9)
  refine W.widen (k := 32 + 2 * (j9 + 1)) (n := 17271 + 1007 * (j9 + 1)) (by omega) (by omega) ?_
  exact kk S (mk, ed, cO, nn, pa, Za, tz) H locs ⟨I, hH0, by omega, hZ, hK, hP, hD, hS⟩
set_option maxHeartbeats 4000000 in
set_option maxRecDepth 100000 in
theorem law_certain {p9 : Program} {l9 : Launch} {e9 : Env} {s9 : State} {m9 : MethodId} {bl : List Frame} {me : Method} {c9 : Code} {dC : Nat → ClassId} {dI : Nat → Nat → Nat} {b9 L9 : Nat} {xs : Nat → Int32} (hL : L9 ≤ 3072) (C0 : lw_At p9 s9 m9 me c9 b9 L9 xs) {xa : Nat → Nat} {xc : Nat → ClassId} {ma : Nat → Nat} {mc : Nat → ClassId} {mi t0 t1 t2 : Nat} (hXs : xsB mi t0 (lA s9) s9) (hSt : stB t1 t2 (lA s9) s9) {i9 j9 : Nat} (hi : i9 = 6 * j9) (hiL : i9 + 6 ≤ L9) {S : St} {u9 : LU} {H : Heap} {locs : List Loc} (hG : LSt dC dI xa xc ma mc t0 s9 S u9 j9 H locs) {ls : Array Slot} (hl : lv_has ls 4 [(0, .ref b9), (1, .ref (xa 0)), (2, .ref (ma 0)), (3, .int (nI i9))]) (kk : ∀ (S1 : St) (u1 : LU) (H1 : Heap) (locs1 : List Loc), LSt dC dI xa xc ma mc t0 s9 S1 u1 (j9 + 1) H1 locs1 → W p9 l9 e9 room_1 s9 m9 #[Value.ref b9] bl me c9 H1 locs1 (32 + 2 * (j9 + 1)) (17271 + 1007 * (j9 + 1)) (lw_Z bl #[Value.ref b9] s9) (F0 m9 845 ls [])) : W p9 l9 e9 room_1 s9 m9 #[Value.ref b9] bl me c9 H locs (32 + 2 * j9) (17271 + 1007 * j9) (lw_Z bl #[Value.ref b9] s9) (F0 m9 669 ls []) := by
  obtain ⟨hx, hb, hr, hml, hown, hts0, hX, hbl, hlocks, hgv⟩ := C0
  have hts : ∀ w9 ∈ wsL_law, w9.before #[Value.ref b9] s9 = true := fun w9 h9 => hts0 w9 (wsL_law_in w9 h9)
  have hown : s9.vm.findClass RL = some m9.cls := hown
  have hA : ∀ q9 : Nat, s9.heap.size ≤ q9 → lA s9 q9 := fun _ h9 => h9
  have hbA : ¬ lA s9 b9 := Nat.not_le.mpr hbl
  obtain ⟨I, hH0, hTn, hZ, hK, hP, hD, hS⟩ := hG
  have hfc := lw_hc hL hi hiL
  obtain ⟨mk, ed, cO, nn, pa, Za, tz⟩ := u9
  have hK : va_K (dC, dI) vwCl ((xty xc ++ tz) ++ mty mc) s9 := hK
  have hP : va_P (dC, dI) vwCl (tW xa xc S mk ed (Za ++ tw pa S) ++ mw ma mc S) H := hP
  have hD : va_D (lA s9) (tW xa xc S mk ed (Za ++ tw pa S) ++ mw ma mc S) := hD
  have hKt : va_K (dC, dI) vwCl (xty xc ++ tz) s9 := kl_left hK
  have hKx : va_K (dC, dI) vwCl (xty xc) s9 := kl_left hKt
  have hKm : va_K (dC, dI) vwCl (mty mc) s9 := kl_right hK
  have hPt : va_P (dC, dI) vwCl (tW xa xc S mk ed (Za ++ tw pa S)) H := pl_left hP
  have hPx : va_P (dC, dI) vwCl (xw xa xc S) H := pl_left hPt
  have hPm : va_P (dC, dI) vwCl (mw ma mc S) H := pl_right hP
  refine lv_aload_n hx hb dL_law_669 rfl (lv_at hl 1 rfl) ?_
  refine lv_aload_n hx hb dL_law_670 rfl (lv_at hl 0 rfl) ?_
  refine lv_iload_n hx hb dL_law_671 rfl (lv_at hl 3 rfl) ?_
  refine lv_iconst (v := nI 1) hx hb dL_law_672 (by decide) ?_
  refine lv_iadd hx hb dL_law_673 ?_
  refine f_ti (y := nI (i9 + 1)) (nI_add _ _) ?_
  refine va_sld hx hb hX hbl hbA hS (i := nI (i9 + 1)) (vp_in_nI (by omega) (by omega)) dL_law_674 ?_
  refine lv_aload_n hx hb dL_law_675 rfl (lv_at hl 0 rfl) ?_
  refine lv_iload_n hx hb dL_law_676 rfl (lv_at hl 3 rfl) ?_
  refine lv_iconst (v := nI 2) hx hb dL_law_677 (by decide) ?_
  refine lv_iadd hx hb dL_law_678 ?_
  refine f_ti (y := nI (i9 + 2)) (nI_add _ _) ?_
  refine va_sld hx hb hX hbl hbA hS (i := nI (i9 + 2)) (vp_in_nI (by omega) (by omega)) dL_law_679 ?_
  refine f_cVi (As := [.int (xs (nI (i9 + 1)).toNatClampNeg), .int (xs (nI (i9 + 2)).toNatClampNeg)]) (rest := []) ⟨hx, hb, hml, hown, hts⟩ (c_X1_certain l9 dC dI xa xc S (xs (nI (i9 + 1)).toNatClampNeg) (xs (nI (i9 + 2)).toNatClampNeg) I) (cwV 2 hts gL_law_X1_certain rfl rfl rfl (by decide +kernel) ⟨Nat.le_of_ble_eq_true rfl, Nat.le_of_ble_eq_true rfl⟩) roB_bl (va_recv hKx hPx (ci := 2) (q0 := 0) rfl rfl) (roB_at hPx hKx) rfl hl.1 rfl (Nat.le_of_ble_eq_true rfl) dL_law_680 hfc ?_
  refine lv_aload_n hx hb dL_law_683 rfl (lv_at hl 2 rfl) ?_
  refine lv_aload_n hx hb dL_law_684 rfl (lv_at hl 0 rfl) ?_
  refine lv_iload_n hx hb dL_law_685 rfl (lv_at hl 3 rfl) ?_
  refine lv_iconst (v := nI 1) hx hb dL_law_686 (by decide) ?_
  refine lv_iadd hx hb dL_law_687 ?_
  refine f_ti (y := nI (i9 + 1)) (nI_add _ _) ?_
  refine va_sld hx hb hX hbl hbA hS (i := nI (i9 + 1)) (vp_in_nI (by omega) (by omega)) dL_law_688 ?_
  refine lv_aload_n hx hb dL_law_689 rfl (lv_at hl 0 rfl) ?_
  refine lv_iload_n hx hb dL_law_690 rfl (lv_at hl 3 rfl) ?_
  refine lv_iconst (v := nI 2) hx hb dL_law_691 (by decide) ?_
  refine lv_iadd hx hb dL_law_692 ?_
  refine f_ti (y := nI (i9 + 2)) (nI_add _ _) ?_
  refine va_sld hx hb hX hbl hbA hS (i := nI (i9 + 2)) (vp_in_nI (by omega) (by omega)) dL_law_693 ?_
  refine f_cVi (As := [.int (xs (nI (i9 + 1)).toNatClampNeg), .int (xs (nI (i9 + 2)).toNatClampNeg)]) (rest := [.int (cnF S (xs (nI (i9 + 1)).toNatClampNeg) (xs (nI (i9 + 2)).toNatClampNeg))]) ⟨hx, hb, hml, hown, hts⟩ (c_X2_certain l9 dC dI ma mc S (xs (nI (i9 + 1)).toNatClampNeg) (xs (nI (i9 + 2)).toNatClampNeg) I) (cwV 2 hts gL_law_X2_certain rfl rfl rfl (by decide +kernel) ⟨Nat.le_of_ble_eq_true rfl, Nat.le_of_ble_eq_true rfl⟩) roB_bl (va_recv hKm hPm (ci := 3) (q0 := 0) rfl rfl) (roB_at hPm hKm) rfl hl.1 rfl (Nat.le_of_ble_eq_true rfl) dL_law_694 hfc ?_
  refine f_ieq (tgt := 845) hx hb rfl rfl dL_law_697 (by decide) (fun _ => ?_) (fun h9 => absurd rfl h9)
  refine W.widen (k := 32 + 2 * (j9 + 1)) (n := 17271 + 1007 * (j9 + 1)) (by omega) (by omega) ?_
  exact kk S (mk, ed, cO, nn, pa, Za, tz) H locs ⟨I, hH0, by omega, hZ, hK, hP, hD, hS⟩
set_option maxHeartbeats 4000000 in
set_option maxRecDepth 100000 in
theorem law_breaks {p9 : Program} {l9 : Launch} {e9 : Env} {s9 : State} {m9 : MethodId} {bl : List Frame} {me : Method} {c9 : Code} {dC : Nat → ClassId} {dI : Nat → Nat → Nat} {b9 L9 : Nat} {xs : Nat → Int32} (hL : L9 ≤ 3072) (C0 : lw_At p9 s9 m9 me c9 b9 L9 xs) {xa : Nat → Nat} {xc : Nat → ClassId} {ma : Nat → Nat} {mc : Nat → ClassId} {mi t0 t1 t2 : Nat} (hXs : xsB mi t0 (lA s9) s9) (hSt : stB t1 t2 (lA s9) s9) {i9 j9 : Nat} (hi : i9 = 6 * j9) (hiL : i9 + 6 ≤ L9) {S : St} {u9 : LU} {H : Heap} {locs : List Loc} (hG : LSt dC dI xa xc ma mc t0 s9 S u9 j9 H locs) {ls : Array Slot} (hl : lv_has ls 4 [(0, .ref b9), (1, .ref (xa 0)), (2, .ref (ma 0)), (3, .int (nI i9))]) (kk : ∀ (S1 : St) (u1 : LU) (H1 : Heap) (locs1 : List Loc), LSt dC dI xa xc ma mc t0 s9 S1 u1 (j9 + 1) H1 locs1 → W p9 l9 e9 room_1 s9 m9 #[Value.ref b9] bl me c9 H1 locs1 (32 + 2 * (j9 + 1)) (17271 + 1007 * (j9 + 1)) (lw_Z bl #[Value.ref b9] s9) (F0 m9 845 ls [])) : W p9 l9 e9 room_1 s9 m9 #[Value.ref b9] bl me c9 H locs (32 + 2 * j9) (17271 + 1007 * j9) (lw_Z bl #[Value.ref b9] s9) (F0 m9 702 ls []) := by
  obtain ⟨hx, hb, hr, hml, hown, hts0, hX, hbl, hlocks, hgv⟩ := C0
  have hts : ∀ w9 ∈ wsL_law, w9.before #[Value.ref b9] s9 = true := fun w9 h9 => hts0 w9 (wsL_law_in w9 h9)
  have hown : s9.vm.findClass RL = some m9.cls := hown
  have hA : ∀ q9 : Nat, s9.heap.size ≤ q9 → lA s9 q9 := fun _ h9 => h9
  have hbA : ¬ lA s9 b9 := Nat.not_le.mpr hbl
  obtain ⟨I, hH0, hTn, hZ, hK, hP, hD, hS⟩ := hG
  have hfc := lw_hc hL hi hiL
  obtain ⟨mk, ed, cO, nn, pa, Za, tz⟩ := u9
  have hK : va_K (dC, dI) vwCl ((xty xc ++ tz) ++ mty mc) s9 := hK
  have hP : va_P (dC, dI) vwCl (tW xa xc S mk ed (Za ++ tw pa S) ++ mw ma mc S) H := hP
  have hD : va_D (lA s9) (tW xa xc S mk ed (Za ++ tw pa S) ++ mw ma mc S) := hD
  have hKt : va_K (dC, dI) vwCl (xty xc ++ tz) s9 := kl_left hK
  have hKx : va_K (dC, dI) vwCl (xty xc) s9 := kl_left hKt
  have hKm : va_K (dC, dI) vwCl (mty mc) s9 := kl_right hK
  have hPt : va_P (dC, dI) vwCl (tW xa xc S mk ed (Za ++ tw pa S)) H := pl_left hP
  have hPx : va_P (dC, dI) vwCl (xw xa xc S) H := pl_left hPt
  have hPm : va_P (dC, dI) vwCl (mw ma mc S) H := pl_right hP
  refine lv_aload_n hx hb dL_law_702 rfl (lv_at hl 1 rfl) ?_
  refine lv_aload_n hx hb dL_law_703 rfl (lv_at hl 0 rfl) ?_
  refine lv_iload_n hx hb dL_law_704 rfl (lv_at hl 3 rfl) ?_
  refine lv_iconst (v := nI 1) hx hb dL_law_705 (by decide) ?_
  refine lv_iadd hx hb dL_law_706 ?_
  refine f_ti (y := nI (i9 + 1)) (nI_add _ _) ?_
  refine va_sld hx hb hX hbl hbA hS (i := nI (i9 + 1)) (vp_in_nI (by omega) (by omega)) dL_law_707 ?_
  refine lv_aload_n hx hb dL_law_708 rfl (lv_at hl 0 rfl) ?_
  refine lv_iload_n hx hb dL_law_709 rfl (lv_at hl 3 rfl) ?_
  refine lv_iconst (v := nI 2) hx hb dL_law_710 (by decide) ?_
  refine lv_iadd hx hb dL_law_711 ?_
  refine f_ti (y := nI (i9 + 2)) (nI_add _ _) ?_
  refine va_sld hx hb hX hbl hbA hS (i := nI (i9 + 2)) (vp_in_nI (by omega) (by omega)) dL_law_712 ?_
  refine f_cVi (As := [.int (xs (nI (i9 + 1)).toNatClampNeg), .int (xs (nI (i9 + 2)).toNatClampNeg)]) (rest := []) ⟨hx, hb, hml, hown, hts⟩ (c_X1_breaks l9 dC dI xa xc S (xs (nI (i9 + 1)).toNatClampNeg) (xs (nI (i9 + 2)).toNatClampNeg) I) (cwV 2 hts gL_law_X1_breaks rfl rfl rfl (by decide +kernel) ⟨Nat.le_of_ble_eq_true rfl, Nat.le_of_ble_eq_true rfl⟩) roB_bl (va_recv hKx hPx (ci := 2) (q0 := 0) rfl rfl) (roB_at hPx hKx) rfl hl.1 rfl (Nat.le_of_ble_eq_true rfl) dL_law_713 hfc ?_
  refine lv_aload_n hx hb dL_law_716 rfl (lv_at hl 2 rfl) ?_
  refine lv_aload_n hx hb dL_law_717 rfl (lv_at hl 0 rfl) ?_
  refine lv_iload_n hx hb dL_law_718 rfl (lv_at hl 3 rfl) ?_
  refine lv_iconst (v := nI 1) hx hb dL_law_719 (by decide) ?_
  refine lv_iadd hx hb dL_law_720 ?_
  refine f_ti (y := nI (i9 + 1)) (nI_add _ _) ?_
  refine va_sld hx hb hX hbl hbA hS (i := nI (i9 + 1)) (vp_in_nI (by omega) (by omega)) dL_law_721 ?_
  refine lv_aload_n hx hb dL_law_722 rfl (lv_at hl 0 rfl) ?_
  refine lv_iload_n hx hb dL_law_723 rfl (lv_at hl 3 rfl) ?_
  refine lv_iconst (v := nI 2) hx hb dL_law_724 (by decide) ?_
  refine lv_iadd hx hb dL_law_725 ?_
  refine f_ti (y := nI (i9 + 2)) (nI_add _ _) ?_
  refine va_sld hx hb hX hbl hbA hS (i := nI (i9 + 2)) (vp_in_nI (by omega) (by omega)) dL_law_726 ?_
  refine f_cVi (As := [.int (xs (nI (i9 + 1)).toNatClampNeg), .int (xs (nI (i9 + 2)).toNatClampNeg)]) (rest := [.int (bsF S (xs (nI (i9 + 1)).toNatClampNeg) (xs (nI (i9 + 2)).toNatClampNeg))]) ⟨hx, hb, hml, hown, hts⟩ (c_X2_breaks l9 dC dI ma mc S (xs (nI (i9 + 1)).toNatClampNeg) (xs (nI (i9 + 2)).toNatClampNeg) I) (cwV 2 hts gL_law_X2_breaks rfl rfl rfl (by decide +kernel) ⟨Nat.le_of_ble_eq_true rfl, Nat.le_of_ble_eq_true rfl⟩) roB_bl (va_recv hKm hPm (ci := 3) (q0 := 0) rfl rfl) (roB_at hPm hKm) rfl hl.1 rfl (Nat.le_of_ble_eq_true rfl) dL_law_727 hfc ?_
  refine f_ieq (tgt := 845) hx hb rfl rfl dL_law_730 (by decide) (fun _ => ?_) (fun h9 => absurd rfl h9)
  refine W.widen (k := 32 + 2 * (j9 + 1)) (n := 17271 + 1007 * (j9 + 1)) (by omega) (by omega) ?_
  exact kk S (mk, ed, cO, nn, pa, Za, tz) H locs ⟨I, hH0, by omega, hZ, hK, hP, hD, hS⟩
set_option maxHeartbeats 4000000 in
set_option maxRecDepth 100000 in
theorem law_broken {p9 : Program} {l9 : Launch} {e9 : Env} {s9 : State} {m9 : MethodId} {bl : List Frame} {me : Method} {c9 : Code} {dC : Nat → ClassId} {dI : Nat → Nat → Nat} {b9 L9 : Nat} {xs : Nat → Int32} (hL : L9 ≤ 3072) (C0 : lw_At p9 s9 m9 me c9 b9 L9 xs) {xa : Nat → Nat} {xc : Nat → ClassId} {ma : Nat → Nat} {mc : Nat → ClassId} {mi t0 t1 t2 : Nat} (hXs : xsB mi t0 (lA s9) s9) (hSt : stB t1 t2 (lA s9) s9) {i9 j9 : Nat} (hi : i9 = 6 * j9) (hiL : i9 + 6 ≤ L9) {S : St} {u9 : LU} {H : Heap} {locs : List Loc} (hG : LSt dC dI xa xc ma mc t0 s9 S u9 j9 H locs) {ls : Array Slot} (hl : lv_has ls 4 [(0, .ref b9), (1, .ref (xa 0)), (2, .ref (ma 0)), (3, .int (nI i9))]) (kk : ∀ (S1 : St) (u1 : LU) (H1 : Heap) (locs1 : List Loc), LSt dC dI xa xc ma mc t0 s9 S1 u1 (j9 + 1) H1 locs1 → W p9 l9 e9 room_1 s9 m9 #[Value.ref b9] bl me c9 H1 locs1 (32 + 2 * (j9 + 1)) (17271 + 1007 * (j9 + 1)) (lw_Z bl #[Value.ref b9] s9) (F0 m9 845 ls [])) : W p9 l9 e9 room_1 s9 m9 #[Value.ref b9] bl me c9 H locs (32 + 2 * j9) (17271 + 1007 * j9) (lw_Z bl #[Value.ref b9] s9) (F0 m9 735 ls []) := by
  obtain ⟨hx, hb, hr, hml, hown, hts0, hX, hbl, hlocks, hgv⟩ := C0
  have hts : ∀ w9 ∈ wsL_law, w9.before #[Value.ref b9] s9 = true := fun w9 h9 => hts0 w9 (wsL_law_in w9 h9)
  have hown : s9.vm.findClass RL = some m9.cls := hown
  have hA : ∀ q9 : Nat, s9.heap.size ≤ q9 → lA s9 q9 := fun _ h9 => h9
  have hbA : ¬ lA s9 b9 := Nat.not_le.mpr hbl
  obtain ⟨I, hH0, hTn, hZ, hK, hP, hD, hS⟩ := hG
  have hfc := lw_hc hL hi hiL
  obtain ⟨mk, ed, cO, nn, pa, Za, tz⟩ := u9
  have hK : va_K (dC, dI) vwCl ((xty xc ++ tz) ++ mty mc) s9 := hK
  have hP : va_P (dC, dI) vwCl (tW xa xc S mk ed (Za ++ tw pa S) ++ mw ma mc S) H := hP
  have hD : va_D (lA s9) (tW xa xc S mk ed (Za ++ tw pa S) ++ mw ma mc S) := hD
  have hKt : va_K (dC, dI) vwCl (xty xc ++ tz) s9 := kl_left hK
  have hKx : va_K (dC, dI) vwCl (xty xc) s9 := kl_left hKt
  have hKm : va_K (dC, dI) vwCl (mty mc) s9 := kl_right hK
  have hPt : va_P (dC, dI) vwCl (tW xa xc S mk ed (Za ++ tw pa S)) H := pl_left hP
  have hPx : va_P (dC, dI) vwCl (xw xa xc S) H := pl_left hPt
  have hPm : va_P (dC, dI) vwCl (mw ma mc S) H := pl_right hP
  refine lv_aload_n hx hb dL_law_735 rfl (lv_at hl 1 rfl) ?_
  refine lv_aload_n hx hb dL_law_736 rfl (lv_at hl 0 rfl) ?_
  refine lv_iload_n hx hb dL_law_737 rfl (lv_at hl 3 rfl) ?_
  refine lv_iconst (v := nI 1) hx hb dL_law_738 (by decide) ?_
  refine lv_iadd hx hb dL_law_739 ?_
  refine f_ti (y := nI (i9 + 1)) (nI_add _ _) ?_
  refine va_sld hx hb hX hbl hbA hS (i := nI (i9 + 1)) (vp_in_nI (by omega) (by omega)) dL_law_740 ?_
  refine lv_aload_n hx hb dL_law_741 rfl (lv_at hl 0 rfl) ?_
  refine lv_iload_n hx hb dL_law_742 rfl (lv_at hl 3 rfl) ?_
  refine lv_iconst (v := nI 2) hx hb dL_law_743 (by decide) ?_
  refine lv_iadd hx hb dL_law_744 ?_
  refine f_ti (y := nI (i9 + 2)) (nI_add _ _) ?_
  refine va_sld hx hb hX hbl hbA hS (i := nI (i9 + 2)) (vp_in_nI (by omega) (by omega)) dL_law_745 ?_
  refine lv_aload_n hx hb dL_law_746 rfl (lv_at hl 0 rfl) ?_
  refine lv_iload_n hx hb dL_law_747 rfl (lv_at hl 3 rfl) ?_
  refine lv_iconst (v := nI 3) hx hb dL_law_748 (by decide) ?_
  refine lv_iadd hx hb dL_law_749 ?_
  refine f_ti (y := nI (i9 + 3)) (nI_add _ _) ?_
  refine va_sld hx hb hX hbl hbA hS (i := nI (i9 + 3)) (vp_in_nI (by omega) (by omega)) dL_law_750 ?_
  refine lv_aload_n hx hb dL_law_751 rfl (lv_at hl 0 rfl) ?_
  refine lv_iload_n hx hb dL_law_752 rfl (lv_at hl 3 rfl) ?_
  refine lv_iconst (v := nI 4) hx hb dL_law_753 (by decide) ?_
  refine lv_iadd hx hb dL_law_754 ?_
  refine f_ti (y := nI (i9 + 4)) (nI_add _ _) ?_
  refine va_sld hx hb hX hbl hbA hS (i := nI (i9 + 4)) (vp_in_nI (by omega) (by omega)) dL_law_755 ?_
  refine f_cVi (As := [.int (xs (nI (i9 + 1)).toNatClampNeg), .int (xs (nI (i9 + 2)).toNatClampNeg), .int (xs (nI (i9 + 3)).toNatClampNeg), .int (xs (nI (i9 + 4)).toNatClampNeg)]) (rest := []) ⟨hx, hb, hml, hown, hts⟩ (c_X1_broken l9 dC dI xa xc S (xs (nI (i9 + 1)).toNatClampNeg) (xs (nI (i9 + 2)).toNatClampNeg) (xs (nI (i9 + 3)).toNatClampNeg) (xs (nI (i9 + 4)).toNatClampNeg) I) (cwV 4 hts gL_law_X1_broken rfl rfl rfl (by decide +kernel) ⟨Nat.le_of_ble_eq_true rfl, Nat.le_of_ble_eq_true rfl⟩) roB_bl (va_recv hKx hPx (ci := 2) (q0 := 0) rfl rfl) (roB_at hPx hKx) rfl hl.1 rfl (Nat.le_of_ble_eq_true rfl) dL_law_756 hfc ?_
  refine lv_aload_n hx hb dL_law_759 rfl (lv_at hl 2 rfl) ?_
  refine lv_aload_n hx hb dL_law_760 rfl (lv_at hl 0 rfl) ?_
  refine lv_iload_n hx hb dL_law_761 rfl (lv_at hl 3 rfl) ?_
  refine lv_iconst (v := nI 1) hx hb dL_law_762 (by decide) ?_
  refine lv_iadd hx hb dL_law_763 ?_
  refine f_ti (y := nI (i9 + 1)) (nI_add _ _) ?_
  refine va_sld hx hb hX hbl hbA hS (i := nI (i9 + 1)) (vp_in_nI (by omega) (by omega)) dL_law_764 ?_
  refine lv_aload_n hx hb dL_law_765 rfl (lv_at hl 0 rfl) ?_
  refine lv_iload_n hx hb dL_law_766 rfl (lv_at hl 3 rfl) ?_
  refine lv_iconst (v := nI 2) hx hb dL_law_767 (by decide) ?_
  refine lv_iadd hx hb dL_law_768 ?_
  refine f_ti (y := nI (i9 + 2)) (nI_add _ _) ?_
  refine va_sld hx hb hX hbl hbA hS (i := nI (i9 + 2)) (vp_in_nI (by omega) (by omega)) dL_law_769 ?_
  refine lv_aload_n hx hb dL_law_770 rfl (lv_at hl 0 rfl) ?_
  refine lv_iload_n hx hb dL_law_771 rfl (lv_at hl 3 rfl) ?_
  refine lv_iconst (v := nI 3) hx hb dL_law_772 (by decide) ?_
  refine lv_iadd hx hb dL_law_773 ?_
  refine f_ti (y := nI (i9 + 3)) (nI_add _ _) ?_
  refine va_sld hx hb hX hbl hbA hS (i := nI (i9 + 3)) (vp_in_nI (by omega) (by omega)) dL_law_774 ?_
  refine lv_aload_n hx hb dL_law_775 rfl (lv_at hl 0 rfl) ?_
  refine lv_iload_n hx hb dL_law_776 rfl (lv_at hl 3 rfl) ?_
  refine lv_iconst (v := nI 4) hx hb dL_law_777 (by decide) ?_
  refine lv_iadd hx hb dL_law_778 ?_
  refine f_ti (y := nI (i9 + 4)) (nI_add _ _) ?_
  refine va_sld hx hb hX hbl hbA hS (i := nI (i9 + 4)) (vp_in_nI (by omega) (by omega)) dL_law_779 ?_
  refine f_cVi (As := [.int (xs (nI (i9 + 1)).toNatClampNeg), .int (xs (nI (i9 + 2)).toNatClampNeg), .int (xs (nI (i9 + 3)).toNatClampNeg), .int (xs (nI (i9 + 4)).toNatClampNeg)]) (rest := [.int (bnF S (xs (nI (i9 + 1)).toNatClampNeg) (xs (nI (i9 + 2)).toNatClampNeg) (xs (nI (i9 + 3)).toNatClampNeg) (xs (nI (i9 + 4)).toNatClampNeg))]) ⟨hx, hb, hml, hown, hts⟩ (c_X2_broken l9 dC dI ma mc S (xs (nI (i9 + 1)).toNatClampNeg) (xs (nI (i9 + 2)).toNatClampNeg) (xs (nI (i9 + 3)).toNatClampNeg) (xs (nI (i9 + 4)).toNatClampNeg) I) (cwV 4 hts gL_law_X2_broken rfl rfl rfl (by decide +kernel) ⟨Nat.le_of_ble_eq_true rfl, Nat.le_of_ble_eq_true rfl⟩) roB_bl (va_recv hKm hPm (ci := 3) (q0 := 0) rfl rfl) (roB_at hPm hKm) rfl hl.1 rfl (Nat.le_of_ble_eq_true rfl) dL_law_780 hfc ?_
  refine f_ieq (tgt := 845) hx hb rfl rfl dL_law_783 (by decide) (fun _ => ?_) (fun h9 => absurd rfl h9)
  refine W.widen (k := 32 + 2 * (j9 + 1)) (n := 17271 + 1007 * (j9 + 1)) (by omega) (by omega) ?_
  exact kk S (mk, ed, cO, nn, pa, Za, tz) H locs ⟨I, hH0, by omega, hZ, hK, hP, hD, hS⟩
set_option maxHeartbeats 4000000 in
set_option maxRecDepth 100000 in
theorem law_about {p9 : Program} {l9 : Launch} {e9 : Env} {s9 : State} {m9 : MethodId} {bl : List Frame} {me : Method} {c9 : Code} {dC : Nat → ClassId} {dI : Nat → Nat → Nat} {b9 L9 : Nat} {xs : Nat → Int32} (hL : L9 ≤ 3072) (C0 : lw_At p9 s9 m9 me c9 b9 L9 xs) {xa : Nat → Nat} {xc : Nat → ClassId} {ma : Nat → Nat} {mc : Nat → ClassId} {mi t0 t1 t2 : Nat} (hXs : xsB mi t0 (lA s9) s9) (hSt : stB t1 t2 (lA s9) s9) {i9 j9 : Nat} (hi : i9 = 6 * j9) (hiL : i9 + 6 ≤ L9) {S : St} {u9 : LU} {H : Heap} {locs : List Loc} (hG : LSt dC dI xa xc ma mc t0 s9 S u9 j9 H locs) {ls : Array Slot} (hl : lv_has ls 4 [(0, .ref b9), (1, .ref (xa 0)), (2, .ref (ma 0)), (3, .int (nI i9))]) (kk : ∀ (S1 : St) (u1 : LU) (H1 : Heap) (locs1 : List Loc), LSt dC dI xa xc ma mc t0 s9 S1 u1 (j9 + 1) H1 locs1 → W p9 l9 e9 room_1 s9 m9 #[Value.ref b9] bl me c9 H1 locs1 (32 + 2 * (j9 + 1)) (17271 + 1007 * (j9 + 1)) (lw_Z bl #[Value.ref b9] s9) (F0 m9 845 ls [])) : W p9 l9 e9 room_1 s9 m9 #[Value.ref b9] bl me c9 H locs (32 + 2 * j9) (17271 + 1007 * j9) (lw_Z bl #[Value.ref b9] s9) (F0 m9 490 ls []) := by
  obtain ⟨hx, hb, hr, hml, hown, hts0, hX, hbl, hlocks, hgv⟩ := C0
  have hts : ∀ w9 ∈ wsL_law, w9.before #[Value.ref b9] s9 = true := fun w9 h9 => hts0 w9 (wsL_law_in w9 h9)
  have hown : s9.vm.findClass RL = some m9.cls := hown
  have hA : ∀ q9 : Nat, s9.heap.size ≤ q9 → lA s9 q9 := fun _ h9 => h9
  have hbA : ¬ lA s9 b9 := Nat.not_le.mpr hbl
  obtain ⟨I, hH0, hTn, hZ, hK, hP, hD, hS⟩ := hG
  have hfc := lw_hc hL hi hiL
  obtain ⟨mk, ed, cO, nn, pa, Za, tz⟩ := u9
  have hK : va_K (dC, dI) vwCl ((xty xc ++ tz) ++ mty mc) s9 := hK
  have hP : va_P (dC, dI) vwCl (tW xa xc S mk ed (Za ++ tw pa S) ++ mw ma mc S) H := hP
  have hD : va_D (lA s9) (tW xa xc S mk ed (Za ++ tw pa S) ++ mw ma mc S) := hD
  have hKt : va_K (dC, dI) vwCl (xty xc ++ tz) s9 := kl_left hK
  have hKx : va_K (dC, dI) vwCl (xty xc) s9 := kl_left hKt
  have hKm : va_K (dC, dI) vwCl (mty mc) s9 := kl_right hK
  have hPt : va_P (dC, dI) vwCl (tW xa xc S mk ed (Za ++ tw pa S)) H := pl_left hP
  have hPx : va_P (dC, dI) vwCl (xw xa xc S) H := pl_left hPt
  have hPm : va_P (dC, dI) vwCl (mw ma mc S) H := pl_right hP
  have hlz : lstZ S ed nn cO pa (Za ++ tw pa S) tz := luZ_lst (u9 := (mk, ed, cO, nn, pa, Za, tz)) hZ
  refine lv_aload_n hx hb dL_law_490 rfl (lv_at hl 1 rfl) ?_
  refine lv_aload_n hx hb dL_law_491 rfl (lv_at hl 0 rfl) ?_
  refine lv_iload_n hx hb dL_law_492 rfl (lv_at hl 3 rfl) ?_
  refine lv_iconst (v := nI 1) hx hb dL_law_493 (by decide) ?_
  refine lv_iadd hx hb dL_law_494 ?_
  refine f_ti (y := nI (i9 + 1)) (nI_add _ _) ?_
  refine va_sld hx hb hX hbl hbA hS (i := nI (i9 + 1)) (vp_in_nI (by omega) (by omega)) dL_law_495 ?_
  refine f_cVl (As := [.int (xs (nI (i9 + 1)).toNatClampNeg)]) (rest := []) ⟨hx, hb, hml, hown, hts⟩ (c_X1_about l9 dC dI xa xc S mk ed nn cO pa (Za ++ tw pa S) tz (xs (nI (i9 + 1)).toNatClampNeg) I (by omega) hlz) (cwV 1 hts gL_law_X1_about rfl rfl rfl (by decide +kernel) ⟨Nat.le_of_ble_eq_true rfl, Nat.le_of_ble_eq_true rfl⟩) tB_bl (va_recv hKx hPx (ci := 2) (q0 := 0) rfl rfl) (tB_at hPt hKt hXs.2.2.1) rfl hl.1 rfl (Nat.le_of_ble_eq_true rfl) dL_law_496 hfc ?_
  refine lv_aload_n hx hb dL_law_499 rfl (lv_at hl 2 rfl) ?_
  refine lv_aload_n hx hb dL_law_500 rfl (lv_at hl 0 rfl) ?_
  refine lv_iload_n hx hb dL_law_501 rfl (lv_at hl 3 rfl) ?_
  refine lv_iconst (v := nI 1) hx hb dL_law_502 (by decide) ?_
  refine lv_iadd hx hb dL_law_503 ?_
  refine f_ti (y := nI (i9 + 1)) (nI_add _ _) ?_
  refine va_sld hx hb hX hbl hbA hS (i := nI (i9 + 1)) (vp_in_nI (by omega) (by omega)) dL_law_504 ?_
  refine f_cVl (As := [.int (xs (nI (i9 + 1)).toNatClampNeg)]) (rest := [.long (abF S (xs (nI (i9 + 1)).toNatClampNeg))]) ⟨hx, hb, hml, hown, hts⟩ (c_X2_about l9 dC dI ma mc S (xs (nI (i9 + 1)).toNatClampNeg) I (by omega)) (cwV 1 hts gL_law_X2_about rfl rfl rfl (by decide +kernel) ⟨Nat.le_of_ble_eq_true rfl, Nat.le_of_ble_eq_true rfl⟩) roB_bl (va_recv hKm hPm (ci := 3) (q0 := 0) rfl rfl) (roB_at hPm hKm) rfl hl.1 rfl (Nat.le_of_ble_eq_true rfl) dL_law_505 hfc ?_
  refine f_leq (tgt := 845) hx hb rfl rfl dL_law_508 dL_law_509 (by decide) (fun _ => ?_) (fun h9 => absurd rfl h9)
  refine W.widen (k := 32 + 2 * (j9 + 1)) (n := 17271 + 1007 * (j9 + 1)) (by omega) (by omega) ?_
  exact kk S (mk, ed, cO, nn, pa, Za, tz) H locs ⟨I, hH0, by omega, hZ, hK, hP, hD, hS⟩
set_option maxHeartbeats 4000000 in
set_option maxRecDepth 100000 in
theorem law_holds {p9 : Program} {l9 : Launch} {e9 : Env} {s9 : State} {m9 : MethodId} {bl : List Frame} {me : Method} {c9 : Code} {dC : Nat → ClassId} {dI : Nat → Nat → Nat} {b9 L9 : Nat} {xs : Nat → Int32} (hL : L9 ≤ 3072) (C0 : lw_At p9 s9 m9 me c9 b9 L9 xs) {xa : Nat → Nat} {xc : Nat → ClassId} {ma : Nat → Nat} {mc : Nat → ClassId} {mi t0 t1 t2 : Nat} (hXs : xsB mi t0 (lA s9) s9) (hSt : stB t1 t2 (lA s9) s9) {i9 j9 : Nat} (hi : i9 = 6 * j9) (hiL : i9 + 6 ≤ L9) {S : St} {u9 : LU} {H : Heap} {locs : List Loc} (hG : LSt dC dI xa xc ma mc t0 s9 S u9 j9 H locs) {ls : Array Slot} (hl : lv_has ls 4 [(0, .ref b9), (1, .ref (xa 0)), (2, .ref (ma 0)), (3, .int (nI i9))]) (kk : ∀ (S1 : St) (u1 : LU) (H1 : Heap) (locs1 : List Loc), LSt dC dI xa xc ma mc t0 s9 S1 u1 (j9 + 1) H1 locs1 → W p9 l9 e9 room_1 s9 m9 #[Value.ref b9] bl me c9 H1 locs1 (32 + 2 * (j9 + 1)) (17271 + 1007 * (j9 + 1)) (lw_Z bl #[Value.ref b9] s9) (F0 m9 845 ls [])) : W p9 l9 e9 room_1 s9 m9 #[Value.ref b9] bl me c9 H locs (32 + 2 * j9) (17271 + 1007 * j9) (lw_Z bl #[Value.ref b9] s9) (F0 m9 514 ls []) := by
  obtain ⟨hx, hb, hr, hml, hown, hts0, hX, hbl, hlocks, hgv⟩ := C0
  have hts : ∀ w9 ∈ wsL_law, w9.before #[Value.ref b9] s9 = true := fun w9 h9 => hts0 w9 (wsL_law_in w9 h9)
  have hown : s9.vm.findClass RL = some m9.cls := hown
  have hA : ∀ q9 : Nat, s9.heap.size ≤ q9 → lA s9 q9 := fun _ h9 => h9
  have hbA : ¬ lA s9 b9 := Nat.not_le.mpr hbl
  obtain ⟨I, hH0, hTn, hZ, hK, hP, hD, hS⟩ := hG
  have hfc := lw_hc hL hi hiL
  obtain ⟨mk, ed, cO, nn, pa, Za, tz⟩ := u9
  have hK : va_K (dC, dI) vwCl ((xty xc ++ tz) ++ mty mc) s9 := hK
  have hP : va_P (dC, dI) vwCl (tW xa xc S mk ed (Za ++ tw pa S) ++ mw ma mc S) H := hP
  have hD : va_D (lA s9) (tW xa xc S mk ed (Za ++ tw pa S) ++ mw ma mc S) := hD
  have hKt : va_K (dC, dI) vwCl (xty xc ++ tz) s9 := kl_left hK
  have hKx : va_K (dC, dI) vwCl (xty xc) s9 := kl_left hKt
  have hKm : va_K (dC, dI) vwCl (mty mc) s9 := kl_right hK
  have hPt : va_P (dC, dI) vwCl (tW xa xc S mk ed (Za ++ tw pa S)) H := pl_left hP
  have hPx : va_P (dC, dI) vwCl (xw xa xc S) H := pl_left hPt
  have hPm : va_P (dC, dI) vwCl (mw ma mc S) H := pl_right hP
  have hlz : lstZ S ed nn cO pa (Za ++ tw pa S) tz := luZ_lst (u9 := (mk, ed, cO, nn, pa, Za, tz)) hZ
  refine lv_aload_n hx hb dL_law_514 rfl (lv_at hl 1 rfl) ?_
  refine lv_aload_n hx hb dL_law_515 rfl (lv_at hl 0 rfl) ?_
  refine lv_iload_n hx hb dL_law_516 rfl (lv_at hl 3 rfl) ?_
  refine lv_iconst (v := nI 1) hx hb dL_law_517 (by decide) ?_
  refine lv_iadd hx hb dL_law_518 ?_
  refine f_ti (y := nI (i9 + 1)) (nI_add _ _) ?_
  refine va_sld hx hb hX hbl hbA hS (i := nI (i9 + 1)) (vp_in_nI (by omega) (by omega)) dL_law_519 ?_
  refine lv_aload_n hx hb dL_law_520 rfl (lv_at hl 0 rfl) ?_
  refine lv_iload_n hx hb dL_law_521 rfl (lv_at hl 3 rfl) ?_
  refine lv_iconst (v := nI 2) hx hb dL_law_522 (by decide) ?_
  refine lv_iadd hx hb dL_law_523 ?_
  refine f_ti (y := nI (i9 + 2)) (nI_add _ _) ?_
  refine va_sld hx hb hX hbl hbA hS (i := nI (i9 + 2)) (vp_in_nI (by omega) (by omega)) dL_law_524 ?_
  refine f_cVl (As := [.int (xs (nI (i9 + 1)).toNatClampNeg), .int (xs (nI (i9 + 2)).toNatClampNeg)]) (rest := []) ⟨hx, hb, hml, hown, hts⟩ (c_X1_holds l9 dC dI xa xc S mk ed nn cO pa (Za ++ tw pa S) tz (xs (nI (i9 + 1)).toNatClampNeg) (xs (nI (i9 + 2)).toNatClampNeg) I (by omega) hlz) (cwV 2 hts gL_law_X1_holds rfl rfl rfl (by decide +kernel) ⟨Nat.le_of_ble_eq_true rfl, Nat.le_of_ble_eq_true rfl⟩) tB_bl (va_recv hKx hPx (ci := 2) (q0 := 0) rfl rfl) (tB_at hPt hKt hXs.2.2.1) rfl hl.1 rfl (Nat.le_of_ble_eq_true rfl) dL_law_525 hfc ?_
  refine lv_aload_n hx hb dL_law_528 rfl (lv_at hl 2 rfl) ?_
  refine lv_aload_n hx hb dL_law_529 rfl (lv_at hl 0 rfl) ?_
  refine lv_iload_n hx hb dL_law_530 rfl (lv_at hl 3 rfl) ?_
  refine lv_iconst (v := nI 1) hx hb dL_law_531 (by decide) ?_
  refine lv_iadd hx hb dL_law_532 ?_
  refine f_ti (y := nI (i9 + 1)) (nI_add _ _) ?_
  refine va_sld hx hb hX hbl hbA hS (i := nI (i9 + 1)) (vp_in_nI (by omega) (by omega)) dL_law_533 ?_
  refine lv_aload_n hx hb dL_law_534 rfl (lv_at hl 0 rfl) ?_
  refine lv_iload_n hx hb dL_law_535 rfl (lv_at hl 3 rfl) ?_
  refine lv_iconst (v := nI 2) hx hb dL_law_536 (by decide) ?_
  refine lv_iadd hx hb dL_law_537 ?_
  refine f_ti (y := nI (i9 + 2)) (nI_add _ _) ?_
  refine va_sld hx hb hX hbl hbA hS (i := nI (i9 + 2)) (vp_in_nI (by omega) (by omega)) dL_law_538 ?_
  refine f_cVl (As := [.int (xs (nI (i9 + 1)).toNatClampNeg), .int (xs (nI (i9 + 2)).toNatClampNeg)]) (rest := [.long (hoF S (xs (nI (i9 + 1)).toNatClampNeg) (xs (nI (i9 + 2)).toNatClampNeg))]) ⟨hx, hb, hml, hown, hts⟩ (c_X2_holds l9 dC dI ma mc S (xs (nI (i9 + 1)).toNatClampNeg) (xs (nI (i9 + 2)).toNatClampNeg) I (by omega)) (cwV 2 hts gL_law_X2_holds rfl rfl rfl (by decide +kernel) ⟨Nat.le_of_ble_eq_true rfl, Nat.le_of_ble_eq_true rfl⟩) roB_bl (va_recv hKm hPm (ci := 3) (q0 := 0) rfl rfl) (roB_at hPm hKm) rfl hl.1 rfl (Nat.le_of_ble_eq_true rfl) dL_law_539 hfc ?_
  refine f_leq (tgt := 845) hx hb rfl rfl dL_law_542 dL_law_543 (by decide) (fun _ => ?_) (fun h9 => absurd rfl h9)
  refine W.widen (k := 32 + 2 * (j9 + 1)) (n := 17271 + 1007 * (j9 + 1)) (by omega) (by omega) ?_
  exact kk S (mk, ed, cO, nn, pa, Za, tz) H locs ⟨I, hH0, by omega, hZ, hK, hP, hD, hS⟩
set_option maxHeartbeats 4000000 in
set_option maxRecDepth 100000 in
theorem law_taken {p9 : Program} {l9 : Launch} {e9 : Env} {s9 : State} {m9 : MethodId} {bl : List Frame} {me : Method} {c9 : Code} {dC : Nat → ClassId} {dI : Nat → Nat → Nat} {b9 L9 : Nat} {xs : Nat → Int32} (hL : L9 ≤ 3072) (C0 : lw_At p9 s9 m9 me c9 b9 L9 xs) {xa : Nat → Nat} {xc : Nat → ClassId} {ma : Nat → Nat} {mc : Nat → ClassId} {mi t0 t1 t2 : Nat} (hXs : xsB mi t0 (lA s9) s9) (hSt : stB t1 t2 (lA s9) s9) {i9 j9 : Nat} (hi : i9 = 6 * j9) (hiL : i9 + 6 ≤ L9) {S : St} {u9 : LU} {H : Heap} {locs : List Loc} (hG : LSt dC dI xa xc ma mc t0 s9 S u9 j9 H locs) {ls : Array Slot} (hl : lv_has ls 4 [(0, .ref b9), (1, .ref (xa 0)), (2, .ref (ma 0)), (3, .int (nI i9))]) (kk : ∀ (S1 : St) (u1 : LU) (H1 : Heap) (locs1 : List Loc), LSt dC dI xa xc ma mc t0 s9 S1 u1 (j9 + 1) H1 locs1 → W p9 l9 e9 room_1 s9 m9 #[Value.ref b9] bl me c9 H1 locs1 (32 + 2 * (j9 + 1)) (17271 + 1007 * (j9 + 1)) (lw_Z bl #[Value.ref b9] s9) (F0 m9 845 ls [])) : W p9 l9 e9 room_1 s9 m9 #[Value.ref b9] bl me c9 H locs (32 + 2 * j9) (17271 + 1007 * j9) (lw_Z bl #[Value.ref b9] s9) (F0 m9 811 ls []) := by
  obtain ⟨hx, hb, hr, hml, hown, hts0, hX, hbl, hlocks, hgv⟩ := C0
  have hts : ∀ w9 ∈ wsL_law, w9.before #[Value.ref b9] s9 = true := fun w9 h9 => hts0 w9 (wsL_law_in w9 h9)
  have hown : s9.vm.findClass RL = some m9.cls := hown
  have hA : ∀ q9 : Nat, s9.heap.size ≤ q9 → lA s9 q9 := fun _ h9 => h9
  have hbA : ¬ lA s9 b9 := Nat.not_le.mpr hbl
  obtain ⟨I, hH0, hTn, hZ, hK, hP, hD, hS⟩ := hG
  have hfc := lw_hc hL hi hiL
  obtain ⟨mk, ed, cO, nn, pa, Za, tz⟩ := u9
  have hK : va_K (dC, dI) vwCl ((xty xc ++ tz) ++ mty mc) s9 := hK
  have hP : va_P (dC, dI) vwCl (tW xa xc S mk ed (Za ++ tw pa S) ++ mw ma mc S) H := hP
  have hD : va_D (lA s9) (tW xa xc S mk ed (Za ++ tw pa S) ++ mw ma mc S) := hD
  have hKt : va_K (dC, dI) vwCl (xty xc ++ tz) s9 := kl_left hK
  have hKx : va_K (dC, dI) vwCl (xty xc) s9 := kl_left hKt
  have hKm : va_K (dC, dI) vwCl (mty mc) s9 := kl_right hK
  have hPt : va_P (dC, dI) vwCl (tW xa xc S mk ed (Za ++ tw pa S)) H := pl_left hP
  have hPx : va_P (dC, dI) vwCl (xw xa xc S) H := pl_left hPt
  have hPm : va_P (dC, dI) vwCl (mw ma mc S) H := pl_right hP
  have hlz : lstZ S ed nn cO pa (Za ++ tw pa S) tz := luZ_lst (u9 := (mk, ed, cO, nn, pa, Za, tz)) hZ
  refine lv_aload_n hx hb dL_law_811 rfl (lv_at hl 1 rfl) ?_
  refine lv_aload_n hx hb dL_law_812 rfl (lv_at hl 0 rfl) ?_
  refine lv_iload_n hx hb dL_law_813 rfl (lv_at hl 3 rfl) ?_
  refine lv_iconst (v := nI 1) hx hb dL_law_814 (by decide) ?_
  refine lv_iadd hx hb dL_law_815 ?_
  refine f_ti (y := nI (i9 + 1)) (nI_add _ _) ?_
  refine va_sld hx hb hX hbl hbA hS (i := nI (i9 + 1)) (vp_in_nI (by omega) (by omega)) dL_law_816 ?_
  refine lv_aload_n hx hb dL_law_817 rfl (lv_at hl 0 rfl) ?_
  refine lv_iload_n hx hb dL_law_818 rfl (lv_at hl 3 rfl) ?_
  refine lv_iconst (v := nI 2) hx hb dL_law_819 (by decide) ?_
  refine lv_iadd hx hb dL_law_820 ?_
  refine f_ti (y := nI (i9 + 2)) (nI_add _ _) ?_
  refine va_sld hx hb hX hbl hbA hS (i := nI (i9 + 2)) (vp_in_nI (by omega) (by omega)) dL_law_821 ?_
  refine f_cVl (As := [.int (xs (nI (i9 + 1)).toNatClampNeg), .int (xs (nI (i9 + 2)).toNatClampNeg)]) (rest := []) ⟨hx, hb, hml, hown, hts⟩ (c_X1_taken l9 dC dI xa xc S mk ed nn cO pa (Za ++ tw pa S) tz (xs (nI (i9 + 1)).toNatClampNeg) (xs (nI (i9 + 2)).toNatClampNeg) I (by omega) hlz) (cwV 2 hts gL_law_X1_taken rfl rfl rfl (by decide +kernel) ⟨Nat.le_of_ble_eq_true rfl, Nat.le_of_ble_eq_true rfl⟩) tB_bl (va_recv hKx hPx (ci := 2) (q0 := 0) rfl rfl) (tB_at hPt hKt hXs.2.2.1) rfl hl.1 rfl (Nat.le_of_ble_eq_true rfl) dL_law_822 hfc ?_
  refine lv_aload_n hx hb dL_law_825 rfl (lv_at hl 2 rfl) ?_
  refine lv_aload_n hx hb dL_law_826 rfl (lv_at hl 0 rfl) ?_
  refine lv_iload_n hx hb dL_law_827 rfl (lv_at hl 3 rfl) ?_
  refine lv_iconst (v := nI 1) hx hb dL_law_828 (by decide) ?_
  refine lv_iadd hx hb dL_law_829 ?_
  refine f_ti (y := nI (i9 + 1)) (nI_add _ _) ?_
  refine va_sld hx hb hX hbl hbA hS (i := nI (i9 + 1)) (vp_in_nI (by omega) (by omega)) dL_law_830 ?_
  refine lv_aload_n hx hb dL_law_831 rfl (lv_at hl 0 rfl) ?_
  refine lv_iload_n hx hb dL_law_832 rfl (lv_at hl 3 rfl) ?_
  refine lv_iconst (v := nI 2) hx hb dL_law_833 (by decide) ?_
  refine lv_iadd hx hb dL_law_834 ?_
  refine f_ti (y := nI (i9 + 2)) (nI_add _ _) ?_
  refine va_sld hx hb hX hbl hbA hS (i := nI (i9 + 2)) (vp_in_nI (by omega) (by omega)) dL_law_835 ?_
  refine f_cVl (As := [.int (xs (nI (i9 + 1)).toNatClampNeg), .int (xs (nI (i9 + 2)).toNatClampNeg)]) (rest := [.long (tkF S (xs (nI (i9 + 1)).toNatClampNeg) (xs (nI (i9 + 2)).toNatClampNeg))]) ⟨hx, hb, hml, hown, hts⟩ (c_X2_taken l9 dC dI ma mc S (xs (nI (i9 + 1)).toNatClampNeg) (xs (nI (i9 + 2)).toNatClampNeg) I (by omega)) (cwV 2 hts gL_law_X2_taken rfl rfl rfl (by decide +kernel) ⟨Nat.le_of_ble_eq_true rfl, Nat.le_of_ble_eq_true rfl⟩) roB_bl (va_recv hKm hPm (ci := 3) (q0 := 0) rfl rfl) (roB_at hPm hKm) rfl hl.1 rfl (Nat.le_of_ble_eq_true rfl) dL_law_836 hfc ?_
  refine f_leq (tgt := 845) hx hb rfl rfl dL_law_839 dL_law_840 (by decide) (fun _ => ?_) (fun h9 => absurd rfl h9)
  refine W.widen (k := 32 + 2 * (j9 + 1)) (n := 17271 + 1007 * (j9 + 1)) (by omega) (by omega) ?_
  exact kk S (mk, ed, cO, nn, pa, Za, tz) H locs ⟨I, hH0, by omega, hZ, hK, hP, hD, hS⟩
