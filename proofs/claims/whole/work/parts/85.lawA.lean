/-! the law: one call of each side -/
set_option maxHeartbeats 4000000 in
set_option maxRecDepth 100000 in
theorem law_said {p9 : Program} {l9 : Launch} {e9 : Env} {s9 : State} {m9 : MethodId} {bl : List Frame} {me : Method} {c9 : Code} {dC : Nat → ClassId} {dI : Nat → Nat → Nat} {b9 L9 : Nat} {xs : Nat → Int32} (hL : L9 ≤ 3072) (C0 : lw_At p9 s9 m9 me c9 b9 L9 xs) {xa : Nat → Nat} {xc : Nat → ClassId} {ma : Nat → Nat} {mc : Nat → ClassId} {mi t0 t1 t2 : Nat} (hXs : xsB mi t0 (lA s9) s9) (hSt : stB t1 t2 (lA s9) s9) {i9 j9 : Nat} (hi : i9 = 6 * j9) (hiL : i9 + 6 ≤ L9) {S : St} {u9 : LU} {H : Heap} {locs : List Loc} (hG : LSt dC dI xa xc ma mc t0 s9 S u9 j9 H locs) {ls : Array Slot} (hl : lv_has ls 4 [(0, .ref b9), (1, .ref (xa 0)), (2, .ref (ma 0)), (3, .int (nI i9))]) (kk : ∀ (S1 : St) (u1 : LU) (H1 : Heap) (locs1 : List Loc), LSt dC dI xa xc ma mc t0 s9 S1 u1 (j9 + 1) H1 locs1 → W p9 l9 e9 room_1 s9 m9 #[Value.ref b9] bl me c9 H1 locs1 (32 + 2 * (j9 + 1)) (17271 + 1007 * (j9 + 1)) (lw_Z bl #[Value.ref b9] s9) (F0 m9 845 ls [])) : W p9 l9 e9 room_1 s9 m9 #[Value.ref b9] bl me c9 H locs (32 + 2 * j9) (17271 + 1007 * j9) (lw_Z bl #[Value.ref b9] s9) (F0 m9 548 ls []) := by
  obtain ⟨hx, hb, hr, hml, hown, hts0, hX, hbl, hlocks, hgv⟩ := C0
  have hts : ∀ w9 ∈ wsL_law, w9.before #[Value.ref b9] s9 = true := fun w9 h9 => hts0 w9 (wsL_law_in w9 h9)
  have hown : s9.vm.findClass RL = some m9.cls := hown
  have hA : ∀ q9 : Nat, s9.heap.size ≤ q9 → lA s9 q9 := fun _ h9 => h9
  have hbA : ¬ lA s9 b9 := Nat.not_le.mpr hbl
  obtain ⟨I, hH0, hTn, hZ, hK, hP, hD, hS⟩ := hG
  have hfc := lw_hc hL hi hiL
  obtain ⟨mk, ed, cO, nn, pa, Za, tz⟩ := u9
  have hK : va_K (dC, dI) vwCl ((xty xc ++ tz) ++ mty mc) s9 := hK
  have hP : va_P (dC, dI) vwCl (tW xa xc S mk ed (Za ++ tw pa S) ++ mw ma mc S) H := hP
  have hD : va_D (lA s9) (tW xa xc S mk ed (Za ++ tw pa S) ++ mw ma mc S) := hD
  have hKt : va_K (dC, dI) vwCl (xty xc ++ tz) s9 := kl_left hK
  have hKx : va_K (dC, dI) vwCl (xty xc) s9 := kl_left hKt
  have hKm : va_K (dC, dI) vwCl (mty mc) s9 := kl_right hK
  have hPt : va_P (dC, dI) vwCl (tW xa xc S mk ed (Za ++ tw pa S)) H := pl_left hP
  have hPx : va_P (dC, dI) vwCl (xw xa xc S) H := pl_left hPt
  have hPm : va_P (dC, dI) vwCl (mw ma mc S) H := pl_right hP
  refine lv_aload_n hx hb dL_law_548 rfl (lv_at hl 1 rfl) ?_
  refine lv_aload_n hx hb dL_law_549 rfl (lv_at hl 0 rfl) ?_
  refine lv_iload_n hx hb dL_law_550 rfl (lv_at hl 3 rfl) ?_
  refine lv_iconst (v := nI 1) hx hb dL_law_551 (by decide) ?_
  refine lv_iadd hx hb dL_law_552 ?_
  refine f_ti (y := nI (i9 + 1)) (nI_add _ _) ?_
  refine va_sld hx hb hX hbl hbA hS (i := nI (i9 + 1)) (vp_in_nI (by omega) (by omega)) dL_law_553 ?_
  refine lv_aload_n hx hb dL_law_554 rfl (lv_at hl 0 rfl) ?_
  refine lv_iload_n hx hb dL_law_555 rfl (lv_at hl 3 rfl) ?_
  refine lv_iconst (v := nI 2) hx hb dL_law_556 (by decide) ?_
  refine lv_iadd hx hb dL_law_557 ?_
  refine f_ti (y := nI (i9 + 2)) (nI_add _ _) ?_
  refine va_sld hx hb hX hbl hbA hS (i := nI (i9 + 2)) (vp_in_nI (by omega) (by omega)) dL_law_558 ?_
  refine f_cVi (As := [.int (xs (nI (i9 + 1)).toNatClampNeg), .int (xs (nI (i9 + 2)).toNatClampNeg)]) (rest := []) ⟨hx, hb, hml, hown, hts⟩ (c_X1_said l9 dC dI xa xc S (xs (nI (i9 + 1)).toNatClampNeg) (xs (nI (i9 + 2)).toNatClampNeg) I) (cwV 2 hts gL_law_X1_said rfl rfl rfl (by decide +kernel) ⟨Nat.le_of_ble_eq_true rfl, Nat.le_of_ble_eq_true rfl⟩) roB_bl (va_recv hKx hPx (ci := 2) (q0 := 0) rfl rfl) (roB_at hPx hKx) rfl hl.1 rfl (Nat.le_of_ble_eq_true rfl) dL_law_559 hfc ?_
  refine lv_aload_n hx hb dL_law_562 rfl (lv_at hl 2 rfl) ?_
  refine lv_aload_n hx hb dL_law_563 rfl (lv_at hl 0 rfl) ?_
  refine lv_iload_n hx hb dL_law_564 rfl (lv_at hl 3 rfl) ?_
  refine lv_iconst (v := nI 1) hx hb dL_law_565 (by decide) ?_
  refine lv_iadd hx hb dL_law_566 ?_
  refine f_ti (y := nI (i9 + 1)) (nI_add _ _) ?_
  refine va_sld hx hb hX hbl hbA hS (i := nI (i9 + 1)) (vp_in_nI (by omega) (by omega)) dL_law_567 ?_
  refine lv_aload_n hx hb dL_law_568 rfl (lv_at hl 0 rfl) ?_
  refine lv_iload_n hx hb dL_law_569 rfl (lv_at hl 3 rfl) ?_
  refine lv_iconst (v := nI 2) hx hb dL_law_570 (by decide) ?_
  refine lv_iadd hx hb dL_law_571 ?_
  refine f_ti (y := nI (i9 + 2)) (nI_add _ _) ?_
  refine va_sld hx hb hX hbl hbA hS (i := nI (i9 + 2)) (vp_in_nI (by omega) (by omega)) dL_law_572 ?_
  refine f_cVi (As := [.int (xs (nI (i9 + 1)).toNatClampNeg), .int (xs (nI (i9 + 2)).toNatClampNeg)]) (rest := [.int (sdF S (xs (nI (i9 + 1)).toNatClampNeg) (xs (nI (i9 + 2)).toNatClampNeg))]) ⟨hx, hb, hml, hown, hts⟩ (c_X2_said l9 dC dI ma mc S (xs (nI (i9 + 1)).toNatClampNeg) (xs (nI (i9 + 2)).toNatClampNeg) I) (cwV 2 hts gL_law_X2_said rfl rfl rfl (by decide +kernel) ⟨Nat.le_of_ble_eq_true rfl, Nat.le_of_ble_eq_true rfl⟩) roB_bl (va_recv hKm hPm (ci := 3) (q0 := 0) rfl rfl) (roB_at hPm hKm) rfl hl.1 rfl (Nat.le_of_ble_eq_true rfl) dL_law_573 hfc ?_
  refine f_ieq (tgt := 845) hx hb rfl rfl dL_law_576 (by decide) (fun _ => ?_) (fun h9 => absurd rfl h9)
  refine W.widen (k := 32 + 2 * (j9 + 1)) (n := 17271 + 1007 * (j9 + 1)) (by omega) (by omega) ?_
  exact kk S (mk, ed, cO, nn, pa, Za, tz) H locs ⟨I, hH0, by omega, hZ, hK, hP, hD, hS⟩
set_option maxHeartbeats 4000000 in
set_option maxRecDepth 100000 in
theorem law_weight {p9 : Program} {l9 : Launch} {e9 : Env} {s9 : State} {m9 : MethodId} {bl : List Frame} {me : Method} {c9 : Code} {dC : Nat → ClassId} {dI : Nat → Nat → Nat} {b9 L9 : Nat} {xs : Nat → Int32} (hL : L9 ≤ 3072) (C0 : lw_At p9 s9 m9 me c9 b9 L9 xs) {xa : Nat → Nat} {xc : Nat → ClassId} {ma : Nat → Nat} {mc : Nat → ClassId} {mi t0 t1 t2 : Nat} (hXs : xsB mi t0 (lA s9) s9) (hSt : stB t1 t2 (lA s9) s9) {i9 j9 : Nat} (hi : i9 = 6 * j9) (hiL : i9 + 6 ≤ L9) {S : St} {u9 : LU} {H : Heap} {locs : List Loc} (hG : LSt dC dI xa xc ma mc t0 s9 S u9 j9 H locs) {ls : Array Slot} (hl : lv_has ls 4 [(0, .ref b9), (1, .ref (xa 0)), (2, .ref (ma 0)), (3, .int (nI i9))]) (kk : ∀ (S1 : St) (u1 : LU) (H1 : Heap) (locs1 : List Loc), LSt dC dI xa xc ma mc t0 s9 S1 u1 (j9 + 1) H1 locs1 → W p9 l9 e9 room_1 s9 m9 #[Value.ref b9] bl me c9 H1 locs1 (32 + 2 * (j9 + 1)) (17271 + 1007 * (j9 + 1)) (lw_Z bl #[Value.ref b9] s9) (F0 m9 845 ls [])) : W p9 l9 e9 room_1 s9 m9 #[Value.ref b9] bl me c9 H locs (32 + 2 * j9) (17271 + 1007 * j9) (lw_Z bl #[Value.ref b9] s9) (F0 m9 581 ls []) := by
  obtain ⟨hx, hb, hr, hml, hown, hts0, hX, hbl, hlocks, hgv⟩ := C0
  have hts : ∀ w9 ∈ wsL_law, w9.before #[Value.ref b9] s9 = true := fun w9 h9 => hts0 w9 (wsL_law_in w9 h9)
  have hown : s9.vm.findClass RL = some m9.cls := hown
  have hA : ∀ q9 : Nat, s9.heap.size ≤ q9 → lA s9 q9 := fun _ h9 => h9
  have hbA : ¬ lA s9 b9 := Nat.not_le.mpr hbl
  obtain ⟨I, hH0, hTn, hZ, hK, hP, hD, hS⟩ := hG
  have hfc := lw_hc hL hi hiL
  obtain ⟨mk, ed, cO, nn, pa, Za, tz⟩ := u9
  have hK : va_K (dC, dI) vwCl ((xty xc ++ tz) ++ mty mc) s9 := hK
  have hP : va_P (dC, dI) vwCl (tW xa xc S mk ed (Za ++ tw pa S) ++ mw ma mc S) H := hP
  have hD : va_D (lA s9) (tW xa xc S mk ed (Za ++ tw pa S) ++ mw ma mc S) := hD
  have hKt : va_K (dC, dI) vwCl (xty xc ++ tz) s9 := kl_left hK
  have hKx : va_K (dC, dI) vwCl (xty xc) s9 := kl_left hKt
  have hKm : va_K (dC, dI) vwCl (mty mc) s9 := kl_right hK
  have hPt : va_P (dC, dI) vwCl (tW xa xc S mk ed (Za ++ tw pa S)) H := pl_left hP
  have hPx : va_P (dC, dI) vwCl (xw xa xc S) H := pl_left hPt
  have hPm : va_P (dC, dI) vwCl (mw ma mc S) H := pl_right hP
  refine lv_aload_n hx hb dL_law_581 rfl (lv_at hl 1 rfl) ?_
  refine lv_aload_n hx hb dL_law_582 rfl (lv_at hl 0 rfl) ?_
  refine lv_iload_n hx hb dL_law_583 rfl (lv_at hl 3 rfl) ?_
  refine lv_iconst (v := nI 1) hx hb dL_law_584 (by decide) ?_
  refine lv_iadd hx hb dL_law_585 ?_
  refine f_ti (y := nI (i9 + 1)) (nI_add _ _) ?_
  refine va_sld hx hb hX hbl hbA hS (i := nI (i9 + 1)) (vp_in_nI (by omega) (by omega)) dL_law_586 ?_
  refine lv_aload_n hx hb dL_law_587 rfl (lv_at hl 0 rfl) ?_
  refine lv_iload_n hx hb dL_law_588 rfl (lv_at hl 3 rfl) ?_
  refine lv_iconst (v := nI 2) hx hb dL_law_589 (by decide) ?_
  refine lv_iadd hx hb dL_law_590 ?_
  refine f_ti (y := nI (i9 + 2)) (nI_add _ _) ?_
  refine va_sld hx hb hX hbl hbA hS (i := nI (i9 + 2)) (vp_in_nI (by omega) (by omega)) dL_law_591 ?_
  refine f_cVl (As := [.int (xs (nI (i9 + 1)).toNatClampNeg), .int (xs (nI (i9 + 2)).toNatClampNeg)]) (rest := []) ⟨hx, hb, hml, hown, hts⟩ (c_X1_weight l9 dC dI xa xc S (xs (nI (i9 + 1)).toNatClampNeg) (xs (nI (i9 + 2)).toNatClampNeg) I) (cwV 2 hts gL_law_X1_weight rfl rfl rfl (by decide +kernel) ⟨Nat.le_of_ble_eq_true rfl, Nat.le_of_ble_eq_true rfl⟩) roB_bl (va_recv hKx hPx (ci := 2) (q0 := 0) rfl rfl) (roB_at hPx hKx) rfl hl.1 rfl (Nat.le_of_ble_eq_true rfl) dL_law_592 hfc ?_
  refine lv_aload_n hx hb dL_law_595 rfl (lv_at hl 2 rfl) ?_
  refine lv_aload_n hx hb dL_law_596 rfl (lv_at hl 0 rfl) ?_
  refine lv_iload_n hx hb dL_law_597 rfl (lv_at hl 3 rfl) ?_
  refine lv_iconst (v := nI 1) hx hb dL_law_598 (by decide) ?_
  refine lv_iadd hx hb dL_law_599 ?_
  refine f_ti (y := nI (i9 + 1)) (nI_add _ _) ?_
  refine va_sld hx hb hX hbl hbA hS (i := nI (i9 + 1)) (vp_in_nI (by omega) (by omega)) dL_law_600 ?_
  refine lv_aload_n hx hb dL_law_601 rfl (lv_at hl 0 rfl) ?_
  refine lv_iload_n hx hb dL_law_602 rfl (lv_at hl 3 rfl) ?_
  refine lv_iconst (v := nI 2) hx hb dL_law_603 (by decide) ?_
  refine lv_iadd hx hb dL_law_604 ?_
  refine f_ti (y := nI (i9 + 2)) (nI_add _ _) ?_
  refine va_sld hx hb hX hbl hbA hS (i := nI (i9 + 2)) (vp_in_nI (by omega) (by omega)) dL_law_605 ?_
  refine f_cVl (As := [.int (xs (nI (i9 + 1)).toNatClampNeg), .int (xs (nI (i9 + 2)).toNatClampNeg)]) (rest := [.long (wtF S (xs (nI (i9 + 1)).toNatClampNeg) (xs (nI (i9 + 2)).toNatClampNeg))]) ⟨hx, hb, hml, hown, hts⟩ (c_X2_weight l9 dC dI ma mc S (xs (nI (i9 + 1)).toNatClampNeg) (xs (nI (i9 + 2)).toNatClampNeg) I) (cwV 2 hts gL_law_X2_weight rfl rfl rfl (by decide +kernel) ⟨Nat.le_of_ble_eq_true rfl, Nat.le_of_ble_eq_true rfl⟩) roB_bl (va_recv hKm hPm (ci := 3) (q0 := 0) rfl rfl) (roB_at hPm hKm) rfl hl.1 rfl (Nat.le_of_ble_eq_true rfl) dL_law_606 hfc ?_
  refine f_leq (tgt := 845) hx hb rfl rfl dL_law_609 dL_law_610 (by decide) (fun _ => ?_) (fun h9 => absurd rfl h9)
  refine W.widen (k := 32 + 2 * (j9 + 1)) (n := 17271 + 1007 * (j9 + 1)) (by omega) (by omega) ?_
  exact kk S (mk, ed, cO, nn, pa, Za, tz) H locs ⟨I, hH0, by omega, hZ, hK, hP, hD, hS⟩
set_option maxHeartbeats 4000000 in
set_option maxRecDepth 100000 in
theorem law_named {p9 : Program} {l9 : Launch} {e9 : Env} {s9 : State} {m9 : MethodId} {bl : List Frame} {me : Method} {c9 : Code} {dC : Nat → ClassId} {dI : Nat → Nat → Nat} {b9 L9 : Nat} {xs : Nat → Int32} (hL : L9 ≤ 3072) (C0 : lw_At p9 s9 m9 me c9 b9 L9 xs) {xa : Nat → Nat} {xc : Nat → ClassId} {ma : Nat → Nat} {mc : Nat → ClassId} {mi t0 t1 t2 : Nat} (hXs : xsB mi t0 (lA s9) s9) (hSt : stB t1 t2 (lA s9) s9) {i9 j9 : Nat} (hi : i9 = 6 * j9) (hiL : i9 + 6 ≤ L9) {S : St} {u9 : LU} {H : Heap} {locs : List Loc} (hG : LSt dC dI xa xc ma mc t0 s9 S u9 j9 H locs) {ls : Array Slot} (hl : lv_has ls 4 [(0, .ref b9), (1, .ref (xa 0)), (2, .ref (ma 0)), (3, .int (nI i9))]) (kk : ∀ (S1 : St) (u1 : LU) (H1 : Heap) (locs1 : List Loc), LSt dC dI xa xc ma mc t0 s9 S1 u1 (j9 + 1) H1 locs1 → W p9 l9 e9 room_1 s9 m9 #[Value.ref b9] bl me c9 H1 locs1 (32 + 2 * (j9 + 1)) (17271 + 1007 * (j9 + 1)) (lw_Z bl #[Value.ref b9] s9) (F0 m9 845 ls [])) : W p9 l9 e9 room_1 s9 m9 #[Value.ref b9] bl me c9 H locs (32 + 2 * j9) (17271 + 1007 * j9) (lw_Z bl #[Value.ref b9] s9) (F0 m9 788 ls []) := by
  obtain ⟨hx, hb, hr, hml, hown, hts0, hX, hbl, hlocks, hgv⟩ := C0
  have hts : ∀ w9 ∈ wsL_law, w9.before #[Value.ref b9] s9 = true := fun w9 h9 => hts0 w9 (wsL_law_in w9 h9)
  have hown : s9.vm.findClass RL = some m9.cls := hown
  have hA : ∀ q9 : Nat, s9.heap.size ≤ q9 → lA s9 q9 := fun _ h9 => h9
  have hbA : ¬ lA s9 b9 := Nat.not_le.mpr hbl
  obtain ⟨I, hH0, hTn, hZ, hK, hP, hD, hS⟩ := hG
  have hfc := lw_hc hL hi hiL
  obtain ⟨mk, ed, cO, nn, pa, Za, tz⟩ := u9
  have hK : va_K (dC, dI) vwCl ((xty xc ++ tz) ++ mty mc) s9 := hK
  have hP : va_P (dC, dI) vwCl (tW xa xc S mk ed (Za ++ tw pa S) ++ mw ma mc S) H := hP
  have hD : va_D (lA s9) (tW xa xc S mk ed (Za ++ tw pa S) ++ mw ma mc S) := hD
  have hKt : va_K (dC, dI) vwCl (xty xc ++ tz) s9 := kl_left hK
  have hKx : va_K (dC, dI) vwCl (xty xc) s9 := kl_left hKt
  have hKm : va_K (dC, dI) vwCl (mty mc) s9 := kl_right hK
  have hPt : va_P (dC, dI) vwCl (tW xa xc S mk ed (Za ++ tw pa S)) H := pl_left hP
  have hPx : va_P (dC, dI) vwCl (xw xa xc S) H := pl_left hPt
  have hPm : va_P (dC, dI) vwCl (mw ma mc S) H := pl_right hP
  refine lv_aload_n hx hb dL_law_788 rfl (lv_at hl 1 rfl) ?_
  refine lv_aload_n hx hb dL_law_789 rfl (lv_at hl 0 rfl) ?_
  refine lv_iload_n hx hb dL_law_790 rfl (lv_at hl 3 rfl) ?_
  refine lv_iconst (v := nI 1) hx hb dL_law_791 (by decide) ?_
  refine lv_iadd hx hb dL_law_792 ?_
  refine f_ti (y := nI (i9 + 1)) (nI_add _ _) ?_
  refine va_sld hx hb hX hbl hbA hS (i := nI (i9 + 1)) (vp_in_nI (by omega) (by omega)) dL_law_793 ?_
  refine f_cVi (As := [.int (xs (nI (i9 + 1)).toNatClampNeg)]) (rest := []) ⟨hx, hb, hml, hown, hts⟩ (c_X1_named l9 dC dI xa xc S (xs (nI (i9 + 1)).toNatClampNeg) I) (cwV 1 hts gL_law_X1_named rfl rfl rfl (by decide +kernel) ⟨Nat.le_of_ble_eq_true rfl, Nat.le_of_ble_eq_true rfl⟩) roB_bl (va_recv hKx hPx (ci := 2) (q0 := 0) rfl rfl) (roB_at hPx hKx) rfl hl.1 rfl (Nat.le_of_ble_eq_true rfl) dL_law_794 hfc ?_
  refine lv_aload_n hx hb dL_law_797 rfl (lv_at hl 2 rfl) ?_
  refine lv_aload_n hx hb dL_law_798 rfl (lv_at hl 0 rfl) ?_
  refine lv_iload_n hx hb dL_law_799 rfl (lv_at hl 3 rfl) ?_
  refine lv_iconst (v := nI 1) hx hb dL_law_800 (by decide) ?_
  refine lv_iadd hx hb dL_law_801 ?_
  refine f_ti (y := nI (i9 + 1)) (nI_add _ _) ?_
  refine va_sld hx hb hX hbl hbA hS (i := nI (i9 + 1)) (vp_in_nI (by omega) (by omega)) dL_law_802 ?_
  refine f_cVi (As := [.int (xs (nI (i9 + 1)).toNatClampNeg)]) (rest := [.int (nmF S (xs (nI (i9 + 1)).toNatClampNeg))]) ⟨hx, hb, hml, hown, hts⟩ (c_X2_named l9 dC dI ma mc S (xs (nI (i9 + 1)).toNatClampNeg) I) (cwV 1 hts gL_law_X2_named rfl rfl rfl (by decide +kernel) ⟨Nat.le_of_ble_eq_true rfl, Nat.le_of_ble_eq_true rfl⟩) roB_bl (va_recv hKm hPm (ci := 3) (q0 := 0) rfl rfl) (roB_at hPm hKm) rfl hl.1 rfl (Nat.le_of_ble_eq_true rfl) dL_law_803 hfc ?_
  refine f_ieq (tgt := 845) hx hb rfl rfl dL_law_806 (by decide) (fun _ => ?_) (fun h9 => absurd rfl h9)
  refine W.widen (k := 32 + 2 * (j9 + 1)) (n := 17271 + 1007 * (j9 + 1)) (by omega) (by omega) ?_
  exact kk S (mk, ed, cO, nn, pa, Za, tz) H locs ⟨I, hH0, by omega, hZ, hK, hP, hD, hS⟩
