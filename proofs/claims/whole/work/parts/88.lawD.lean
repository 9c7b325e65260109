/-! the law: one call of each side -/
theorem stB_at {t1 t2 : Nat} {A A1 : Nat → Prop} {s9 : State} {H9 : Heap} {locs : List Loc} (h9 : stB t1 t2 A s9) (hS : va_S A s9.heap H9 locs) (hA : ∀ q9, A1 q9 → A q9) : ∀ U : State, U.heap = H9 → s9.WarmedH U.vm → stB t1 t2 A1 U := fun U hU hW => by
  unfold stB
  rw [hU]
  exact ⟨⟨((h9.1.1.kept hS.2.1).narrow hA).moved hW.alike, ((h9.1.2.kept hS.2.1).narrow hA).moved hW.alike⟩, ⟨((h9.2.1.kept hS.2.1).narrow hA).moved hW.alike, ((h9.2.2.kept hS.2.1).narrow hA).moved hW.alike⟩⟩
set_option maxHeartbeats 4000000 in
set_option maxRecDepth 100000 in
theorem law_set {p9 : Program} {l9 : Launch} {e9 : Env} {s9 : State} {m9 : MethodId} {bl : List Frame} {me : Method} {c9 : Code} {dC : Nat → ClassId} {dI : Nat → Nat → Nat} {b9 L9 : Nat} {xs : Nat → Int32} (hL : L9 ≤ 3072) (C0 : lw_At p9 s9 m9 me c9 b9 L9 xs) {xa : Nat → Nat} {xc : Nat → ClassId} {ma : Nat → Nat} {mc : Nat → ClassId} {mi t0 t1 t2 : Nat} (hXs : xsB mi t0 (lA s9) s9) (hSt : stB t1 t2 (lA s9) s9) {i9 j9 : Nat} (hi : i9 = 6 * j9) (hiL : i9 + 6 ≤ L9) {S : St} {u9 : LU} {H : Heap} {locs : List Loc} (hG : LSt dC dI xa xc ma mc t0 s9 S u9 j9 H locs) {ls : Array Slot} (hl : lv_has ls 4 [(0, .ref b9), (1, .ref (xa 0)), (2, .ref (ma 0)), (3, .int (nI i9))]) (kk : ∀ (S1 : St) (u1 : LU) (H1 : Heap) (locs1 : List Loc), LSt dC dI xa xc ma mc t0 s9 S1 u1 (j9 + 1) H1 locs1 → W p9 l9 e9 room_1 s9 m9 #[Value.ref b9] bl me c9 H1 locs1 (32 + 2 * (j9 + 1)) (17271 + 1007 * (j9 + 1)) (lw_Z bl #[Value.ref b9] s9) (F0 m9 845 ls [])) : W p9 l9 e9 room_1 s9 m9 #[Value.ref b9] bl me c9 H locs (32 + 2 * j9) (17271 + 1007 * j9) (lw_Z bl #[Value.ref b9] s9) (F0 m9 246 ls []) := by
  obtain ⟨hx, hb, hr, hml, hown, hts0, hX, hbl, hlocks, hgv⟩ := C0
  have hts : ∀ w9 ∈ wsL_law, w9.before #[Value.ref b9] s9 = true := fun w9 h9 => hts0 w9 (wsL_law_in w9 h9)
  have hown : s9.vm.findClass RL = some m9.cls := hown
  have hA : ∀ q9 : Nat, s9.heap.size ≤ q9 → lA s9 q9 := fun _ h9 => h9
  have hbA : ¬ lA s9 b9 := Nat.not_le.mpr hbl
  obtain ⟨I, hH0, hTn, hZ, hK, hP, hD, hS⟩ := hG
  have hfc := lw_hc hL hi hiL
  obtain ⟨mk, ed, cO, nn, pa, Za, tz⟩ := u9
  have hK : va_K (dC, dI) vwCl ((xty xc ++ tz) ++ mty mc) s9 := hK
  have hP : va_P (dC, dI) vwCl (tW xa xc S mk ed (Za ++ tw pa S) ++ mw ma mc S) H := hP
  have hD : va_D (lA s9) (tW xa xc S mk ed (Za ++ tw pa S) ++ mw ma mc S) := hD
  have hKt : va_K (dC, dI) vwCl (xty xc ++ tz) s9 := kl_left hK
  have hKx : va_K (dC, dI) vwCl (xty xc) s9 := kl_left hKt
  have hKm : va_K (dC, dI) vwCl (mty mc) s9 := kl_right hK
  refine lv_aload_n hx hb dL_law_246 rfl (lv_at hl 1 rfl) ?_
  refine lv_aload_n hx hb dL_law_247 rfl (lv_at hl 0 rfl) ?_
  refine lv_iload_n hx hb dL_law_248 rfl (lv_at hl 3 rfl) ?_
  refine lv_iconst (v := nI 1) hx hb dL_law_249 (by decide) ?_
  refine lv_iadd hx hb dL_law_250 ?_
  refine f_ti (y := nI (i9 + 1)) (nI_add _ _) ?_
  refine va_sld hx hb hX hbl hbA hS (i := nI (i9 + 1)) (vp_in_nI (by omega) (by omega)) dL_law_251 ?_
  refine lv_aload_n hx hb dL_law_252 rfl (lv_at hl 0 rfl) ?_
  refine lv_iload_n hx hb dL_law_253 rfl (lv_at hl 3 rfl) ?_
  refine lv_iconst (v := nI 2) hx hb dL_law_254 (by decide) ?_
  refine lv_iadd hx hb dL_law_255 ?_
  refine f_ti (y := nI (i9 + 2)) (nI_add _ _) ?_
  refine va_sld hx hb hX hbl hbA hS (i := nI (i9 + 2)) (vp_in_nI (by omega) (by omega)) dL_law_256 ?_
  refine lv_i2l (v := Int32.toInt64 (xs (nI (i9 + 2)).toNatClampNeg)) hx hb dL_law_257 rfl ?_
  refine lv_bipush (v := 32) hx hb dL_law_258 (by decide) ?_
  refine lv_lshl (v := Int32.toInt64 (xs (nI (i9 + 2)).toNatClampNeg) <<< ((32 : Int32).toInt64 &&& 63)) hx hb dL_law_260 rfl ?_
  refine lv_aload_n hx hb dL_law_261 rfl (lv_at hl 0 rfl) ?_
  refine lv_iload_n hx hb dL_law_262 rfl (lv_at hl 3 rfl) ?_
  refine lv_iconst (v := nI 3) hx hb dL_law_263 (by decide) ?_
  refine lv_iadd hx hb dL_law_264 ?_
  refine f_ti (y := nI (i9 + 3)) (nI_add _ _) ?_
  refine va_sld hx hb hX hbl hbA hS (i := nI (i9 + 3)) (vp_in_nI (by omega) (by omega)) dL_law_265 ?_
  refine lv_i2l (v := Int32.toInt64 (xs (nI (i9 + 3)).toNatClampNeg)) hx hb dL_law_266 rfl ?_
  refine lv_ldc2 (v := 4294967295) hx hb hown (hts (.constantLong RL 13 (4294967295)) (by decide +kernel)) dL_law_267 ?_
  refine lv_land hx hb dL_law_270 ?_
  refine lv_lor hx hb dL_law_271 ?_
  refine f_tl (y := (lw2 (xs (nI (i9 + 2)).toNatClampNeg) (xs (nI (i9 + 3)).toNatClampNeg))) rfl ?_
  have hP : va_P (dC, dI) vwCl (xw xa xc S ++ ((lwO (xa 10) mk ed (sTn S) :: (Za ++ tw pa S)) ++ mw ma mc S)) H := hP
  have hD : va_D (lA s9) (xw xa xc S ++ ((lwO (xa 10) mk ed (sTn S) :: (Za ++ tw pa S)) ++ mw ma mc S)) := hD
  have hF := mu_free hD hS hA
  refine va_calll (va_runV (As := [.int (xs (nI (i9 + 1)).toNatClampNeg), .long (lw2 (xs (nI (i9 + 2)).toNatClampNeg) (xs (nI (i9 + 3)).toNatClampNeg))]) (rest := []) ⟨hx, hb, hml, hown, hts⟩ (c_X1_set l9 dC dI xa xc S H.size t1 t2 (xs (nI (i9 + 1)).toNatClampNeg) (lw2 (xs (nI (i9 + 2)).toNatClampNeg) (xs (nI (i9 + 3)).toNatClampNeg)) I) (cwV 2 hts gL_law_X1_set rfl rfl rfl (by decide +kernel) ⟨Nat.le_of_ble_eq_true rfl, Nat.le_of_ble_eq_true rfl⟩) ⟨fun a8 U9 g9 mk8 w8 => ⟨w8.1, muB_bl U9 g9 mk8 a8 w8.2.1, stB_bl U9 g9 mk8 a8 w8.2.2⟩, va_recv hKx (pl_left hP) (ci := 2) (q0 := 0) rfl rfl, fun U9 hU hW => ⟨rfl, muB_at (pl_left hP) hKx (dl_left hD) U9 hU hW, stB_at hSt hS hF U9 hU hW⟩⟩ rfl rfl hl.1 rfl (lv_room (Nat.le_of_ble_eq_true rfl)) dL_law_272 hfc) hS (fun q9 _ h9 => hF q9 h9) hF (fun rr u8 t8 H1 locs ht hvm hw hB hz1 hk1 hS => ?_)
  obtain ⟨hP1, hK1, hD1⟩ := hB
  rw [ht] at hP1
  obtain ⟨hP, hD⟩ := mu_join hP hD hk1 hF hP1 hD1
  have hw2 : rr = (setF S (xs (nI (i9 + 1)).toNatClampNeg) (lw2 (xs (nI (i9 + 2)).toNatClampNeg) (xs (nI (i9 + 3)).toNatClampNeg))) := hw
  rw [hw2]
  generalize H1 = H at hP hS ⊢
  have hP : va_P (dC, dI) vwCl ((xw xa xc (setG S (xs (nI (i9 + 1)).toNatClampNeg) (lw2 (xs (nI (i9 + 2)).toNatClampNeg) (xs (nI (i9 + 3)).toNatClampNeg))) ++ (lwO (xa 10) mk ed (sTn S) :: (Za ++ tw pa S))) ++ mw ma mc S) H := hP
  have hD : va_D (lA s9) ((xw xa xc (setG S (xs (nI (i9 + 1)).toNatClampNeg) (lw2 (xs (nI (i9 + 2)).toNatClampNeg) (xs (nI (i9 + 3)).toNatClampNeg))) ++ (lwO (xa 10) mk ed (sTn S) :: (Za ++ tw pa S))) ++ mw ma mc S) := hD
  refine lv_aload_n hx hb dL_law_275 rfl (lv_at hl 2 rfl) ?_
  refine lv_aload_n hx hb dL_law_276 rfl (lv_at hl 0 rfl) ?_
  refine lv_iload_n hx hb dL_law_277 rfl (lv_at hl 3 rfl) ?_
  refine lv_iconst (v := nI 1) hx hb dL_law_278 (by decide) ?_
  refine lv_iadd hx hb dL_law_279 ?_
  refine f_ti (y := nI (i9 + 1)) (nI_add _ _) ?_
  refine va_sld hx hb hX hbl hbA hS (i := nI (i9 + 1)) (vp_in_nI (by omega) (by omega)) dL_law_280 ?_
  refine lv_aload_n hx hb dL_law_281 rfl (lv_at hl 0 rfl) ?_
  refine lv_iload_n hx hb dL_law_282 rfl (lv_at hl 3 rfl) ?_
  refine lv_iconst (v := nI 2) hx hb dL_law_283 (by decide) ?_
  refine lv_iadd hx hb dL_law_284 ?_
  refine f_ti (y := nI (i9 + 2)) (nI_add _ _) ?_
  refine va_sld hx hb hX hbl hbA hS (i := nI (i9 + 2)) (vp_in_nI (by omega) (by omega)) dL_law_285 ?_
  refine lv_i2l (v := Int32.toInt64 (xs (nI (i9 + 2)).toNatClampNeg)) hx hb dL_law_286 rfl ?_
  refine lv_bipush (v := 32) hx hb dL_law_287 (by decide) ?_
  refine lv_lshl (v := Int32.toInt64 (xs (nI (i9 + 2)).toNatClampNeg) <<< ((32 : Int32).toInt64 &&& 63)) hx hb dL_law_289 rfl ?_
  refine lv_aload_n hx hb dL_law_290 rfl (lv_at hl 0 rfl) ?_
  refine lv_iload_n hx hb dL_law_291 rfl (lv_at hl 3 rfl) ?_
  refine lv_iconst (v := nI 3) hx hb dL_law_292 (by decide) ?_
  refine lv_iadd hx hb dL_law_293 ?_
  refine f_ti (y := nI (i9 + 3)) (nI_add _ _) ?_
  refine va_sld hx hb hX hbl hbA hS (i := nI (i9 + 3)) (vp_in_nI (by omega) (by omega)) dL_law_294 ?_
  refine lv_i2l (v := Int32.toInt64 (xs (nI (i9 + 3)).toNatClampNeg)) hx hb dL_law_295 rfl ?_
  refine lv_ldc2 (v := 4294967295) hx hb hown (hts (.constantLong RL 13 (4294967295)) (by decide +kernel)) dL_law_296 ?_
  refine lv_land hx hb dL_law_299 ?_
  refine lv_lor hx hb dL_law_300 ?_
  refine f_tl (y := (lw2 (xs (nI (i9 + 2)).toNatClampNeg) (xs (nI (i9 + 3)).toNatClampNeg))) rfl ?_
  have hP := P_swap hP
  have hD := D_swap hD
  refine f_mcl (w := mw ma mc S) (As := [.int (xs (nI (i9 + 1)).toNatClampNeg), .long (lw2 (xs (nI (i9 + 2)).toNatClampNeg) (xs (nI (i9 + 3)).toNatClampNeg))]) (rest := [.long (setF S (xs (nI (i9 + 1)).toNatClampNeg) (lw2 (xs (nI (i9 + 2)).toNatClampNeg) (xs (nI (i9 + 3)).toNatClampNeg)))]) ⟨hx, hb, hml, hown, hts⟩ (c_X2_set l9 dC dI ma mc S H.size (xs (nI (i9 + 1)).toNatClampNeg) (lw2 (xs (nI (i9 + 2)).toNatClampNeg) (xs (nI (i9 + 3)).toNatClampNeg)) I) (cwV 2 hts gL_law_X2_set rfl rfl rfl (by decide +kernel) ⟨Nat.le_of_ble_eq_true rfl, Nat.le_of_ble_eq_true rfl⟩) (va_recv hKm (pl_left hP) (ci := 3) (q0 := 0) rfl rfl) hP hKm hD hS hA rfl hl.1 rfl (Nat.le_of_ble_eq_true rfl) dL_law_301 hfc (fun H locs hP hD hS => ?_)
  have hP := P_swap hP
  have hD := D_swap hD
  refine f_leq (tgt := 845) hx hb rfl rfl dL_law_304 dL_law_305 (by decide) (fun _ => ?_) (fun h9 => absurd rfl h9)
  refine W.widen (k := 32 + 2 * (j9 + 1)) (n := 17271 + 1007 * (j9 + 1)) (by omega) (by omega) ?_
  rw [tk_W tk_set] at hP hD
  exact kk (setG S (xs (nI (i9 + 1)).toNatClampNeg) (lw2 (xs (nI (i9 + 2)).toNatClampNeg) (xs (nI (i9 + 3)).toNatClampNeg))) (mk, ed, cO, nn, pa, Za, tz) H locs ⟨inv_setG I (xs (nI (i9 + 1)).toNatClampNeg) (lw2 (xs (nI (i9 + 2)).toNatClampNeg) (xs (nI (i9 + 3)).toNatClampNeg)), hi_setG hH0 (xs (nI (i9 + 1)).toNatClampNeg) (lw2 (xs (nI (i9 + 2)).toNatClampNeg) (xs (nI (i9 + 3)).toNatClampNeg)), by rw [tk_set.1]; omega, tk_Z tk_set hZ, hK, hP, hD, hS⟩
set_option maxHeartbeats 4000000 in
set_option maxRecDepth 100000 in
theorem law_accuse {p9 : Program} {l9 : Launch} {e9 : Env} {s9 : State} {m9 : MethodId} {bl : List Frame} {me : Method} {c9 : Code} {dC : Nat → ClassId} {dI : Nat → Nat → Nat} {b9 L9 : Nat} {xs : Nat → Int32} (hL : L9 ≤ 3072) (C0 : lw_At p9 s9 m9 me c9 b9 L9 xs) {xa : Nat → Nat} {xc : Nat → ClassId} {ma : Nat → Nat} {mc : Nat → ClassId} {mi t0 t1 t2 : Nat} (hXs : xsB mi t0 (lA s9) s9) (hSt : stB t1 t2 (lA s9) s9) {i9 j9 : Nat} (hi : i9 = 6 * j9) (hiL : i9 + 6 ≤ L9) {S : St} {u9 : LU} {H : Heap} {locs : List Loc} (hG : LSt dC dI xa xc ma mc t0 s9 S u9 j9 H locs) {ls : Array Slot} (hl : lv_has ls 4 [(0, .ref b9), (1, .ref (xa 0)), (2, .ref (ma 0)), (3, .int (nI i9))]) (kk : ∀ (S1 : St) (u1 : LU) (H1 : Heap) (locs1 : List Loc), LSt dC dI xa xc ma mc t0 s9 S1 u1 (j9 + 1) H1 locs1 → W p9 l9 e9 room_1 s9 m9 #[Value.ref b9] bl me c9 H1 locs1 (32 + 2 * (j9 + 1)) (17271 + 1007 * (j9 + 1)) (lw_Z bl #[Value.ref b9] s9) (F0 m9 845 ls [])) : W p9 l9 e9 room_1 s9 m9 #[Value.ref b9] bl me c9 H locs (32 + 2 * j9) (17271 + 1007 * j9) (lw_Z bl #[Value.ref b9] s9) (F0 m9 436 ls []) := by
  obtain ⟨hx, hb, hr, hml, hown, hts0, hX, hbl, hlocks, hgv⟩ := C0
  have hts : ∀ w9 ∈ wsL_law, w9.before #[Value.ref b9] s9 = true := fun w9 h9 => hts0 w9 (wsL_law_in w9 h9)
  have hown : s9.vm.findClass RL = some m9.cls := hown
  have hA : ∀ q9 : Nat, s9.heap.size ≤ q9 → lA s9 q9 := fun _ h9 => h9
  have hbA : ¬ lA s9 b9 := Nat.not_le.mpr hbl
  obtain ⟨I, hH0, hTn, hZ, hK, hP, hD, hS⟩ := hG
  have hfc := lw_hc hL hi hiL
  obtain ⟨mk, ed, cO, nn, pa, Za, tz⟩ := u9
  have hK : va_K (dC, dI) vwCl ((xty xc ++ tz) ++ mty mc) s9 := hK
  have hP : va_P (dC, dI) vwCl (tW xa xc S mk ed (Za ++ tw pa S) ++ mw ma mc S) H := hP
  have hD : va_D (lA s9) (tW xa xc S mk ed (Za ++ tw pa S) ++ mw ma mc S) := hD
  have hKt : va_K (dC, dI) vwCl (xty xc ++ tz) s9 := kl_left hK
  have hKx : va_K (dC, dI) vwCl (xty xc) s9 := kl_left hKt
  have hKm : va_K (dC, dI) vwCl (mty mc) s9 := kl_right hK
  refine lv_aload_n hx hb dL_law_436 rfl (lv_at hl 1 rfl) ?_
  refine lv_aload_n hx hb dL_law_437 rfl (lv_at hl 0 rfl) ?_
  refine lv_iload_n hx hb dL_law_438 rfl (lv_at hl 3 rfl) ?_
  refine lv_iconst (v := nI 1) hx hb dL_law_439 (by decide) ?_
  refine lv_iadd hx hb dL_law_440 ?_
  refine f_ti (y := nI (i9 + 1)) (nI_add _ _) ?_
  refine va_sld hx hb hX hbl hbA hS (i := nI (i9 + 1)) (vp_in_nI (by omega) (by omega)) dL_law_441 ?_
  refine lv_aload_n hx hb dL_law_442 rfl (lv_at hl 0 rfl) ?_
  refine lv_iload_n hx hb dL_law_443 rfl (lv_at hl 3 rfl) ?_
  refine lv_iconst (v := nI 2) hx hb dL_law_444 (by decide) ?_
  refine lv_iadd hx hb dL_law_445 ?_
  refine f_ti (y := nI (i9 + 2)) (nI_add _ _) ?_
  refine va_sld hx hb hX hbl hbA hS (i := nI (i9 + 2)) (vp_in_nI (by omega) (by omega)) dL_law_446 ?_
  refine lv_aload_n hx hb dL_law_447 rfl (lv_at hl 0 rfl) ?_
  refine lv_iload_n hx hb dL_law_448 rfl (lv_at hl 3 rfl) ?_
  refine lv_iconst (v := nI 3) hx hb dL_law_449 (by decide) ?_
  refine lv_iadd hx hb dL_law_450 ?_
  refine f_ti (y := nI (i9 + 3)) (nI_add _ _) ?_
  refine va_sld hx hb hX hbl hbA hS (i := nI (i9 + 3)) (vp_in_nI (by omega) (by omega)) dL_law_451 ?_
  refine lv_aload_n hx hb dL_law_452 rfl (lv_at hl 0 rfl) ?_
  refine lv_iload_n hx hb dL_law_453 rfl (lv_at hl 3 rfl) ?_
  refine lv_iconst (v := nI 4) hx hb dL_law_454 (by decide) ?_
  refine lv_iadd hx hb dL_law_455 ?_
  refine f_ti (y := nI (i9 + 4)) (nI_add _ _) ?_
  refine va_sld hx hb hX hbl hbA hS (i := nI (i9 + 4)) (vp_in_nI (by omega) (by omega)) dL_law_456 ?_
  have hF := mu_free hD hS hA
  have hZ0 : lsZ t0 ed (sTn S) (foF pa S) cO nn Za tz := hZ
  refine va_calll (va_runV (As := [.int (xs (nI (i9 + 1)).toNatClampNeg), .int (xs (nI (i9 + 2)).toNatClampNeg), .int (xs (nI (i9 + 3)).toNatClampNeg), .int (xs (nI (i9 + 4)).toNatClampNeg)]) (rest := []) ⟨hx, hb, hml, hown, hts⟩ (c_X1_accuse l9 dC dI xa xc S mk ed cO nn pa Za tz mi t0 H.size (xs (nI (i9 + 1)).toNatClampNeg) (xs (nI (i9 + 2)).toNatClampNeg) (xs (nI (i9 + 3)).toNatClampNeg) (xs (nI (i9 + 4)).toNatClampNeg) I (by omega) hZ0) (cwV 4 hts gL_law_X1_accuse rfl rfl rfl (by decide +kernel) ⟨Nat.le_of_ble_eq_true rfl, Nat.le_of_ble_eq_true rfl⟩) ⟨fun a8 U9 g9 mk8 w8 => ⟨w8.1, muB_bl U9 g9 mk8 a8 w8.2.1, xsB_bl U9 g9 mk8 a8 w8.2.2⟩, va_recv hKt (pl_left hP) (ci := 2) (q0 := 0) rfl rfl, fun U9 hU hW => ⟨rfl, muB_at (pl_left hP) hKt (dl_left hD) U9 hU hW, xsB_at hXs hS hF U9 hU hW⟩⟩ rfl rfl hl.1 rfl (lv_room (Nat.le_of_ble_eq_true rfl)) dL_law_457 ⟨by show 32 + 2 * j9 + 2 ≤ 600000; omega, by show 17271 + 1007 * j9 + 1007 ≤ 7302250; omega⟩) hS (fun q9 _ h9 => hF q9 h9) hF (fun rr u8 t8 H1 locs ht hvm hw hB hz1 hk1 hS => ?_)
  obtain ⟨hP1, hK1, hD1⟩ := hB
  rw [ht] at hP1
  obtain ⟨hP, hD⟩ := mu_join hP hD hk1 hF hP1 hD1
  have hKu : va_K (dC, dI) vwCl (luT xc u8) s9 := va_K.moved (Vm.Alike.symm hvm) hK1
  rw [hw.1]
  generalize H1 = H at hP hS ⊢
  refine lv_aload_n hx hb dL_law_460 rfl (lv_at hl 2 rfl) ?_
  refine lv_aload_n hx hb dL_law_461 rfl (lv_at hl 0 rfl) ?_
  refine lv_iload_n hx hb dL_law_462 rfl (lv_at hl 3 rfl) ?_
  refine lv_iconst (v := nI 1) hx hb dL_law_463 (by decide) ?_
  refine lv_iadd hx hb dL_law_464 ?_
  refine f_ti (y := nI (i9 + 1)) (nI_add _ _) ?_
  refine va_sld hx hb hX hbl hbA hS (i := nI (i9 + 1)) (vp_in_nI (by omega) (by omega)) dL_law_465 ?_
  refine lv_aload_n hx hb dL_law_466 rfl (lv_at hl 0 rfl) ?_
  refine lv_iload_n hx hb dL_law_467 rfl (lv_at hl 3 rfl) ?_
  refine lv_iconst (v := nI 2) hx hb dL_law_468 (by decide) ?_
  refine lv_iadd hx hb dL_law_469 ?_
  refine f_ti (y := nI (i9 + 2)) (nI_add _ _) ?_
  refine va_sld hx hb hX hbl hbA hS (i := nI (i9 + 2)) (vp_in_nI (by omega) (by omega)) dL_law_470 ?_
  refine lv_aload_n hx hb dL_law_471 rfl (lv_at hl 0 rfl) ?_
  refine lv_iload_n hx hb dL_law_472 rfl (lv_at hl 3 rfl) ?_
  refine lv_iconst (v := nI 3) hx hb dL_law_473 (by decide) ?_
  refine lv_iadd hx hb dL_law_474 ?_
  refine f_ti (y := nI (i9 + 3)) (nI_add _ _) ?_
  refine va_sld hx hb hX hbl hbA hS (i := nI (i9 + 3)) (vp_in_nI (by omega) (by omega)) dL_law_475 ?_
  refine lv_aload_n hx hb dL_law_476 rfl (lv_at hl 0 rfl) ?_
  refine lv_iload_n hx hb dL_law_477 rfl (lv_at hl 3 rfl) ?_
  refine lv_iconst (v := nI 4) hx hb dL_law_478 (by decide) ?_
  refine lv_iadd hx hb dL_law_479 ?_
  refine f_ti (y := nI (i9 + 4)) (nI_add _ _) ?_
  refine va_sld hx hb hX hbl hbA hS (i := nI (i9 + 4)) (vp_in_nI (by omega) (by omega)) dL_law_480 ?_
  have hP := P_swap hP
  have hD := D_swap hD
  refine f_mcl (w := mw ma mc S) (As := [.int (xs (nI (i9 + 1)).toNatClampNeg), .int (xs (nI (i9 + 2)).toNatClampNeg), .int (xs (nI (i9 + 3)).toNatClampNeg), .int (xs (nI (i9 + 4)).toNatClampNeg)]) (rest := [.long (acF S (xs (nI (i9 + 1)).toNatClampNeg) (xs (nI (i9 + 2)).toNatClampNeg) (xs (nI (i9 + 3)).toNatClampNeg) (xs (nI (i9 + 4)).toNatClampNeg))]) ⟨hx, hb, hml, hown, hts⟩ (c_X2_accuse l9 dC dI ma mc S H.size (xs (nI (i9 + 1)).toNatClampNeg) (xs (nI (i9 + 2)).toNatClampNeg) (xs (nI (i9 + 3)).toNatClampNeg) (xs (nI (i9 + 4)).toNatClampNeg) I (by omega)) (cwV 4 hts gL_law_X2_accuse rfl rfl rfl (by decide +kernel) ⟨Nat.le_of_ble_eq_true rfl, Nat.le_of_ble_eq_true rfl⟩) (va_recv hKm (pl_left hP) (ci := 3) (q0 := 0) rfl rfl) hP hKm hD hS hA rfl hl.1 rfl (Nat.le_of_ble_eq_true rfl) dL_law_481 ⟨by show 32 + 2 * j9 + 2 ≤ 600000; omega, by show 17271 + 1007 * j9 + 1007 ≤ 7302250; omega⟩ (fun H locs hP hD hS => ?_)
  have hP := P_swap hP
  have hD := D_swap hD
  refine f_leq (tgt := 845) hx hb rfl rfl dL_law_484 dL_law_485 (by decide) (fun _ => ?_) (fun h9 => absurd rfl h9)
  refine W.widen (k := 32 + 2 * (j9 + 1)) (n := 17271 + 1007 * (j9 + 1)) (by omega) (by omega) ?_
  have htn := tn_acG (S := S) (xs (nI (i9 + 1)).toNatClampNeg) (xs (nI (i9 + 2)).toNatClampNeg) (xs (nI (i9 + 3)).toNatClampNeg) (xs (nI (i9 + 4)).toNatClampNeg)
  exact kk (acG S (xs (nI (i9 + 1)).toNatClampNeg) (xs (nI (i9 + 2)).toNatClampNeg) (xs (nI (i9 + 3)).toNatClampNeg) (xs (nI (i9 + 4)).toNatClampNeg)) u8 H locs ⟨inv_acG I (xs (nI (i9 + 1)).toNatClampNeg) (xs (nI (i9 + 2)).toNatClampNeg) (xs (nI (i9 + 3)).toNatClampNeg) (xs (nI (i9 + 4)).toNatClampNeg), hi_acG hH0 (xs (nI (i9 + 1)).toNatClampNeg) (xs (nI (i9 + 2)).toNatClampNeg) (xs (nI (i9 + 3)).toNatClampNeg) (xs (nI (i9 + 4)).toNatClampNeg), by omega, hw.2, k_app hKu hKm, hP, hD, hS⟩
