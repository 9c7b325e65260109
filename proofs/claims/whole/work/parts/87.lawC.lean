/-! the law: one call of each side -/
set_option maxHeartbeats 4000000 in
set_option maxRecDepth 100000 in
theorem law_node {p9 : Program} {l9 : Launch} {e9 : Env} {s9 : State} {m9 : MethodId} {bl : List Frame} {me : Method} {c9 : Code} {dC : Nat → ClassId} {dI : Nat → Nat → Nat} {b9 L9 : Nat} {xs : Nat → Int32} (hL : L9 ≤ 3072) (C0 : lw_At p9 s9 m9 me c9 b9 L9 xs) {xa : Nat → Nat} {xc : Nat → ClassId} {ma : Nat → Nat} {mc : Nat → ClassId} {mi t0 t1 t2 : Nat} (hXs : xsB mi t0 (lA s9) s9) (hSt : stB t1 t2 (lA s9) s9) {i9 j9 : Nat} (hi : i9 = 6 * j9) (hiL : i9 + 6 ≤ L9) {S : St} {u9 : LU} {H : Heap} {locs : List Loc} (hG : LSt dC dI xa xc ma mc t0 s9 S u9 j9 H locs) {ls : Array Slot} (hl : lv_has ls 4 [(0, .ref b9), (1, .ref (xa 0)), (2, .ref (ma 0)), (3, .int (nI i9))]) (kk : ∀ (S1 : St) (u1 : LU) (H1 : Heap) (locs1 : List Loc), LSt dC dI xa xc ma mc t0 s9 S1 u1 (j9 + 1) H1 locs1 → W p9 l9 e9 room_1 s9 m9 #[Value.ref b9] bl me c9 H1 locs1 (32 + 2 * (j9 + 1)) (17271 + 1007 * (j9 + 1)) (lw_Z bl #[Value.ref b9] s9) (F0 m9 845 ls [])) : W p9 l9 e9 room_1 s9 m9 #[Value.ref b9] bl me c9 H locs (32 + 2 * j9) (17271 + 1007 * j9) (lw_Z bl #[Value.ref b9] s9) (F0 m9 116 ls []) := by
  obtain ⟨hx, hb, hr, hml, hown, hts0, hX, hbl, hlocks, hgv⟩ := C0
  have hts : ∀ w9 ∈ wsL_law, w9.before #[Value.ref b9] s9 = true := fun w9 h9 => hts0 w9 (wsL_law_in w9 h9)
  have hown : s9.vm.findClass RL = some m9.cls := hown
  have hA : ∀ q9 : Nat, s9.heap.size ≤ q9 → lA s9 q9 := fun _ h9 => h9
  have hbA : ¬ lA s9 b9 := Nat.not_le.mpr hbl
  obtain ⟨I, hH0, hTn, hZ, hK, hP, hD, hS⟩ := hG
  have hfc := lw_hc hL hi hiL
  obtain ⟨mk, ed, cO, nn, pa, Za, tz⟩ := u9
  have hK : va_K (dC, dI) vwCl ((xty xc ++ tz) ++ mty mc) s9 := hK
  have hP : va_P (dC, dI) vwCl (tW xa xc S mk ed (Za ++ tw pa S) ++ mw ma mc S) H := hP
  have hD : va_D (lA s9) (tW xa xc S mk ed (Za ++ tw pa S) ++ mw ma mc S) := hD
  have hKt : va_K (dC, dI) vwCl (xty xc ++ tz) s9 := kl_left hK
  have hKx : va_K (dC, dI) vwCl (xty xc) s9 := kl_left hKt
  have hKm : va_K (dC, dI) vwCl (mty mc) s9 := kl_right hK
  refine lv_aload_n hx hb dL_law_116 rfl (lv_at hl 1 rfl) ?_
  refine lv_aload_n hx hb dL_law_117 rfl (lv_at hl 0 rfl) ?_
  refine lv_iload_n hx hb dL_law_118 rfl (lv_at hl 3 rfl) ?_
  refine lv_iconst (v := nI 1) hx hb dL_law_119 (by decide) ?_
  refine lv_iadd hx hb dL_law_120 ?_
  refine f_ti (y := nI (i9 + 1)) (nI_add _ _) ?_
  refine va_sld hx hb hX hbl hbA hS (i := nI (i9 + 1)) (vp_in_nI (by omega) (by omega)) dL_law_121 ?_
  refine lv_i2l (v := Int32.toInt64 (xs (nI (i9 + 1)).toNatClampNeg)) hx hb dL_law_122 rfl ?_
  refine lv_bipush (v := 32) hx hb dL_law_123 (by decide) ?_
  refine lv_lshl (v := Int32.toInt64 (xs (nI (i9 + 1)).toNatClampNeg) <<< ((32 : Int32).toInt64 &&& 63)) hx hb dL_law_125 rfl ?_
  refine lv_aload_n hx hb dL_law_126 rfl (lv_at hl 0 rfl) ?_
  refine lv_iload_n hx hb dL_law_127 rfl (lv_at hl 3 rfl) ?_
  refine lv_iconst (v := nI 2) hx hb dL_law_128 (by decide) ?_
  refine lv_iadd hx hb dL_law_129 ?_
  refine f_ti (y := nI (i9 + 2)) (nI_add _ _) ?_
  refine va_sld hx hb hX hbl hbA hS (i := nI (i9 + 2)) (vp_in_nI (by omega) (by omega)) dL_law_130 ?_
  refine lv_i2l (v := Int32.toInt64 (xs (nI (i9 + 2)).toNatClampNeg)) hx hb dL_law_131 rfl ?_
  refine lv_ldc2 (v := 4294967295) hx hb hown (hts (.constantLong RL 13 (4294967295)) (by decide +kernel)) dL_law_132 ?_
  refine lv_land hx hb dL_law_135 ?_
  refine lv_lor hx hb dL_law_136 ?_
  refine f_tl (y := (lw2 (xs (nI (i9 + 1)).toNatClampNeg) (xs (nI (i9 + 2)).toNatClampNeg))) rfl ?_
  have hP : va_P (dC, dI) vwCl (xw xa xc S ++ ((lwO (xa 10) mk ed (sTn S) :: (Za ++ tw pa S)) ++ mw ma mc S)) H := hP
  have hD : va_D (lA s9) (xw xa xc S ++ ((lwO (xa 10) mk ed (sTn S) :: (Za ++ tw pa S)) ++ mw ma mc S)) := hD
  refine f_mci (w := xw xa xc S) (z := (lwO (xa 10) mk ed (sTn S) :: (Za ++ tw pa S)) ++ mw ma mc S) (As := [.long (lw2 (xs (nI (i9 + 1)).toNatClampNeg) (xs (nI (i9 + 2)).toNatClampNeg))]) (rest := []) ⟨hx, hb, hml, hown, hts⟩ (c_X1_node l9 dC dI xa xc S H.size (lw2 (xs (nI (i9 + 1)).toNatClampNeg) (xs (nI (i9 + 2)).toNatClampNeg)) I) (cwV 1 hts gL_law_X1_node rfl rfl rfl (by decide +kernel) ⟨Nat.le_of_ble_eq_true rfl, Nat.le_of_ble_eq_true rfl⟩) (va_recv hKx (pl_left hP) (ci := 2) (q0 := 0) rfl rfl) hP hKx hD hS hA rfl hl.1 rfl (Nat.le_of_ble_eq_true rfl) dL_law_137 hfc (fun H locs hP hD hS => ?_)
  have hP : va_P (dC, dI) vwCl ((xw xa xc (nodG S (lw2 (xs (nI (i9 + 1)).toNatClampNeg) (xs (nI (i9 + 2)).toNatClampNeg))) ++ (lwO (xa 10) mk ed (sTn S) :: (Za ++ tw pa S))) ++ mw ma mc S) H := hP
  have hD : va_D (lA s9) ((xw xa xc (nodG S (lw2 (xs (nI (i9 + 1)).toNatClampNeg) (xs (nI (i9 + 2)).toNatClampNeg))) ++ (lwO (xa 10) mk ed (sTn S) :: (Za ++ tw pa S))) ++ mw ma mc S) := hD
  refine lv_aload_n hx hb dL_law_140 rfl (lv_at hl 2 rfl) ?_
  refine lv_aload_n hx hb dL_law_141 rfl (lv_at hl 0 rfl) ?_
  refine lv_iload_n hx hb dL_law_142 rfl (lv_at hl 3 rfl) ?_
  refine lv_iconst (v := nI 1) hx hb dL_law_143 (by decide) ?_
  refine lv_iadd hx hb dL_law_144 ?_
  refine f_ti (y := nI (i9 + 1)) (nI_add _ _) ?_
  refine va_sld hx hb hX hbl hbA hS (i := nI (i9 + 1)) (vp_in_nI (by omega) (by omega)) dL_law_145 ?_
  refine lv_i2l (v := Int32.toInt64 (xs (nI (i9 + 1)).toNatClampNeg)) hx hb dL_law_146 rfl ?_
  refine lv_bipush (v := 32) hx hb dL_law_147 (by decide) ?_
  refine lv_lshl (v := Int32.toInt64 (xs (nI (i9 + 1)).toNatClampNeg) <<< ((32 : Int32).toInt64 &&& 63)) hx hb dL_law_149 rfl ?_
  refine lv_aload_n hx hb dL_law_150 rfl (lv_at hl 0 rfl) ?_
  refine lv_iload_n hx hb dL_law_151 rfl (lv_at hl 3 rfl) ?_
  refine lv_iconst (v := nI 2) hx hb dL_law_152 (by decide) ?_
  refine lv_iadd hx hb dL_law_153 ?_
  refine f_ti (y := nI (i9 + 2)) (nI_add _ _) ?_
  refine va_sld hx hb hX hbl hbA hS (i := nI (i9 + 2)) (vp_in_nI (by omega) (by omega)) dL_law_154 ?_
  refine lv_i2l (v := Int32.toInt64 (xs (nI (i9 + 2)).toNatClampNeg)) hx hb dL_law_155 rfl ?_
  refine lv_ldc2 (v := 4294967295) hx hb hown (hts (.constantLong RL 13 (4294967295)) (by decide +kernel)) dL_law_156 ?_
  refine lv_land hx hb dL_law_159 ?_
  refine lv_lor hx hb dL_law_160 ?_
  refine f_tl (y := (lw2 (xs (nI (i9 + 1)).toNatClampNeg) (xs (nI (i9 + 2)).toNatClampNeg))) rfl ?_
  have hP := P_swap hP
  have hD := D_swap hD
  refine f_mci (w := mw ma mc S) (As := [.long (lw2 (xs (nI (i9 + 1)).toNatClampNeg) (xs (nI (i9 + 2)).toNatClampNeg))]) (rest := [.int (nodF S (lw2 (xs (nI (i9 + 1)).toNatClampNeg) (xs (nI (i9 + 2)).toNatClampNeg)))]) ⟨hx, hb, hml, hown, hts⟩ (c_X2_node l9 dC dI ma mc S H.size (lw2 (xs (nI (i9 + 1)).toNatClampNeg) (xs (nI (i9 + 2)).toNatClampNeg)) I) (cwV 1 hts gL_law_X2_node rfl rfl rfl (by decide +kernel) ⟨Nat.le_of_ble_eq_true rfl, Nat.le_of_ble_eq_true rfl⟩) (va_recv hKm (pl_left hP) (ci := 3) (q0 := 0) rfl rfl) hP hKm hD hS hA rfl hl.1 rfl (Nat.le_of_ble_eq_true rfl) dL_law_161 hfc (fun H locs hP hD hS => ?_)
  have hP := P_swap hP
  have hD := D_swap hD
  refine f_ieq (tgt := 845) hx hb rfl rfl dL_law_164 (by decide) (fun _ => ?_) (fun h9 => absurd rfl h9)
  refine W.widen (k := 32 + 2 * (j9 + 1)) (n := 17271 + 1007 * (j9 + 1)) (by omega) (by omega) ?_
  rw [tk_W tk_nod] at hP hD
  exact kk (nodG S (lw2 (xs (nI (i9 + 1)).toNatClampNeg) (xs (nI (i9 + 2)).toNatClampNeg))) (mk, ed, cO, nn, pa, Za, tz) H locs ⟨inv_nodG I (lw2 (xs (nI (i9 + 1)).toNatClampNeg) (xs (nI (i9 + 2)).toNatClampNeg)), hi_nodG hH0 (lw2 (xs (nI (i9 + 1)).toNatClampNeg) (xs (nI (i9 + 2)).toNatClampNeg)), by rw [tk_nod.1]; omega, tk_Z tk_nod hZ, hK, hP, hD, hS⟩
set_option maxHeartbeats 4000000 in
set_option maxRecDepth 100000 in
theorem law_add {p9 : Program} {l9 : Launch} {e9 : Env} {s9 : State} {m9 : MethodId} {bl : List Frame} {me : Method} {c9 : Code} {dC : Nat → ClassId} {dI : Nat → Nat → Nat} {b9 L9 : Nat} {xs : Nat → Int32} (hL : L9 ≤ 3072) (C0 : lw_At p9 s9 m9 me c9 b9 L9 xs) {xa : Nat → Nat} {xc : Nat → ClassId} {ma : Nat → Nat} {mc : Nat → ClassId} {mi t0 t1 t2 : Nat} (hXs : xsB mi t0 (lA s9) s9) (hSt : stB t1 t2 (lA s9) s9) {i9 j9 : Nat} (hi : i9 = 6 * j9) (hiL : i9 + 6 ≤ L9) {S : St} {u9 : LU} {H : Heap} {locs : List Loc} (hG : LSt dC dI xa xc ma mc t0 s9 S u9 j9 H locs) {ls : Array Slot} (hl : lv_has ls 4 [(0, .ref b9), (1, .ref (xa 0)), (2, .ref (ma 0)), (3, .int (nI i9))]) (kk : ∀ (S1 : St) (u1 : LU) (H1 : Heap) (locs1 : List Loc), LSt dC dI xa xc ma mc t0 s9 S1 u1 (j9 + 1) H1 locs1 → W p9 l9 e9 room_1 s9 m9 #[Value.ref b9] bl me c9 H1 locs1 (32 + 2 * (j9 + 1)) (17271 + 1007 * (j9 + 1)) (lw_Z bl #[Value.ref b9] s9) (F0 m9 845 ls [])) : W p9 l9 e9 room_1 s9 m9 #[Value.ref b9] bl me c9 H locs (32 + 2 * j9) (17271 + 1007 * j9) (lw_Z bl #[Value.ref b9] s9) (F0 m9 169 ls []) := by
  obtain ⟨hx, hb, hr, hml, hown, hts0, hX, hbl, hlocks, hgv⟩ := C0
  have hts : ∀ w9 ∈ wsL_law, w9.before #[Value.ref b9] s9 = true := fun w9 h9 => hts0 w9 (wsL_law_in w9 h9)
  have hown : s9.vm.findClass RL = some m9.cls := hown
  have hA : ∀ q9 : Nat, s9.heap.size ≤ q9 → lA s9 q9 := fun _ h9 => h9
  have hbA : ¬ lA s9 b9 := Nat.not_le.mpr hbl
  obtain ⟨I, hH0, hTn, hZ, hK, hP, hD, hS⟩ := hG
  have hfc := lw_hc hL hi hiL
  obtain ⟨mk, ed, cO, nn, pa, Za, tz⟩ := u9
  have hK : va_K (dC, dI) vwCl ((xty xc ++ tz) ++ mty mc) s9 := hK
  have hP : va_P (dC, dI) vwCl (tW xa xc S mk ed (Za ++ tw pa S) ++ mw ma mc S) H := hP
  have hD : va_D (lA s9) (tW xa xc S mk ed (Za ++ tw pa S) ++ mw ma mc S) := hD
  have hKt : va_K (dC, dI) vwCl (xty xc ++ tz) s9 := kl_left hK
  have hKx : va_K (dC, dI) vwCl (xty xc) s9 := kl_left hKt
  have hKm : va_K (dC, dI) vwCl (mty mc) s9 := kl_right hK
  refine lv_aload_n hx hb dL_law_169 rfl (lv_at hl 1 rfl) ?_
  refine lv_aload_n hx hb dL_law_170 rfl (lv_at hl 0 rfl) ?_
  refine lv_iload_n hx hb dL_law_171 rfl (lv_at hl 3 rfl) ?_
  refine lv_iconst (v := nI 1) hx hb dL_law_172 (by decide) ?_
  refine lv_iadd hx hb dL_law_173 ?_
  refine f_ti (y := nI (i9 + 1)) (nI_add _ _) ?_
  refine va_sld hx hb hX hbl hbA hS (i := nI (i9 + 1)) (vp_in_nI (by omega) (by omega)) dL_law_174 ?_
  refine lv_aload_n hx hb dL_law_175 rfl (lv_at hl 0 rfl) ?_
  refine lv_iload_n hx hb dL_law_176 rfl (lv_at hl 3 rfl) ?_
  refine lv_iconst (v := nI 2) hx hb dL_law_177 (by decide) ?_
  refine lv_iadd hx hb dL_law_178 ?_
  refine f_ti (y := nI (i9 + 2)) (nI_add _ _) ?_
  refine va_sld hx hb hX hbl hbA hS (i := nI (i9 + 2)) (vp_in_nI (by omega) (by omega)) dL_law_179 ?_
  refine lv_i2l (v := Int32.toInt64 (xs (nI (i9 + 2)).toNatClampNeg)) hx hb dL_law_180 rfl ?_
  refine lv_bipush (v := 32) hx hb dL_law_181 (by decide) ?_
  refine lv_lshl (v := Int32.toInt64 (xs (nI (i9 + 2)).toNatClampNeg) <<< ((32 : Int32).toInt64 &&& 63)) hx hb dL_law_183 rfl ?_
  refine lv_aload_n hx hb dL_law_184 rfl (lv_at hl 0 rfl) ?_
  refine lv_iload_n hx hb dL_law_185 rfl (lv_at hl 3 rfl) ?_
  refine lv_iconst (v := nI 3) hx hb dL_law_186 (by decide) ?_
  refine lv_iadd hx hb dL_law_187 ?_
  refine f_ti (y := nI (i9 + 3)) (nI_add _ _) ?_
  refine va_sld hx hb hX hbl hbA hS (i := nI (i9 + 3)) (vp_in_nI (by omega) (by omega)) dL_law_188 ?_
  refine lv_i2l (v := Int32.toInt64 (xs (nI (i9 + 3)).toNatClampNeg)) hx hb dL_law_189 rfl ?_
  refine lv_ldc2 (v := 4294967295) hx hb hown (hts (.constantLong RL 13 (4294967295)) (by decide +kernel)) dL_law_190 ?_
  refine lv_land hx hb dL_law_193 ?_
  refine lv_lor hx hb dL_law_194 ?_
  refine f_tl (y := (lw2 (xs (nI (i9 + 2)).toNatClampNeg) (xs (nI (i9 + 3)).toNatClampNeg))) rfl ?_
  have hP : va_P (dC, dI) vwCl (xw xa xc S ++ ((lwO (xa 10) mk ed (sTn S) :: (Za ++ tw pa S)) ++ mw ma mc S)) H := hP
  have hD : va_D (lA s9) (xw xa xc S ++ ((lwO (xa 10) mk ed (sTn S) :: (Za ++ tw pa S)) ++ mw ma mc S)) := hD
  refine f_mcl (w := xw xa xc S) (z := (lwO (xa 10) mk ed (sTn S) :: (Za ++ tw pa S)) ++ mw ma mc S) (As := [.int (xs (nI (i9 + 1)).toNatClampNeg), .long (lw2 (xs (nI (i9 + 2)).toNatClampNeg) (xs (nI (i9 + 3)).toNatClampNeg))]) (rest := []) ⟨hx, hb, hml, hown, hts⟩ (c_X1_add l9 dC dI xa xc S H.size (xs (nI (i9 + 1)).toNatClampNeg) (lw2 (xs (nI (i9 + 2)).toNatClampNeg) (xs (nI (i9 + 3)).toNatClampNeg)) I) (cwV 2 hts gL_law_X1_add rfl rfl rfl (by decide +kernel) ⟨Nat.le_of_ble_eq_true rfl, Nat.le_of_ble_eq_true rfl⟩) (va_recv hKx (pl_left hP) (ci := 2) (q0 := 0) rfl rfl) hP hKx hD hS hA rfl hl.1 rfl (Nat.le_of_ble_eq_true rfl) dL_law_195 hfc (fun H locs hP hD hS => ?_)
  have hP : va_P (dC, dI) vwCl ((xw xa xc (addG S (xs (nI (i9 + 1)).toNatClampNeg) (lw2 (xs (nI (i9 + 2)).toNatClampNeg) (xs (nI (i9 + 3)).toNatClampNeg))) ++ (lwO (xa 10) mk ed (sTn S) :: (Za ++ tw pa S))) ++ mw ma mc S) H := hP
  have hD : va_D (lA s9) ((xw xa xc (addG S (xs (nI (i9 + 1)).toNatClampNeg) (lw2 (xs (nI (i9 + 2)).toNatClampNeg) (xs (nI (i9 + 3)).toNatClampNeg))) ++ (lwO (xa 10) mk ed (sTn S) :: (Za ++ tw pa S))) ++ mw ma mc S) := hD
  refine lv_aload_n hx hb dL_law_198 rfl (lv_at hl 2 rfl) ?_
  refine lv_aload_n hx hb dL_law_199 rfl (lv_at hl 0 rfl) ?_
  refine lv_iload_n hx hb dL_law_200 rfl (lv_at hl 3 rfl) ?_
  refine lv_iconst (v := nI 1) hx hb dL_law_201 (by decide) ?_
  refine lv_iadd hx hb dL_law_202 ?_
  refine f_ti (y := nI (i9 + 1)) (nI_add _ _) ?_
  refine va_sld hx hb hX hbl hbA hS (i := nI (i9 + 1)) (vp_in_nI (by omega) (by omega)) dL_law_203 ?_
  refine lv_aload_n hx hb dL_law_204 rfl (lv_at hl 0 rfl) ?_
  refine lv_iload_n hx hb dL_law_205 rfl (lv_at hl 3 rfl) ?_
  refine lv_iconst (v := nI 2) hx hb dL_law_206 (by decide) ?_
  refine lv_iadd hx hb dL_law_207 ?_
  refine f_ti (y := nI (i9 + 2)) (nI_add _ _) ?_
  refine va_sld hx hb hX hbl hbA hS (i := nI (i9 + 2)) (vp_in_nI (by omega) (by omega)) dL_law_208 ?_
  refine lv_i2l (v := Int32.toInt64 (xs (nI (i9 + 2)).toNatClampNeg)) hx hb dL_law_209 rfl ?_
  refine lv_bipush (v := 32) hx hb dL_law_210 (by decide) ?_
  refine lv_lshl (v := Int32.toInt64 (xs (nI (i9 + 2)).toNatClampNeg) <<< ((32 : Int32).toInt64 &&& 63)) hx hb dL_law_212 rfl ?_
  refine lv_aload_n hx hb dL_law_213 rfl (lv_at hl 0 rfl) ?_
  refine lv_iload_n hx hb dL_law_214 rfl (lv_at hl 3 rfl) ?_
  refine lv_iconst (v := nI 3) hx hb dL_law_215 (by decide) ?_
  refine lv_iadd hx hb dL_law_216 ?_
  refine f_ti (y := nI (i9 + 3)) (nI_add _ _) ?_
  refine va_sld hx hb hX hbl hbA hS (i := nI (i9 + 3)) (vp_in_nI (by omega) (by omega)) dL_law_217 ?_
  refine lv_i2l (v := Int32.toInt64 (xs (nI (i9 + 3)).toNatClampNeg)) hx hb dL_law_218 rfl ?_
  refine lv_ldc2 (v := 4294967295) hx hb hown (hts (.constantLong RL 13 (4294967295)) (by decide +kernel)) dL_law_219 ?_
  refine lv_land hx hb dL_law_222 ?_
  refine lv_lor hx hb dL_law_223 ?_
  refine f_tl (y := (lw2 (xs (nI (i9 + 2)).toNatClampNeg) (xs (nI (i9 + 3)).toNatClampNeg))) rfl ?_
  have hP := P_swap hP
  have hD := D_swap hD
  refine f_mcl (w := mw ma mc S) (As := [.int (xs (nI (i9 + 1)).toNatClampNeg), .long (lw2 (xs (nI (i9 + 2)).toNatClampNeg) (xs (nI (i9 + 3)).toNatClampNeg))]) (rest := [.long (addF S (xs (nI (i9 + 1)).toNatClampNeg) (lw2 (xs (nI (i9 + 2)).toNatClampNeg) (xs (nI (i9 + 3)).toNatClampNeg)))]) ⟨hx, hb, hml, hown, hts⟩ (c_X2_add l9 dC dI ma mc S H.size (xs (nI (i9 + 1)).toNatClampNeg) (lw2 (xs (nI (i9 + 2)).toNatClampNeg) (xs (nI (i9 + 3)).toNatClampNeg)) I) (cwV 2 hts gL_law_X2_add rfl rfl rfl (by decide +kernel) ⟨Nat.le_of_ble_eq_true rfl, Nat.le_of_ble_eq_true rfl⟩) (va_recv hKm (pl_left hP) (ci := 3) (q0 := 0) rfl rfl) hP hKm hD hS hA rfl hl.1 rfl (Nat.le_of_ble_eq_true rfl) dL_law_224 hfc (fun H locs hP hD hS => ?_)
  have hP := P_swap hP
  have hD := D_swap hD
  refine f_leq (tgt := 845) hx hb rfl rfl dL_law_227 dL_law_228 (by decide) (fun _ => ?_) (fun h9 => absurd rfl h9)
  refine W.widen (k := 32 + 2 * (j9 + 1)) (n := 17271 + 1007 * (j9 + 1)) (by omega) (by omega) ?_
  rw [tk_W tk_add] at hP hD
  exact kk (addG S (xs (nI (i9 + 1)).toNatClampNeg) (lw2 (xs (nI (i9 + 2)).toNatClampNeg) (xs (nI (i9 + 3)).toNatClampNeg))) (mk, ed, cO, nn, pa, Za, tz) H locs ⟨inv_addG I (xs (nI (i9 + 1)).toNatClampNeg) (lw2 (xs (nI (i9 + 2)).toNatClampNeg) (xs (nI (i9 + 3)).toNatClampNeg)), hi_addG hH0 (xs (nI (i9 + 1)).toNatClampNeg) (lw2 (xs (nI (i9 + 2)).toNatClampNeg) (xs (nI (i9 + 3)).toNatClampNeg)), by rw [tk_add.1]; omega, tk_Z tk_add hZ, hK, hP, hD, hS⟩
set_option maxHeartbeats 4000000 in
set_option maxRecDepth 100000 in
theorem law_next {p9 : Program} {l9 : Launch} {e9 : Env} {s9 : State} {m9 : MethodId} {bl : List Frame} {me : Method} {c9 : Code} {dC : Nat → ClassId} {dI : Nat → Nat → Nat} {b9 L9 : Nat} {xs : Nat → Int32} (hL : L9 ≤ 3072) (C0 : lw_At p9 s9 m9 me c9 b9 L9 xs) {xa : Nat → Nat} {xc : Nat → ClassId} {ma : Nat → Nat} {mc : Nat → ClassId} {mi t0 t1 t2 : Nat} (hXs : xsB mi t0 (lA s9) s9) (hSt : stB t1 t2 (lA s9) s9) {i9 j9 : Nat} (hi : i9 = 6 * j9) (hiL : i9 + 6 ≤ L9) {S : St} {u9 : LU} {H : Heap} {locs : List Loc} (hG : LSt dC dI xa xc ma mc t0 s9 S u9 j9 H locs) {ls : Array Slot} (hl : lv_has ls 4 [(0, .ref b9), (1, .ref (xa 0)), (2, .ref (ma 0)), (3, .int (nI i9))]) (kk : ∀ (S1 : St) (u1 : LU) (H1 : Heap) (locs1 : List Loc), LSt dC dI xa xc ma mc t0 s9 S1 u1 (j9 + 1) H1 locs1 → W p9 l9 e9 room_1 s9 m9 #[Value.ref b9] bl me c9 H1 locs1 (32 + 2 * (j9 + 1)) (17271 + 1007 * (j9 + 1)) (lw_Z bl #[Value.ref b9] s9) (F0 m9 845 ls [])) : W p9 l9 e9 room_1 s9 m9 #[Value.ref b9] bl me c9 H locs (32 + 2 * j9) (17271 + 1007 * j9) (lw_Z bl #[Value.ref b9] s9) (F0 m9 233 ls []) := by
  obtain ⟨hx, hb, hr, hml, hown, hts0, hX, hbl, hlocks, hgv⟩ := C0
  have hts : ∀ w9 ∈ wsL_law, w9.before #[Value.ref b9] s9 = true := fun w9 h9 => hts0 w9 (wsL_law_in w9 h9)
  have hown : s9.vm.findClass RL = some m9.cls := hown
  have hA : ∀ q9 : Nat, s9.heap.size ≤ q9 → lA s9 q9 := fun _ h9 => h9
  have hbA : ¬ lA s9 b9 := Nat.not_le.mpr hbl
  obtain ⟨I, hH0, hTn, hZ, hK, hP, hD, hS⟩ := hG
  have hfc := lw_hc hL hi hiL
  obtain ⟨mk, ed, cO, nn, pa, Za, tz⟩ := u9
  have hK : va_K (dC, dI) vwCl ((xty xc ++ tz) ++ mty mc) s9 := hK
  have hP : va_P (dC, dI) vwCl (tW xa xc S mk ed (Za ++ tw pa S) ++ mw ma mc S) H := hP
  have hD : va_D (lA s9) (tW xa xc S mk ed (Za ++ tw pa S) ++ mw ma mc S) := hD
  have hKt : va_K (dC, dI) vwCl (xty xc ++ tz) s9 := kl_left hK
  have hKx : va_K (dC, dI) vwCl (xty xc) s9 := kl_left hKt
  have hKm : va_K (dC, dI) vwCl (mty mc) s9 := kl_right hK
  refine lv_aload_n hx hb dL_law_233 rfl (lv_at hl 1 rfl) ?_
  have hP : va_P (dC, dI) vwCl (xw xa xc S ++ ((lwO (xa 10) mk ed (sTn S) :: (Za ++ tw pa S)) ++ mw ma mc S)) H := hP
  have hD : va_D (lA s9) (xw xa xc S ++ ((lwO (xa 10) mk ed (sTn S) :: (Za ++ tw pa S)) ++ mw ma mc S)) := hD
  refine f_mci (w := xw xa xc S) (z := (lwO (xa 10) mk ed (sTn S) :: (Za ++ tw pa S)) ++ mw ma mc S) (As := []) (rest := []) ⟨hx, hb, hml, hown, hts⟩ (c_X1_next l9 dC dI xa xc S H.size  I) (cwV 0 hts gL_law_X1_next rfl rfl rfl (by decide +kernel) ⟨Nat.le_of_ble_eq_true rfl, Nat.le_of_ble_eq_true rfl⟩) (va_recv hKx (pl_left hP) (ci := 2) (q0 := 0) rfl rfl) hP hKx hD hS hA rfl hl.1 rfl (Nat.le_of_ble_eq_true rfl) dL_law_234 hfc (fun H locs hP hD hS => ?_)
  have hP : va_P (dC, dI) vwCl ((xw xa xc (nxtG S) ++ (lwO (xa 10) mk ed (sTn S) :: (Za ++ tw pa S))) ++ mw ma mc S) H := hP
  have hD : va_D (lA s9) ((xw xa xc (nxtG S) ++ (lwO (xa 10) mk ed (sTn S) :: (Za ++ tw pa S))) ++ mw ma mc S) := hD
  refine lv_aload_n hx hb dL_law_237 rfl (lv_at hl 2 rfl) ?_
  have hP := P_swap hP
  have hD := D_swap hD
  refine f_mci (w := mw ma mc S) (As := []) (rest := [.int (nxtF S)]) ⟨hx, hb, hml, hown, hts⟩ (c_X2_next l9 dC dI ma mc S H.size  I (hH0 _ (by omega))) (cwV 0 hts gL_law_X2_next rfl rfl rfl (by decide +kernel) ⟨Nat.le_of_ble_eq_true rfl, Nat.le_of_ble_eq_true rfl⟩) (va_recv hKm (pl_left hP) (ci := 3) (q0 := 0) rfl rfl) hP hKm hD hS hA rfl hl.1 rfl (Nat.le_of_ble_eq_true rfl) dL_law_238 hfc (fun H locs hP hD hS => ?_)
  have hP := P_swap hP
  have hD := D_swap hD
  refine f_ieq (tgt := 845) hx hb rfl rfl dL_law_241 (by decide) (fun _ => ?_) (fun h9 => absurd rfl h9)
  refine W.widen (k := 32 + 2 * (j9 + 1)) (n := 17271 + 1007 * (j9 + 1)) (by omega) (by omega) ?_
  rw [tk_W tk_nxt] at hP hD
  exact kk (nxtG S) (mk, ed, cO, nn, pa, Za, tz) H locs ⟨inv_nxtG I , hi_nxtG hH0 , by rw [tk_nxt.1]; omega, tk_Z tk_nxt hZ, hK, hP, hD, hS⟩
set_option maxHeartbeats 4000000 in
set_option maxRecDepth 100000 in
theorem law_vote {p9 : Program} {l9 : Launch} {e9 : Env} {s9 : State} {m9 : MethodId} {bl : List Frame} {me : Method} {c9 : Code} {dC : Nat → ClassId} {dI : Nat → Nat → Nat} {b9 L9 : Nat} {xs : Nat → Int32} (hL : L9 ≤ 3072) (C0 : lw_At p9 s9 m9 me c9 b9 L9 xs) {xa : Nat → Nat} {xc : Nat → ClassId} {ma : Nat → Nat} {mc : Nat → ClassId} {mi t0 t1 t2 : Nat} (hXs : xsB mi t0 (lA s9) s9) (hSt : stB t1 t2 (lA s9) s9) {i9 j9 : Nat} (hi : i9 = 6 * j9) (hiL : i9 + 6 ≤ L9) {S : St} {u9 : LU} {H : Heap} {locs : List Loc} (hG : LSt dC dI xa xc ma mc t0 s9 S u9 j9 H locs) {ls : Array Slot} (hl : lv_has ls 4 [(0, .ref b9), (1, .ref (xa 0)), (2, .ref (ma 0)), (3, .int (nI i9))]) (kk : ∀ (S1 : St) (u1 : LU) (H1 : Heap) (locs1 : List Loc), LSt dC dI xa xc ma mc t0 s9 S1 u1 (j9 + 1) H1 locs1 → W p9 l9 e9 room_1 s9 m9 #[Value.ref b9] bl me c9 H1 locs1 (32 + 2 * (j9 + 1)) (17271 + 1007 * (j9 + 1)) (lw_Z bl #[Value.ref b9] s9) (F0 m9 845 ls [])) : W p9 l9 e9 room_1 s9 m9 #[Value.ref b9] bl me c9 H locs (32 + 2 * j9) (17271 + 1007 * j9) (lw_Z bl #[Value.ref b9] s9) (F0 m9 310 ls []) := by
  obtain ⟨hx, hb, hr, hml, hown, hts0, hX, hbl, hlocks, hgv⟩ := C0
  have hts : ∀ w9 ∈ wsL_law, w9.before #[Value.ref b9] s9 = true := fun w9 h9 => hts0 w9 (wsL_law_in w9 h9)
  have hown : s9.vm.findClass RL = some m9.cls := hown
  have hA : ∀ q9 : Nat, s9.heap.size ≤ q9 → lA s9 q9 := fun _ h9 => h9
  have hbA : ¬ lA s9 b9 := Nat.not_le.mpr hbl
  obtain ⟨I, hH0, hTn, hZ, hK, hP, hD, hS⟩ := hG
  have hfc := lw_hc hL hi hiL
  obtain ⟨mk, ed, cO, nn, pa, Za, tz⟩ := u9
  have hK : va_K (dC, dI) vwCl ((xty xc ++ tz) ++ mty mc) s9 := hK
  have hP : va_P (dC, dI) vwCl (tW xa xc S mk ed (Za ++ tw pa S) ++ mw ma mc S) H := hP
  have hD : va_D (lA s9) (tW xa xc S mk ed (Za ++ tw pa S) ++ mw ma mc S) := hD
  have hKt : va_K (dC, dI) vwCl (xty xc ++ tz) s9 := kl_left hK
  have hKx : va_K (dC, dI) vwCl (xty xc) s9 := kl_left hKt
  have hKm : va_K (dC, dI) vwCl (mty mc) s9 := kl_right hK
  refine lv_aload_n hx hb dL_law_310 rfl (lv_at hl 1 rfl) ?_
  refine lv_aload_n hx hb dL_law_311 rfl (lv_at hl 0 rfl) ?_
  refine lv_iload_n hx hb dL_law_312 rfl (lv_at hl 3 rfl) ?_
  refine lv_iconst (v := nI 1) hx hb dL_law_313 (by decide) ?_
  refine lv_iadd hx hb dL_law_314 ?_
  refine f_ti (y := nI (i9 + 1)) (nI_add _ _) ?_
  refine va_sld hx hb hX hbl hbA hS (i := nI (i9 + 1)) (vp_in_nI (by omega) (by omega)) dL_law_315 ?_
  refine lv_aload_n hx hb dL_law_316 rfl (lv_at hl 0 rfl) ?_
  refine lv_iload_n hx hb dL_law_317 rfl (lv_at hl 3 rfl) ?_
  refine lv_iconst (v := nI 2) hx hb dL_law_318 (by decide) ?_
  refine lv_iadd hx hb dL_law_319 ?_
  refine f_ti (y := nI (i9 + 2)) (nI_add _ _) ?_
  refine va_sld hx hb hX hbl hbA hS (i := nI (i9 + 2)) (vp_in_nI (by omega) (by omega)) dL_law_320 ?_
  refine lv_aload_n hx hb dL_law_321 rfl (lv_at hl 0 rfl) ?_
  refine lv_iload_n hx hb dL_law_322 rfl (lv_at hl 3 rfl) ?_
  refine lv_iconst (v := nI 3) hx hb dL_law_323 (by decide) ?_
  refine lv_iadd hx hb dL_law_324 ?_
  refine f_ti (y := nI (i9 + 3)) (nI_add _ _) ?_
  refine va_sld hx hb hX hbl hbA hS (i := nI (i9 + 3)) (vp_in_nI (by omega) (by omega)) dL_law_325 ?_
  refine lv_aload_n hx hb dL_law_326 rfl (lv_at hl 0 rfl) ?_
  refine lv_iload_n hx hb dL_law_327 rfl (lv_at hl 3 rfl) ?_
  refine lv_iconst (v := nI 4) hx hb dL_law_328 (by decide) ?_
  refine lv_iadd hx hb dL_law_329 ?_
  refine f_ti (y := nI (i9 + 4)) (nI_add _ _) ?_
  refine va_sld hx hb hX hbl hbA hS (i := nI (i9 + 4)) (vp_in_nI (by omega) (by omega)) dL_law_330 ?_
  refine lv_aload_n hx hb dL_law_331 rfl (lv_at hl 0 rfl) ?_
  refine lv_iload_n hx hb dL_law_332 rfl (lv_at hl 3 rfl) ?_
  refine lv_iconst (v := nI 5) hx hb dL_law_333 (by decide) ?_
  refine lv_iadd hx hb dL_law_334 ?_
  refine f_ti (y := nI (i9 + 5)) (nI_add _ _) ?_
  refine va_sld hx hb hX hbl hbA hS (i := nI (i9 + 5)) (vp_in_nI (by omega) (by omega)) dL_law_335 ?_
  have hP : va_P (dC, dI) vwCl (xw xa xc S ++ ((lwO (xa 10) mk ed (sTn S) :: (Za ++ tw pa S)) ++ mw ma mc S)) H := hP
  have hD : va_D (lA s9) (xw xa xc S ++ ((lwO (xa 10) mk ed (sTn S) :: (Za ++ tw pa S)) ++ mw ma mc S)) := hD
  refine f_mci (w := xw xa xc S) (z := (lwO (xa 10) mk ed (sTn S) :: (Za ++ tw pa S)) ++ mw ma mc S) (As := [.int (xs (nI (i9 + 1)).toNatClampNeg), .int (xs (nI (i9 + 2)).toNatClampNeg), .int (xs (nI (i9 + 3)).toNatClampNeg), .int (xs (nI (i9 + 4)).toNatClampNeg), .int (xs (nI (i9 + 5)).toNatClampNeg)]) (rest := []) ⟨hx, hb, hml, hown, hts⟩ (c_X1_vote l9 dC dI xa xc S H.size (xs (nI (i9 + 1)).toNatClampNeg) (xs (nI (i9 + 2)).toNatClampNeg) (xs (nI (i9 + 3)).toNatClampNeg) (xs (nI (i9 + 4)).toNatClampNeg) (xs (nI (i9 + 5)).toNatClampNeg) I) (cwV 5 hts gL_law_X1_vote rfl rfl rfl (by decide +kernel) ⟨Nat.le_of_ble_eq_true rfl, Nat.le_of_ble_eq_true rfl⟩) (va_recv hKx (pl_left hP) (ci := 2) (q0 := 0) rfl rfl) hP hKx hD hS hA rfl hl.1 rfl (Nat.le_of_ble_eq_true rfl) dL_law_336 hfc (fun H locs hP hD hS => ?_)
  have hP : va_P (dC, dI) vwCl ((xw xa xc (votG S (xs (nI (i9 + 1)).toNatClampNeg) (xs (nI (i9 + 2)).toNatClampNeg) (xs (nI (i9 + 3)).toNatClampNeg) (xs (nI (i9 + 4)).toNatClampNeg) (xs (nI (i9 + 5)).toNatClampNeg)) ++ (lwO (xa 10) mk ed (sTn S) :: (Za ++ tw pa S))) ++ mw ma mc S) H := hP
  have hD : va_D (lA s9) ((xw xa xc (votG S (xs (nI (i9 + 1)).toNatClampNeg) (xs (nI (i9 + 2)).toNatClampNeg) (xs (nI (i9 + 3)).toNatClampNeg) (xs (nI (i9 + 4)).toNatClampNeg) (xs (nI (i9 + 5)).toNatClampNeg)) ++ (lwO (xa 10) mk ed (sTn S) :: (Za ++ tw pa S))) ++ mw ma mc S) := hD
  refine lv_aload_n hx hb dL_law_339 rfl (lv_at hl 2 rfl) ?_
  refine lv_aload_n hx hb dL_law_340 rfl (lv_at hl 0 rfl) ?_
  refine lv_iload_n hx hb dL_law_341 rfl (lv_at hl 3 rfl) ?_
  refine lv_iconst (v := nI 1) hx hb dL_law_342 (by decide) ?_
  refine lv_iadd hx hb dL_law_343 ?_
  refine f_ti (y := nI (i9 + 1)) (nI_add _ _) ?_
  refine va_sld hx hb hX hbl hbA hS (i := nI (i9 + 1)) (vp_in_nI (by omega) (by omega)) dL_law_344 ?_
  refine lv_aload_n hx hb dL_law_345 rfl (lv_at hl 0 rfl) ?_
  refine lv_iload_n hx hb dL_law_346 rfl (lv_at hl 3 rfl) ?_
  refine lv_iconst (v := nI 2) hx hb dL_law_347 (by decide) ?_
  refine lv_iadd hx hb dL_law_348 ?_
  refine f_ti (y := nI (i9 + 2)) (nI_add _ _) ?_
  refine va_sld hx hb hX hbl hbA hS (i := nI (i9 + 2)) (vp_in_nI (by omega) (by omega)) dL_law_349 ?_
  refine lv_aload_n hx hb dL_law_350 rfl (lv_at hl 0 rfl) ?_
  refine lv_iload_n hx hb dL_law_351 rfl (lv_at hl 3 rfl) ?_
  refine lv_iconst (v := nI 3) hx hb dL_law_352 (by decide) ?_
  refine lv_iadd hx hb dL_law_353 ?_
  refine f_ti (y := nI (i9 + 3)) (nI_add _ _) ?_
  refine va_sld hx hb hX hbl hbA hS (i := nI (i9 + 3)) (vp_in_nI (by omega) (by omega)) dL_law_354 ?_
  refine lv_aload_n hx hb dL_law_355 rfl (lv_at hl 0 rfl) ?_
  refine lv_iload_n hx hb dL_law_356 rfl (lv_at hl 3 rfl) ?_
  refine lv_iconst (v := nI 4) hx hb dL_law_357 (by decide) ?_
  refine lv_iadd hx hb dL_law_358 ?_
  refine f_ti (y := nI (i9 + 4)) (nI_add _ _) ?_
  refine va_sld hx hb hX hbl hbA hS (i := nI (i9 + 4)) (vp_in_nI (by omega) (by omega)) dL_law_359 ?_
  refine lv_aload_n hx hb dL_law_360 rfl (lv_at hl 0 rfl) ?_
  refine lv_iload_n hx hb dL_law_361 rfl (lv_at hl 3 rfl) ?_
  refine lv_iconst (v := nI 5) hx hb dL_law_362 (by decide) ?_
  refine lv_iadd hx hb dL_law_363 ?_
  refine f_ti (y := nI (i9 + 5)) (nI_add _ _) ?_
  refine va_sld hx hb hX hbl hbA hS (i := nI (i9 + 5)) (vp_in_nI (by omega) (by omega)) dL_law_364 ?_
  have hP := P_swap hP
  have hD := D_swap hD
  refine f_mci (w := mw ma mc S) (As := [.int (xs (nI (i9 + 1)).toNatClampNeg), .int (xs (nI (i9 + 2)).toNatClampNeg), .int (xs (nI (i9 + 3)).toNatClampNeg), .int (xs (nI (i9 + 4)).toNatClampNeg), .int (xs (nI (i9 + 5)).toNatClampNeg)]) (rest := [.int (votF S (xs (nI (i9 + 1)).toNatClampNeg) (xs (nI (i9 + 2)).toNatClampNeg) (xs (nI (i9 + 3)).toNatClampNeg) (xs (nI (i9 + 4)).toNatClampNeg) (xs (nI (i9 + 5)).toNatClampNeg))]) ⟨hx, hb, hml, hown, hts⟩ (c_X2_vote l9 dC dI ma mc S H.size (xs (nI (i9 + 1)).toNatClampNeg) (xs (nI (i9 + 2)).toNatClampNeg) (xs (nI (i9 + 3)).toNatClampNeg) (xs (nI (i9 + 4)).toNatClampNeg) (xs (nI (i9 + 5)).toNatClampNeg) I) (cwV 5 hts gL_law_X2_vote rfl rfl rfl (by decide +kernel) ⟨Nat.le_of_ble_eq_true rfl, Nat.le_of_ble_eq_true rfl⟩) (va_recv hKm (pl_left hP) (ci := 3) (q0 := 0) rfl rfl) hP hKm hD hS hA rfl hl.1 rfl (Nat.le_of_ble_eq_true rfl) dL_law_365 hfc (fun H locs hP hD hS => ?_)
  have hP := P_swap hP
  have hD := D_swap hD
  refine f_ieq (tgt := 845) hx hb rfl rfl dL_law_368 (by decide) (fun _ => ?_) (fun h9 => absurd rfl h9)
  refine W.widen (k := 32 + 2 * (j9 + 1)) (n := 17271 + 1007 * (j9 + 1)) (by omega) (by omega) ?_
  rw [tk_W tk_vot] at hP hD
  exact kk (votG S (xs (nI (i9 + 1)).toNatClampNeg) (xs (nI (i9 + 2)).toNatClampNeg) (xs (nI (i9 + 3)).toNatClampNeg) (xs (nI (i9 + 4)).toNatClampNeg) (xs (nI (i9 + 5)).toNatClampNeg)) (mk, ed, cO, nn, pa, Za, tz) H locs ⟨inv_votG I (xs (nI (i9 + 1)).toNatClampNeg) (xs (nI (i9 + 2)).toNatClampNeg) (xs (nI (i9 + 3)).toNatClampNeg) (xs (nI (i9 + 4)).toNatClampNeg) (xs (nI (i9 + 5)).toNatClampNeg), hi_votG hH0 (xs (nI (i9 + 1)).toNatClampNeg) (xs (nI (i9 + 2)).toNatClampNeg) (xs (nI (i9 + 3)).toNatClampNeg) (xs (nI (i9 + 4)).toNatClampNeg) (xs (nI (i9 + 5)).toNatClampNeg), by rw [tk_vot.1]; omega, tk_Z tk_vot hZ, hK, hP, hD, hS⟩
