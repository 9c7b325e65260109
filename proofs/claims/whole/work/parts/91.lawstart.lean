/-! the law, from its entry -/
theorem inv_S0 : Inv S0 := by
  refine ⟨⟨by decide, by decide, by decide⟩, fun v9 h9 => absurd h9 (Nat.not_lt_zero _), fun i9 _ h9 => absurd h9 (Nat.not_lt_zero _), fun _ => Nat.zero_le _, fun _ => Nat.zero_le _, fun _ => Nat.zero_le _, ⟨fun k9 h9 => ?_, ⟨by decide, by decide⟩, by decide⟩, fun i9 h9 => absurd h9 (Nat.not_lt_zero _)⟩
  rcases (show k9 = 0 ∨ k9 = 1 ∨ k9 = 2 by omega) with rfl | rfl | rfl <;> decide
theorem hi_S0 : Hi0 S0 := fun _ _ => rfl
set_option maxHeartbeats 4000000 in
set_option maxRecDepth 100000 in
theorem whole_start {p : Program} {e : Env} {s : State} {m : MethodId} {below : List Frame} {meth : Method} {c : Code} (l : Launch) {b L : Nat} {xs : Nat → Int32} (hL : L ≤ 3072) (C0 : lw_At p s m meth c b L xs) : W p l e room_1 s m #[Value.ref b] below meth c s.heap [] 0 0 (lw_Z below #[Value.ref b] s) (entryFrame m ([Value.ref b] : List Value).toArray 4) := by
  obtain ⟨hx, hb, hr, hml, hown, hts0, hX, hbl, hlocks, hgv⟩ := id C0
  obtain ⟨mi, t0, t1, t2, hXs, hSt⟩ := lw_facts hts0 hgv
  have hts : ∀ w9 ∈ wsL_law, w9.before #[Value.ref b] s = true := fun w9 h9 => hts0 w9 (wsL_law_in w9 h9)
  have hown : s.vm.findClass RL = some m.cls := hown
  have hA : ∀ q9 : Nat, s.heap.size ≤ q9 → lA s q9 := fun _ h9 => h9
  obtain ⟨c0, iS0, hKn0⟩ := u_known (C := RJx4a65c) (T := TJx4a65c) (N := 3) (n := 3) hts0 lwi_Jx4a65c0 (hts0 (.instantiable RJx4a65c 3) (by decide +kernel))
  obtain ⟨c1, iS1, hKn1⟩ := u_known (C := RX0) (T := TX0) (N := 7) (n := 7) hts0 lwi_X00 (hts0 (.instantiable RX0 7) (by decide +kernel))
  obtain ⟨c2, iS2, hKn2⟩ := u_known (C := RX1) (T := TX1) (N := 14) (n := 14) hts0 lwi_X10 (hts0 (.instantiable RX1 14) (by decide +kernel))
  obtain ⟨c3, iS3, hKn3⟩ := u_known (C := RX2) (T := TX2) (N := 27) (n := 27) hts0 lwi_X20 (hts0 (.instantiable RX2 27) (by decide +kernel))
  obtain ⟨dC, dI, hKc⟩ : ∃ (dC : Nat → ClassId) (dI : Nat → Nat → Nat), ∀ (k : Nat) (q : vw_C), vwCl[k]? = some q → u_Kn s q.1 q.2.1 q.2.2 (dC k) (dI k) := by
    refine ⟨fun k => if k = 0 then c0 else if k = 1 then c1 else if k = 2 then c2 else c3, fun k => if k = 0 then iS0 else if k = 1 then iS1 else if k = 2 then iS2 else iS3, ?_⟩
    intro k q hq
    match k, hq with
    | 0, hq => cases hq; exact hKn0
    | 1, hq => cases hq; exact hKn1
    | 2, hq => cases hq; exact hKn2
    | 3, hq => cases hq; exact hKn3
    | k + 4, hq => simp [vwCl] at hq
  have hS : va_S (lA s) s.heap s.heap [] := va_S.rf
  have hK : va_K (dC, dI) vwCl [] s := ⟨hKc, fun k q h => by simp at h⟩
  have hP : va_P (dC, dI) vwCl [] s.heap := fun k q h => by simp at h
  have hD : va_D (lA s) [] := ⟨fun i j p q h => by simp at h, fun k q h => by simp at h⟩
  have hl := lv_entry ([.ref b]) (n := 4) (Nat.le_of_ble_eq_true rfl)
  rw [lg_entry_eq]
  generalize (lg_sl ([.ref b]) ++ List.replicate (4 - (lg_sl ([.ref b])).length) Slot.unset).toArray = ls at hl ⊢
  have hl : lv_has ls 4 [(0, .ref b)] := hl
  refine va_new (ci := 2) (fs := [.null, .null, .null, .null, .int 0, .int 0, .null, .null, .null, .int 0, .null, .null, .null, .long 0]) (C := RX1) (T := TX1) (N := 14) hx hb hts0 lwi_X10 tyX1 tyX1_ok hown (hts (.classLink RL 7 RX1) (by decide +kernel)) (hts (.instantiable RX1 14) (by decide +kernel)) (hts (.initialized RX1) (by decide +kernel)) hK hP hD hS hA rfl (fun i9 hi => match i9, hi with
    | 0, _ => rfl
    | 1, _ => rfl
    | 2, _ => rfl
    | 3, _ => rfl
    | 4, _ => rfl
    | 5, _ => rfl
    | 6, _ => rfl
    | 7, _ => rfl
    | 8, _ => rfl
    | 9, _ => rfl
    | 10, _ => rfl
    | 11, _ => rfl
    | 12, _ => rfl
    | 13, _ => rfl
    | i9 + 14, hi => absurd hi (by omega)) (Nat.le_of_ble_eq_true rfl) (Nat.le_of_ble_eq_true rfl) dL_law_0 (fun xh H hP hD hS => ?_)
  have hP : va_P (dC, dI) vwCl ([(xh, .inr (2, [.null, .null, .null, .null, .int 0, .int 0, .null, .null, .null, .int 0, .null, .null, .null, .long 0]))] ++ []) H := hP
  have hD : va_D (lA s) ([(xh, .inr (2, [.null, .null, .null, .null, .int 0, .int 0, .null, .null, .null, .int 0, .null, .null, .null, .long 0]))] ++ []) := hD
  refine lv_dup hx hb dL_law_3 rfl ?_
  have hF := mu_free hD hS hA
  refine va_callv (va_runI (As := []) (rest := [.ref xh]) ⟨hx, hb, hml, hown, hts⟩ (c_X1_init l dC dI xh t0 H.size) (cwI 0 hts gL_law_X1_init rfl rfl rfl (hts (.initialized RX1) (by decide +kernel)) (hts (.methodLink RL 9 yX1_init) (by decide +kernel)) (hts (.instanceMethod yX1_init) (by decide +kernel)) rfl (by decide +kernel) ⟨Nat.le_of_ble_eq_true rfl, Nat.le_of_ble_eq_true rfl⟩) ⟨fun a8 U9 g9 mk8 w8 => ⟨w8.1, muB_bl U9 g9 mk8 a8 w8.2.1, va_Z.moved (u := U9) (U := U9.calling g9 mk8 a8) (Vm.Alike.refl U9.vm) w8.2.2⟩, fun U9 hU hW => ⟨rfl, muB_at (pl_left hP) hK (dl_left hD) U9 hU hW, by rw [hU]; exact ((hXs.2.1.1.kept hS.2.1).narrow hF).moved hW.alike⟩⟩ rfl rfl hl.1 rfl (lv_room (Nat.le_of_ble_eq_true rfl)) dL_law_4 ⟨Nat.le_of_ble_eq_true rfl, Nat.le_of_ble_eq_true rfl⟩) hS (fun q9 _ h9 => hF q9 h9) hF (fun u8 t8 H1 locs ht hvm hw hB hz1 hk1 hSj => ?_)
  obtain ⟨⟨xa, xc⟩, u9⟩ := u8
  obtain ⟨hxa, hZ⟩ := hw
  obtain ⟨hP1, hK1, hD1⟩ := hB
  rw [ht] at hP1
  obtain ⟨hPi, hDi⟩ := mu_join hP hD hk1 hF hP1 hD1
  have hKx : va_K (dC, dI) vwCl (luT xc u9) s := va_K.moved (Vm.Alike.symm hvm) hK1
  have hPj : va_P (dC, dI) vwCl (luW xa xc S0 u9) H1 := by rw [List.append_nil] at hPi; exact hPi
  have hDj : va_D (lA s) (luW xa xc S0 u9) := by rw [List.append_nil] at hDi; exact hDi
  have hxa2 : xa 0 = xh := hxa
  subst hxa2
  refine lv_astore_n (lv' := [(1, .ref (xa 0)), (0, .ref b)]) hx hb dL_law_7 rfl hl (by decide) rfl (fun ls hl => ?_)
  refine va_new (ci := 3) (fs := [.int 0, .null, .null, .null, .int 0, .null, .null, .int 0, .null, .null, .null, .null, .null, .null, .null, .int 0, .long 0, .long 0, .int 0, .null, .null, .null, .null, .null, .null, .null, .null]) (C := RX2) (T := TX2) (N := 27) hx hb hts0 lwi_X20 tyX2 tyX2_ok hown (hts (.classLink RL 10 RX2) (by decide +kernel)) (hts (.instantiable RX2 27) (by decide +kernel)) (hts (.initialized RX2) (by decide +kernel)) hK hPj hDj hSj hA rfl (fun i9 hi => match i9, hi with
    | 0, _ => rfl
    | 1, _ => rfl
    | 2, _ => rfl
    | 3, _ => rfl
    | 4, _ => rfl
    | 5, _ => rfl
    | 6, _ => rfl
    | 7, _ => rfl
    | 8, _ => rfl
    | 9, _ => rfl
    | 10, _ => rfl
    | 11, _ => rfl
    | 12, _ => rfl
    | 13, _ => rfl
    | 14, _ => rfl
    | 15, _ => rfl
    | 16, _ => rfl
    | 17, _ => rfl
    | 18, _ => rfl
    | 19, _ => rfl
    | 20, _ => rfl
    | 21, _ => rfl
    | 22, _ => rfl
    | 23, _ => rfl
    | 24, _ => rfl
    | 25, _ => rfl
    | 26, _ => rfl
    | i9 + 27, hi => absurd hi (by omega)) (Nat.le_of_ble_eq_true rfl) (Nat.le_of_ble_eq_true rfl) dL_law_8 (fun mh H2 hPk hDk hSk => ?_)
  have hPl : va_P (dC, dI) vwCl ([(mh, .inr (3, [.int 0, .null, .null, .null, .int 0, .null, .null, .int 0, .null, .null, .null, .null, .null, .null, .null, .int 0, .long 0, .long 0, .int 0, .null, .null, .null, .null, .null, .null, .null, .null]))] ++ luW xa xc S0 u9) H2 := P_swap hPk
  have hDl : va_D (lA s) ([(mh, .inr (3, [.int 0, .null, .null, .null, .int 0, .null, .null, .int 0, .null, .null, .null, .null, .null, .null, .null, .int 0, .long 0, .long 0, .int 0, .null, .null, .null, .null, .null, .null, .null, .null]))] ++ luW xa xc S0 u9) := D_swap hDk
  refine lv_dup hx hb dL_law_11 rfl ?_
  have hFl := mu_free hDl hSk hA
  refine va_callv (va_runI (As := []) (rest := [.ref mh]) ⟨hx, hb, hml, hown, hts⟩ (c_X2_init l dC dI mh H2.size) (cwI 0 hts gL_law_X2_init rfl rfl rfl (hts (.initialized RX2) (by decide +kernel)) (hts (.methodLink RL 12 yX2_init) (by decide +kernel)) (hts (.instanceMethod yX2_init) (by decide +kernel)) rfl (by decide +kernel) ⟨Nat.le_of_ble_eq_true rfl, Nat.le_of_ble_eq_true rfl⟩) ⟨fun a8 U9 g9 mk8 w8 => ⟨w8.1, muB_bl U9 g9 mk8 a8 w8.2⟩, fun U9 hU hW => ⟨rfl, muB_at (pl_left hPl) hK (dl_left hDl) U9 hU hW⟩⟩ rfl rfl hl.1 rfl (lv_room (Nat.le_of_ble_eq_true rfl)) dL_law_12 ⟨Nat.le_of_ble_eq_true rfl, Nat.le_of_ble_eq_true rfl⟩) hSk (fun q9 _ h9 => hFl q9 h9) hFl (fun u8 t8 H3 locs3 ht3 hvm3 hw3 hB3 hz3 hk3 hSm => ?_)
  obtain ⟨ma, mc⟩ := u8
  obtain ⟨hP3, hK3, hD3⟩ := hB3
  rw [ht3] at hP3
  obtain ⟨hPm, hDm⟩ := mu_join hPl hDl hk3 hFl hP3 hD3
  have hKm : va_K (dC, dI) vwCl (mty mc) s := va_K.moved (Vm.Alike.symm hvm3) hK3
  have hPn := P_swap hPm
  have hDn := D_swap hDm
  have hma2 : ma 0 = mh := hw3
  subst hma2
  refine lv_astore_n (lv' := [(2, .ref (ma 0)), (1, .ref (xa 0)), (0, .ref b)]) hx hb dL_law_15 rfl hl (by decide) rfl (fun ls hl => ?_)
  refine lv_iconst (v := nI 0) hx hb dL_law_16 (by decide) ?_
  refine lv_istore_n (lv' := [(3, .int (nI 0)), (2, .ref (ma 0)), (1, .ref (xa 0)), (0, .ref b)]) hx hb dL_law_17 rfl hl (by decide) rfl (fun ls hl => ?_)
  refine W.widen (k := 32 + 2 * 0) (n := 17271 + 1007 * 0) (by omega) (by omega) ?_
  exact law_loop hL C0 hXs hSt (L + 1) 0 0 rfl (Nat.zero_le _) (by omega) S0 u9 H3 locs3 ⟨inv_S0, hi_S0, Nat.le_refl _, hZ, k_app hKx hKm, hPn, hDn, hSm⟩ ls (lv_sub hl [3, 2, 1, 0] rfl)
