/-! a break is accused: the class -/
theorem ar_inv {S : St} {x9 a9 b9 y9 : Int32} (h : arF S x9 a9 b9 y9 = nI 0) : isVt S a9 = true ∧ (x9.toInt = 2 ∨ isVt S b9 = true) ∧ isNN S y9 = true ∧ isKd x9 = true ∧ (if x9.toInt = 2 then brF S (sVts S (tn a9)) else prF S (tn x9) (sVts S (tn a9)) (sVts S (tn b9))) = true := by
  unfold arF at h
  generalize (if x9.toInt = 2 then brF S (sVts S (tn a9)) else prF S (tn x9) (sVts S (tn a9)) (sVts S (tn b9))) = bb9 at h ⊢
  split at h
  · exact absurd h (by decide)
  · next h1 =>
    split at h
    · exact absurd h (by decide)
    · next h2 =>
      split at h
      · exact absurd h (by decide)
      · next h3 =>
        simp only [Bool.not_eq_false, Bool.and_eq_true, Bool.or_eq_true, decide_eq_true_eq] at h1 h2 h3
        exact ⟨h1.1.1, h1.1.2, h1.2, h2, h3⟩
theorem arF_z {S : St} {x9 a9 b9 y9 : Int32} (h : (arF S x9 a9 b9 y9).toInt = 0) : arF S x9 a9 b9 y9 = nI 0 := Int32.toInt_inj.mp (by rw [h]; decide)
abbrev rm_X1_accuse : Room := { frames := 8, cells := 2, slots := 1007, locals := 200 }
set_option maxHeartbeats 4000000 in
set_option maxRecDepth 100000 in
theorem c_X1_accuse (l9 : Launch) (dC : Nat → ClassId) (dI : Nat → Nat → Nat) (ad : Nat → Nat) (cy : Nat → ClassId) (S : St) (mc : Int32) (ed : Nat) (cO : ClassId) (nn : Nat) (pa : Nat → Nat) (Za : va_W) (tz : List (ClassId × FieldType)) (mi t0 sz : Nat) (x9 a9 b9 y9 : Int32) (I : Inv S) (hT : sTn S ≤ 512) (hZ : lsZ t0 ed (sTn S) (foF pa S) cO nn Za tz) : LuL l9 yX1_accuse wsX1_accuse rm_X1_accuse [.ref (ad 0), .int x9, .int a9, .int b9, .int y9] dC dI ad cy mi t0 S (mc, ed, cO, nn, pa, Za, tz) (acG S x9 a9 b9 y9) sz (acF S x9 a9 b9 y9) := by
  refine Ro_start (cc := cX1_accuse) (maxL := 6) (ret := (some .long)) (lv := [(0, .ref (ad 0)), (1, .int x9), (2, .int a9), (3, .int b9), (4, .int y9)]) (by decide) rfl (Nat.le_of_ble_eq_true rfl) rfl ?_
  intro pp ee ss mm aa bl me co hx hb hr hml hts hown hlocks hnm hB ls hl
  obtain ⟨⟨hsz, hP, hK, hD0⟩, hL⟩ := hB
  subst hsz
  have hD := hD0.self (sz := ss.heap.size)
  generalize hAe : va_A (luW ad cy S (mc, ed, cO, nn, pa, Za, tz)) ss.heap.size = A at hD hL ⊢
  have hA : ∀ q9 : Nat, ss.heap.size ≤ q9 → A q9 := fun q9 h9 => by rw [← hAe]; exact Or.inr h9
  have hS : va_S A ss.heap ss.heap [] := va_S.rf
  have hK : va_K (dC, dI) vwCl (xty cy ++ tz) ss := hK
  have hP : va_P (dC, dI) vwCl (tW ad cy S mc ed (Za ++ tw pa S)) ss.heap := hP
  have hD : va_D A (tW ad cy S mc ed (Za ++ tw pa S)) := hD
  have hlz : lstZ S ed nn cO pa (Za ++ tw pa S) tz := luZ_lst (u9 := (mc, ed, cO, nn, pa, Za, tz)) hZ
  have I1 := I.n
  refine lv_aload_n hx hb dX1_accuse_0 rfl (lv_at hl 0 rfl) ?_
  refine lv_iload_n hx hb dX1_accuse_1 rfl (lv_at hl 1 rfl) ?_
  refine lv_iload_n hx hb dX1_accuse_2 rfl (lv_at hl 2 rfl) ?_
  refine lv_iload_n hx hb dX1_accuse_3 rfl (lv_at hl 3 rfl) ?_
  refine lv_iload hx hb dX1_accuse_4 (lv_at hl 4 rfl) ?_
  refine f_cVi (As := [.int x9, .int a9, .int b9, .int y9]) (rest := []) ⟨hx, hb, hml, hown, hts⟩ (c_X1_accuseRefusal l9 dC dI ad cy S mc ed nn cO pa (Za ++ tw pa S) tz x9 a9 b9 y9 I hT hlz) (cwV 4 hts gX1_accuse_X1_accuseRefusal rfl rfl rfl (by decide +kernel) ⟨Nat.le_of_ble_eq_true rfl, Nat.le_of_ble_eq_true rfl⟩) tB_bl (va_recv hK hP (ci := 2) (q0 := 0) rfl rfl) (tB_at hP hK hL.2.2.1) rfl hl.1 rfl (Nat.le_of_ble_eq_true rfl) dX1_accuse_6 ⟨Nat.zero_le _, Nat.zero_le _⟩ ?_
  refine lv_istore (lv' := [(5, .int (arF S x9 a9 b9 y9)), (0, .ref (ad 0)), (1, .int x9), (2, .int a9), (3, .int b9), (4, .int y9)]) hx hb dX1_accuse_9 hl (by decide) rfl (fun ls hl => ?_)
  refine lv_iload hx hb dX1_accuse_11 (lv_at hl 0 rfl) ?_
  refine f_0eq (tgt := 20) hx hb rfl dX1_accuse_13 (by decide) (fun c_1 => ?_) (fun c_1 => ?_)
  · have har := arF_z c_1
    obtain ⟨h1, h2, h3, h4, h5⟩ := ar_inv har
    obtain ⟨q9, hq, rfl⟩ := kd_of h4
    obtain ⟨c9, hc, rfl⟩ := vt_of h1
    have hv := I.v hc
    have htq := tn_nI (n := q9) (by omega)
    have htc := tn_nI (n := c9) (by omega)
    have hqi := nI_toInt (n := q9) (by omega)
    have hci := nI_toInt (n := c9) (by omega)
    rw [htq, htc, hqi] at h5
    rw [hqi] at h2
    have hac0 : acF S (nI q9) (nI c9) b9 y9 = lN (cst S (sVts S c9 / 256 % 8) q9) := by
      unfold acF
      rw [if_pos har, htq, htc]
    have hag0 : acG S (nI q9) (nI c9) b9 y9 = accS S (sVts S c9 / 256 % 8) q9 (acA (nI q9) (nI c9) b9) (acB (nI q9) (nI c9) b9) y9 := by
      unfold acG
      rw [if_pos har, htq, htc]
    refine lv_iload_n hx hb dX1_accuse_20 rfl (lv_at hl 2 rfl) ?_
    refine f_0ne (tgt := 42) hx hb hqi dX1_accuse_21 (by decide) (fun c_2 => ?_) (fun c_2 => ?_)
    · have hA1 : acA (nI q9) (nI c9) b9 = c9 := by unfold acA; rw [if_neg (by omega), htc]
      refine lv_aload_n hx hb dX1_accuse_42 rfl (lv_at hl 1 rfl) ?_
      refine lv_iload_n hx hb dX1_accuse_43 rfl (lv_at hl 2 rfl) ?_
      refine lv_iload_n hx hb dX1_accuse_44 rfl (lv_at hl 3 rfl) ?_
      refine lv_iload_n hx hb dX1_accuse_45 rfl (lv_at hl 2 rfl) ?_
      refine lv_iconst (v := nI 2) hx hb dX1_accuse_46 (by decide) ?_
      refine f_ine (tgt := 54) hx hb hqi (nI_toInt (by omega)) dX1_accuse_47 (by decide) (fun c_3 => ?_) (fun c_3 => ?_)
      · have hB1 : acB (nI q9) (nI c9) b9 = b9 := by unfold acB; rw [if_neg (by omega), if_neg (by omega)]
        have hac := hac0
        have hag := hag0
        rw [hA1, hB1] at hag
        refine lv_iload_n hx hb dX1_accuse_54 rfl (lv_at hl 4 rfl) ?_
        refine lv_iload hx hb dX1_accuse_55 (lv_at hl 5 rfl) ?_
        refine va_calll (va_runV (As := [.int (nI q9), .int (nI (c9)), .int (b9), .int y9]) (rest := []) ⟨hx, hb, hml, hown, hts⟩ (c_X1_take l9 dC dI ad cy S mc ed cO nn pa Za tz mi t0 ss.heap.size q9 (c9) (b9) y9 I hT hZ (by omega) (by omega) h3) (cwV 4 hts gX1_accuse_X1_take rfl rfl rfl (by decide +kernel) ⟨Nat.le_of_ble_eq_true rfl, Nat.le_of_ble_eq_true rfl⟩) ⟨fun a8 U9 g9 mk w8 => ⟨w8.1, muB_bl U9 g9 mk a8 w8.2.1, xsB_bl U9 g9 mk a8 w8.2.2⟩, va_recv hK hP (ci := 2) (q0 := 0) rfl rfl, fun U9 hU hW => ⟨rfl, muB_at hP hK hD U9 hU hW, xsB_at hL hS (fun w8 h9 => by rw [← hAe]; exact h9) U9 hU hW⟩⟩ rfl rfl hl.1 rfl (lv_room (Nat.le_of_ble_eq_true rfl)) dX1_accuse_57 ⟨Nat.le_of_ble_eq_true rfl, Nat.le_of_ble_eq_true rfl⟩) hS (fun w8 _ h9 => by rw [← hAe]; exact h9) (fun w8 h9 => by rw [← hAe]; exact h9) (fun rr u8 t8 H1 locs ht hvm hw hB hz1 hk1 hS => ?_)
        obtain ⟨hP1, hK1, hD1⟩ := hB
        rw [ht] at hP1
        have hD2 : va_D A (luW ad cy (accS S (sVts S (c9) / 256 % 8) q9 (c9) (b9) y9) u8) := by rw [← hAe]; exact hD1
        have hK2 : va_K (dC, dI) vwCl (luT cy u8) ss := va_K.moved (Vm.Alike.symm hvm) hK1
        exact W.lret hx hb hr (fun t7 ht hW => ⟨⟨rr, u8, rfl, ⟨by rw [hac]; exact hw.1, by rw [hag]; exact hw.2⟩, by rw [ht, hag]; exact hP1, va_K.moved hW.alike hK2, by rw [hag]; exact hD2⟩, hS.F ht⟩) hS.2.2 dX1_accuse_60 hlocks
      · have hB1 : acB (nI q9) (nI c9) b9 = -1 := by unfold acB; rw [if_pos (by omega)]
        have hac := hac0
        have hag := hag0
        rw [hA1, hB1] at hag
        refine lv_iconst (v := -1) hx hb dX1_accuse_50 (by decide) ?_
        refine lv_goto (tgt := 55) hx hb dX1_accuse_51 (by decide) ?_
        refine lv_iload hx hb dX1_accuse_55 (lv_at hl 5 rfl) ?_
        refine va_calll (va_runV (As := [.int (nI q9), .int (nI (c9)), .int (-1), .int y9]) (rest := []) ⟨hx, hb, hml, hown, hts⟩ (c_X1_take l9 dC dI ad cy S mc ed cO nn pa Za tz mi t0 ss.heap.size q9 (c9) (-1) y9 I hT hZ (by omega) (by omega) h3) (cwV 4 hts gX1_accuse_X1_take rfl rfl rfl (by decide +kernel) ⟨Nat.le_of_ble_eq_true rfl, Nat.le_of_ble_eq_true rfl⟩) ⟨fun a8 U9 g9 mk w8 => ⟨w8.1, muB_bl U9 g9 mk a8 w8.2.1, xsB_bl U9 g9 mk a8 w8.2.2⟩, va_recv hK hP (ci := 2) (q0 := 0) rfl rfl, fun U9 hU hW => ⟨rfl, muB_at hP hK hD U9 hU hW, xsB_at hL hS (fun w8 h9 => by rw [← hAe]; exact h9) U9 hU hW⟩⟩ rfl rfl hl.1 rfl (lv_room (Nat.le_of_ble_eq_true rfl)) dX1_accuse_57 ⟨Nat.le_of_ble_eq_true rfl, Nat.le_of_ble_eq_true rfl⟩) hS (fun w8 _ h9 => by rw [← hAe]; exact h9) (fun w8 h9 => by rw [← hAe]; exact h9) (fun rr u8 t8 H1 locs ht hvm hw hB hz1 hk1 hS => ?_)
        obtain ⟨hP1, hK1, hD1⟩ := hB
        rw [ht] at hP1
        have hD2 : va_D A (luW ad cy (accS S (sVts S (c9) / 256 % 8) q9 (c9) (-1) y9) u8) := by rw [← hAe]; exact hD1
        have hK2 : va_K (dC, dI) vwCl (luT cy u8) ss := va_K.moved (Vm.Alike.symm hvm) hK1
        exact W.lret hx hb hr (fun t7 ht hW => ⟨⟨rr, u8, rfl, ⟨by rw [hac]; exact hw.1, by rw [hag]; exact hw.2⟩, by rw [ht, hag]; exact hP1, va_K.moved hW.alike hK2, by rw [hag]; exact hD2⟩, hS.F ht⟩) hS.2.2 dX1_accuse_60 hlocks
    · have hq0 : q9 = 0 := by omega
      obtain ⟨d9, hd, rfl⟩ := vt_of (h2.resolve_left (by omega))
      have hdi := nI_toInt (n := d9) (by omega)
      have htd := tn_nI (n := d9) (by omega)
      rw [if_neg (by omega), htd] at h5
      have hpw := pr_w h5
      have hA1 : acA (nI q9) (nI c9) (nI d9) = min c9 d9 := by
        unfold acA
        rw [hqi, hci, hdi, htd, htc]
        split <;> omega
      have hB1 : acB (nI q9) (nI c9) (nI d9) = nI (max c9 d9) := by
        unfold acB
        rw [if_neg (by omega), hqi, hci, hdi]
        split
        · congr 1; omega
        · congr 1; omega
      have hkk : sVts S (min c9 d9) / 256 = sVts S c9 / 256 := by
        rcases Nat.le_total c9 d9 with g | g
        · rw [Nat.min_eq_left g]
        · rw [Nat.min_eq_right g]; exact hpw.symm
      have hac := hac0
      have hag := hag0
      rw [hA1, hB1, ← hkk] at hag
      rw [← hkk] at hac
      refine lv_aload_n hx hb dX1_accuse_24 rfl (lv_at hl 1 rfl) ?_
      refine lv_iload_n hx hb dX1_accuse_25 rfl (lv_at hl 2 rfl) ?_
      refine lv_iload_n hx hb dX1_accuse_26 rfl (lv_at hl 3 rfl) ?_
      refine lv_iload_n hx hb dX1_accuse_27 rfl (lv_at hl 4 rfl) ?_
      refine va_mmin hx hb (by rw [hml]; exact hl.1.symm) hown (hts (.methodLink RX1 109 Lib.Math.min.name) (by decide +kernel)) (hts (.static Lib.Math.min.name) (by decide +kernel)) (hts (.initialized "java/lang/Math") (by decide +kernel)) (hts _ (List.mem_cons_of_mem _ (List.mem_append_left _ (List.mem_append_left _ (List.mem_append_left _ (List.mem_append_left _ (List.mem_of_getElem? (i := 3) rfl))))))) (Nat.le_of_ble_eq_true rfl) (Nat.le_of_ble_eq_true rfl) (Nat.zero_le _) (Nat.zero_le _) dX1_accuse_28 ?_
      refine f_ti (y := nI (min c9 d9)) (mn_nI (by omega) (by omega)) ?_
      refine lv_iload_n hx hb dX1_accuse_31 rfl (lv_at hl 3 rfl) ?_
      refine lv_iload_n hx hb dX1_accuse_32 rfl (lv_at hl 4 rfl) ?_
      refine va_mmax hx hb (by rw [hml]; exact hl.1.symm) hown (hts (.methodLink RX1 115 Lib.Math.max.name) (by decide +kernel)) (hts (.static Lib.Math.max.name) (by decide +kernel)) (hts (.initialized "java/lang/Math") (by decide +kernel)) (hts _ (List.mem_cons_of_mem _ (List.mem_append_left _ (List.mem_append_left _ (List.mem_append_left _ (List.mem_append_left _ (List.mem_of_getElem? (i := 6) rfl))))))) (Nat.le_of_ble_eq_true rfl) (Nat.le_of_ble_eq_true rfl) (Nat.zero_le _) (Nat.zero_le _) dX1_accuse_33 ?_
      refine f_ti (y := nI (max c9 d9)) (mx_nI (by omega) (by omega)) ?_
      refine lv_iload hx hb dX1_accuse_36 (lv_at hl 5 rfl) ?_
      refine va_calll (va_runV (As := [.int (nI q9), .int (nI (min c9 d9)), .int (nI (max c9 d9)), .int y9]) (rest := []) ⟨hx, hb, hml, hown, hts⟩ (c_X1_take l9 dC dI ad cy S mc ed cO nn pa Za tz mi t0 ss.heap.size q9 (min c9 d9) (nI (max c9 d9)) y9 I hT hZ (by omega) (by omega) h3) (cwV 4 hts gX1_accuse_X1_take rfl rfl rfl (by decide +kernel) ⟨Nat.le_of_ble_eq_true rfl, Nat.le_of_ble_eq_true rfl⟩) ⟨fun a8 U9 g9 mk w8 => ⟨w8.1, muB_bl U9 g9 mk a8 w8.2.1, xsB_bl U9 g9 mk a8 w8.2.2⟩, va_recv hK hP (ci := 2) (q0 := 0) rfl rfl, fun U9 hU hW => ⟨rfl, muB_at hP hK hD U9 hU hW, xsB_at hL hS (fun w8 h9 => by rw [← hAe]; exact h9) U9 hU hW⟩⟩ rfl rfl hl.1 rfl (lv_room (Nat.le_of_ble_eq_true rfl)) dX1_accuse_38 ⟨Nat.le_of_ble_eq_true rfl, Nat.le_of_ble_eq_true rfl⟩) hS (fun w8 _ h9 => by rw [← hAe]; exact h9) (fun w8 h9 => by rw [← hAe]; exact h9) (fun rr u8 t8 H1 locs ht hvm hw hB hz1 hk1 hS => ?_)
      obtain ⟨hP1, hK1, hD1⟩ := hB
      rw [ht] at hP1
      have hD2 : va_D A (luW ad cy (accS S (sVts S (min c9 d9) / 256 % 8) q9 (min c9 d9) (nI (max c9 d9)) y9) u8) := by rw [← hAe]; exact hD1
      have hK2 : va_K (dC, dI) vwCl (luT cy u8) ss := va_K.moved (Vm.Alike.symm hvm) hK1
      exact W.lret hx hb hr (fun t7 ht hW => ⟨⟨rr, u8, rfl, ⟨by rw [hac]; exact hw.1, by rw [hag]; exact hw.2⟩, by rw [ht, hag]; exact hP1, va_K.moved hW.alike hK2, by rw [hag]; exact hD2⟩, hS.F ht⟩) hS.2.2 dX1_accuse_41 hlocks
  · have hne : ¬ arF S x9 a9 b9 y9 = nI 0 := fun e9 => c_1 (by rw [e9]; decide)
    obtain ⟨hag, hac⟩ := ac_no (S := S) (x := x9) (a := a9) (b := b9) (y := y9) rfl hne
    refine lv_iload hx hb dX1_accuse_16 (lv_at hl 0 rfl) ?_
    refine lv_i2l (v := Int32.toInt64 (arF S x9 a9 b9 y9)) hx hb dX1_accuse_18 rfl ?_
    refine W.widen (k := 2) (n := 1007) (Nat.le_of_ble_eq_true rfl) (Nat.le_of_ble_eq_true rfl) ?_
    exact W.lret hx hb hr (fun t7 ht hW => ⟨⟨_, (mc, ed, cO, nn, pa, Za, tz), rfl, ⟨hac.symm, by rw [hag]; exact hZ⟩, by rw [ht, hag]; exact hP, va_K.moved hW.alike hK, by rw [hag]; exact hD⟩, hS.F ht⟩) hS.2.2 dX1_accuse_19 hlocks
