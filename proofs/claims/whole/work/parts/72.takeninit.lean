/-! a break that was taken: its object is made -/
set_option maxHeartbeats 4000000 in
set_option maxRecDepth 100000 in
theorem c_X0_init (l9 : Launch) (dC : Nat → ClassId) (dI : Nat → Nat → Nat) (h0 sz : Nat) (x1 x2 x3 x4 x5 : Int32) (x6 x8 : Int64) : MuV l9 yX0_init wsX0_init { frames := 1, cells := 0, slots := 0, locals := 12 } [.ref h0, .int x1, .int x2, .int x3, .int x4, .int x5, .long x6, .long x8] (dC, dI) [(h0, .inr (1, [.int 0, .int 0, .int 0, .int 0, .int 0, .long 0, .long 0]))] [(h0, .inr (1, [.int x1, .int x2, .int x3, .int x4, .int x5, .long x6, .long x8]))] [] sz := by
  refine Ro_start (cc := cX0_init) (maxL := 10) (ret := none) (lv := [(0, .ref h0), (1, .int x1), (2, .int x2), (3, .int x3), (4, .int x4), (5, .int x5), (6, .long x6), (8, .long x8)]) (by decide) rfl (Nat.le_of_ble_eq_true rfl) rfl ?_
  intro pp ee ss mm aa bl me co hx hb hr hml hts hown hlocks hnm hB ls hl
  obtain ⟨hsz, hP, hK, hD0⟩ := hB
  subst hsz
  have hD := hD0.self (sz := ss.heap.size)
  generalize hAe : va_A [(h0, .inr (1, [.int 0, .int 0, .int 0, .int 0, .int 0, .long 0, .long 0]))] ss.heap.size = A at hD ⊢
  have hS : va_S A ss.heap ss.heap [] := va_S.rf
  have hn2 : me.name = "<init>" := hnm
  have hin : ∀ w9 ∈ wsX00, w9 ∈ wsX0_init := fun w9 h9 => List.mem_cons_of_mem _ (List.mem_append_right _ h9)
  refine lv_aload_n hx hb dX0_init_0 rfl (lv_at hl 0 rfl) ?_
  refine W.objInit hx hb hown (hts (.methodLink RX0 1 objectInit) (by decide +kernel)) (hts (.instanceMethod objectInit) (by decide +kernel)) (hts _ (List.mem_cons_of_mem _ (List.mem_append_left _ (List.mem_of_getElem? (i := 2) rfl)))) rfl (by rw [hml]; exact hl.1) rfl dX0_init_1 (Nat.le_of_ble_eq_true rfl) (Nat.le_of_ble_eq_true rfl) ?_
  refine W.eq (g2 := F0 mm 4 ls []) rfl ?_
  refine lv_aload_n hx hb dX0_init_4 rfl (lv_at hl 0 rfl) ?_
  refine lv_iload_n hx hb dX0_init_5 rfl (lv_at hl 1 rfl) ?_
  refine va_putF (D := (dC, dI)) (ci := 1) (v := .int x1) (ty := .int) (C := RX0) (T := TX0) (N := 7) hx hb hts hin tyX0 tyX0_ok nmX0 hown hK hP hD hS 0 rfl rfl 0 (by decide) (hts (.fieldLink RX0 7 "FaultEvidence$Taken" "kind" "I") (by decide +kernel)) (fun _ h9 => h9) rfl hn2 rfl (by decide +kernel) rfl rfl (Nat.le_of_ble_eq_true rfl) dX0_init_6 (fun H locs hP hD hS => ?_)
  have hP : va_P (dC, dI) vwCl [(h0, .inr (1, [.int x1, .int 0, .int 0, .int 0, .int 0, .long 0, .long 0]))] H := hP
  have hD : va_D A [(h0, .inr (1, [.int x1, .int 0, .int 0, .int 0, .int 0, .long 0, .long 0]))] := hD
  refine lv_aload_n hx hb dX0_init_9 rfl (lv_at hl 0 rfl) ?_
  refine lv_iload_n hx hb dX0_init_10 rfl (lv_at hl 2 rfl) ?_
  refine va_putF (D := (dC, dI)) (ci := 1) (v := .int x2) (ty := .int) (C := RX0) (T := TX0) (N := 7) hx hb hts hin tyX0 tyX0_ok nmX0 hown hK hP hD hS 0 rfl rfl 1 (by decide) (hts (.fieldLink RX0 13 "FaultEvidence$Taken" "first" "I") (by decide +kernel)) (fun _ h9 => h9) rfl hn2 rfl (by decide +kernel) rfl rfl (Nat.le_of_ble_eq_true rfl) dX0_init_11 (fun H locs hP hD hS => ?_)
  have hP : va_P (dC, dI) vwCl [(h0, .inr (1, [.int x1, .int x2, .int 0, .int 0, .int 0, .long 0, .long 0]))] H := hP
  have hD : va_D A [(h0, .inr (1, [.int x1, .int x2, .int 0, .int 0, .int 0, .long 0, .long 0]))] := hD
  refine lv_aload_n hx hb dX0_init_14 rfl (lv_at hl 0 rfl) ?_
  refine lv_iload_n hx hb dX0_init_15 rfl (lv_at hl 3 rfl) ?_
  refine va_putF (D := (dC, dI)) (ci := 1) (v := .int x3) (ty := .int) (C := RX0) (T := TX0) (N := 7) hx hb hts hin tyX0 tyX0_ok nmX0 hown hK hP hD hS 0 rfl rfl 2 (by decide) (hts (.fieldLink RX0 16 "FaultEvidence$Taken" "second" "I") (by decide +kernel)) (fun _ h9 => h9) rfl hn2 rfl (by decide +kernel) rfl rfl (Nat.le_of_ble_eq_true rfl) dX0_init_16 (fun H locs hP hD hS => ?_)
  have hP : va_P (dC, dI) vwCl [(h0, .inr (1, [.int x1, .int x2, .int x3, .int 0, .int 0, .long 0, .long 0]))] H := hP
  have hD : va_D A [(h0, .inr (1, [.int x1, .int x2, .int x3, .int 0, .int 0, .long 0, .long 0]))] := hD
  refine lv_aload_n hx hb dX0_init_19 rfl (lv_at hl 0 rfl) ?_
  refine lv_iload hx hb dX0_init_20 (lv_at hl 4 rfl) ?_
  refine va_putF (D := (dC, dI)) (ci := 1) (v := .int x4) (ty := .int) (C := RX0) (T := TX0) (N := 7) hx hb hts hin tyX0 tyX0_ok nmX0 hown hK hP hD hS 0 rfl rfl 3 (by decide) (hts (.fieldLink RX0 19 "FaultEvidence$Taken" "accuser" "I") (by decide +kernel)) (fun _ h9 => h9) rfl hn2 rfl (by decide +kernel) rfl rfl (Nat.le_of_ble_eq_true rfl) dX0_init_22 (fun H locs hP hD hS => ?_)
  have hP : va_P (dC, dI) vwCl [(h0, .inr (1, [.int x1, .int x2, .int x3, .int x4, .int 0, .long 0, .long 0]))] H := hP
  have hD : va_D A [(h0, .inr (1, [.int x1, .int x2, .int x3, .int x4, .int 0, .long 0, .long 0]))] := hD
  refine lv_aload_n hx hb dX0_init_25 rfl (lv_at hl 0 rfl) ?_
  refine lv_iload hx hb dX0_init_26 (lv_at hl 5 rfl) ?_
  refine va_putF (D := (dC, dI)) (ci := 1) (v := .int x5) (ty := .int) (C := RX0) (T := TX0) (N := 7) hx hb hts hin tyX0 tyX0_ok nmX0 hown hK hP hD hS 0 rfl rfl 4 (by decide) (hts (.fieldLink RX0 22 "FaultEvidence$Taken" "heightThen" "I") (by decide +kernel)) (fun _ h9 => h9) rfl hn2 rfl (by decide +kernel) rfl rfl (Nat.le_of_ble_eq_true rfl) dX0_init_28 (fun H locs hP hD hS => ?_)
  have hP : va_P (dC, dI) vwCl [(h0, .inr (1, [.int x1, .int x2, .int x3, .int x4, .int x5, .long 0, .long 0]))] H := hP
  have hD : va_D A [(h0, .inr (1, [.int x1, .int x2, .int x3, .int x4, .int x5, .long 0, .long 0]))] := hD
  refine lv_aload_n hx hb dX0_init_31 rfl (lv_at hl 0 rfl) ?_
  refine lv_lload hx hb dX0_init_32 (lv_at hl 6 rfl) ?_
  refine va_putF (D := (dC, dI)) (ci := 1) (v := .long x6) (ty := .long) (C := RX0) (T := TX0) (N := 7) hx hb hts hin tyX0 tyX0_ok nmX0 hown hK hP hD hS 0 rfl rfl 5 (by decide) (hts (.fieldLink RX0 25 "FaultEvidence$Taken" "cost" "J") (by decide +kernel)) (fun _ h9 => h9) rfl hn2 rfl (by decide +kernel) rfl rfl (Nat.le_of_ble_eq_true rfl) dX0_init_34 (fun H locs hP hD hS => ?_)
  have hP : va_P (dC, dI) vwCl [(h0, .inr (1, [.int x1, .int x2, .int x3, .int x4, .int x5, .long x6, .long 0]))] H := hP
  have hD : va_D A [(h0, .inr (1, [.int x1, .int x2, .int x3, .int x4, .int x5, .long x6, .long 0]))] := hD
  refine lv_aload_n hx hb dX0_init_37 rfl (lv_at hl 0 rfl) ?_
  refine lv_lload hx hb dX0_init_38 (lv_at hl 7 rfl) ?_
  refine va_putF (D := (dC, dI)) (ci := 1) (v := .long x8) (ty := .long) (C := RX0) (T := TX0) (N := 7) hx hb hts hin tyX0 tyX0_ok nmX0 hown hK hP hD hS 0 rfl rfl 6 (by decide) (hts (.fieldLink RX0 29 "FaultEvidence$Taken" "reward" "J") (by decide +kernel)) (fun _ h9 => h9) rfl hn2 rfl (by decide +kernel) rfl rfl (Nat.le_of_ble_eq_true rfl) dX0_init_40 (fun H locs hP hD hS => ?_)
  have hP : va_P (dC, dI) vwCl [(h0, .inr (1, [.int x1, .int x2, .int x3, .int x4, .int x5, .long x6, .long x8]))] H := hP
  have hD : va_D A [(h0, .inr (1, [.int x1, .int x2, .int x3, .int x4, .int x5, .long x6, .long x8]))] := hD
  exact f_mv hx hb hr hlocks hP hK hD hS dX0_init_43
