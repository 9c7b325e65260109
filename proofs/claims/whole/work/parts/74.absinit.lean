/-! the constructors above the list's own -/
set_option maxRecDepth 100000 in
theorem c_AC_init (l9 : Launch) (h0 : Nat) : Met l9 yJxa1e45_init_da8c8 wsJxa1e45_init_da8c8 { frames := 1, cells := 0, slots := 0, locals := 12 } (va_Pc [.ref h0] noB) (va_Sv (fun _ => True)) 0 0 (fun _ => False) := by
  refine Ro_start (cc := cJxa1e45_init_da8c8) (maxL := 1) (ret := none) (lv := [(0, .ref h0)]) (by decide) rfl (Nat.le_of_ble_eq_true rfl) rfl ?_
  intro pp ee ss mm aa bl me co hx hb hr hml hts hown hlocks hnm hB ls hl
  refine lv_aload_n hx hb dJxa1e45_init_da8c8_0 rfl (lv_at hl 0 rfl) ?_
  refine W.objInit hx hb hown (hts (.methodLink RJxa1e45 1 objectInit) (by decide +kernel)) (hts (.instanceMethod objectInit) (by decide +kernel)) (hts _ (List.mem_cons_of_mem _ (List.mem_of_getElem? (i := 2) rfl))) rfl (by rw [hml]; exact hl.1) rfl dJxa1e45_init_da8c8_1 (Nat.le_of_ble_eq_true rfl) (Nat.le_of_ble_eq_true rfl) ?_
  refine W.eq (g2 := F0 mm 4 ls []) rfl ?_
  exact W.vret hx hb hr (fun t9 ht hW => ⟨rfl, trivial, ht⟩) (fun q9 hq => by simp at hq) dJxa1e45_init_da8c8_4 hlocks
set_option maxHeartbeats 4000000 in
set_option maxRecDepth 100000 in
theorem c_AL_init (l9 : Launch) (dC : Nat → ClassId) (dI : Nat → Nat → Nat) (h0 sz : Nat) (mc : Int32) (v9 : Value) (t9 : Int32) : MuV l9 yJxc12de_init_da8c8 wsJxc12de_init_da8c8 { frames := 2, cells := 0, slots := 0, locals := 32 } [.ref h0] (dC, dI) [(h0, .inr (0, [.int mc, v9, .int t9]))] [(h0, .inr (0, [.int 0, v9, .int t9]))] [] sz := by
  refine Ro_start (cc := cJxc12de_init_da8c8) (maxL := 1) (ret := none) (lv := [(0, .ref h0)]) (by decide) rfl (Nat.le_of_ble_eq_true rfl) rfl ?_
  intro pp ee ss mm aa bl me co hx hb hr hml hts hown hlocks hnm hB ls hl
  obtain ⟨hsz, hP, hK, hD0⟩ := hB
  subst hsz
  have hD := hD0.self (sz := ss.heap.size)
  generalize hAe : va_A [(h0, .inr (0, [.int mc, v9, .int t9]))] ss.heap.size = A at hD ⊢
  have hS : va_S A ss.heap ss.heap [] := va_S.rf
  have hin : ∀ w9 ∈ wsJx4a65c0, w9 ∈ wsJxc12de_init_da8c8 := fun w9 h9 => List.mem_cons_of_mem _ (List.mem_append_right _ h9)
  refine lv_aload_n hx hb dJxc12de_init_da8c8_0 rfl (lv_at hl 0 rfl) ?_
  refine va_csv (W.runI (As := []) (rest := []) ⟨hx, hb, hml, hown, hts⟩ (c_AC_init l9 h0) (cwI 0 hts gJxc12de_init_da8c8_Jxa1e45_init_da8c8 rfl rfl rfl (hts (.initialized RJxa1e45) (by decide +kernel)) (hts (.methodLink RJxc12de 1 yJxa1e45_init_da8c8) (by decide +kernel)) (hts (.instanceMethod yJxa1e45_init_da8c8) (by decide +kernel)) rfl (by decide +kernel) ⟨Nat.le_of_ble_eq_true rfl, Nat.le_of_ble_eq_true rfl⟩) ⟨fun a9 U9 g9 mk q9 => ⟨q9.1, trivial⟩, fun U9 hU hW => ⟨rfl, trivial⟩⟩ rfl rfl hl.1 rfl (lv_room (Nat.le_of_ble_eq_true rfl)) dJxc12de_init_da8c8_1 ⟨Nat.zero_le _, Nat.zero_le _⟩) (fun _ => ?_)
  refine lv_aload_n hx hb dJxc12de_init_da8c8_4 rfl (lv_at hl 0 rfl) ?_
  refine lv_iconst (v := 0) hx hb dJxc12de_init_da8c8_5 (by decide) ?_
  refine va_put (D := (dC, dI)) (ci := 0) (v := .int 0) (ty := .int) (C := RJx4a65c) (T := TJx4a65c) (N := 3) hx hb hts hin tyJx4a65c tyJx4a65c_ok nmJx4a65c hown hK hP hD hS 0 rfl rfl 0 (by decide) (hts (.fieldLink RJxc12de 7 "java/util/AbstractList" "modCount" "I") (by decide +kernel)) (fun _ h9 => h9) rfl (by decide +kernel) rfl rfl (Nat.le_of_ble_eq_true rfl) dJxc12de_init_da8c8_6 (fun H locs hP hD hS => ?_)
  exact f_mv hx hb hr hlocks hP hK hD hS dJxc12de_init_da8c8_9
