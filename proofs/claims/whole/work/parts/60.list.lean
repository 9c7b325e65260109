/-! the list: what is read of it -/
abbrev RoR (l : Launch) (y : MethodName) (ws : List Cond) (rm : Room) (As : List Value) (B : State → Prop) (v : Nat) : Prop := Met l y ws rm (va_Pc As B) (va_Sr (fun k => k = v) (fun k => Value.ref k)) 0 0 (fun _ => False)
section FL9
variable {p : Program} {l : Launch} {e : Env} {R : Room} {s : State} {m : MethodId} {args : Array Value} {below : List Frame} {meth : Method} {c : Code} {H : Heap} {locs : List Loc} {cells slots : Nat} {Q : State → Prop} {cc : ByteArray} {pc : Nat} {ls : Array Slot} {rest : List Value}
theorem f_cVr {nL index n maxL : Nat} {own C : String} {y : MethodName} {bytes : ByteArray} {ret : Option FieldType} {ws Ts : List Cond} {rm : Room} {b : Nat} {As st0 : List Value} {B : State → Prop} {v : Nat} (S : CallFix p m c cc nL s args Ts own) (hM : RoR l y ws rm (.ref b :: As) B v) (cw : CallW R s args own C index y bytes maxL ret ws rm 0 0 n) (hbl : ∀ (U : State) (g : JFrame) (mk : MethodId) (a : Array Value), B U → B (U.calling g mk a)) (hrc : ∃ cellB : Cell, H[b]? = some cellB ∧ cellB.vm.isStatics = false ∧ s.vm.findClass C = some cellB.cls) (hB : ∀ U : State, U.heap = H → s.WarmedH U.vm → B U) (hn : As.length = n) (hsize : ls.size = nL) (hst : st0 = As.reverse ++ .ref b :: rest) (hroom : (rest.map fun v => v.category).sum ≤ 8) (hdg : decode cc pc = .ok (.invokevirtual index, 3)) (hf : cells ≤ R.cells ∧ slots ≤ R.slots)
    (kk : W p l e R s m args below meth c H locs cells slots Q (F0 m (pc + 3) ls (.ref v :: rest))) : W p l e R s m args below meth c H locs cells slots Q (F0 m pc ls st0) := by
  refine va_csr (W.runV (As := As) (rest := rest) S hM cw ⟨fun a U g mk q => ⟨q.1, hbl U g mk a q.2⟩, hrc, fun U hU hW => ⟨rfl, hB U hU hW⟩⟩ rfl hn hsize hst (lv_room hroom) hdg hf) (fun r h => ?_)
  rw [h]
  exact kk
theorem f_rr {v : Nat} {nm : String} (hx : p.tables.exec = Jvm.exec) (hb : c.code = cc) (hr : meth.sig.returnType = some (.object nm)) (hlocks : meth.locks = false) (hdg : decode cc pc = .ok (.areturn, 1)) : W p l e R s m args below meth c s.heap [] 0 0 (MQ below (va_Sr (fun k => k = v) (fun k => Value.ref k)) args s 0 0 (fun _ => False)) (F0 m pc ls [.ref v]) := W.aret hx hb hr (Or.inl ⟨nm, rfl⟩) (Or.inr ⟨v, rfl⟩) (fun t ht hW => ⟨v, rfl, rfl, ht⟩) (fun q hq => by simp at hq) hdg hlocks
end FL9
abbrev lwO (la : Nat) (mc : Int32) (ed t : Nat) : Nat × va_E := (la, .inr (0, [.int mc, .ref ed, .int (nI t)]))
abbrev lwA (ed : Nat) (cO : ClassId) (n : Nat) (f : Nat → Option Nat) : Nat × va_E := (ed, .inl (cO, n, .inr (.inr (.inr (.inr f)))))
set_option maxRecDepth 100000 in
theorem c_J3_check (l9 : Launch) (i9 n9 : Nat) (h1 : i9 < n9) (h2 : n9 < 2147483648) : RoI l9 yJ3_checkIndex_8e157 wsJ3_checkIndex_8e157 { frames := 0, cells := 0, slots := 0, locals := 0 } [.int (nI i9), .int (nI n9), .null] noB (nI i9) := by
  refine Ro_start (cc := cJ3_checkIndex_8e157) (maxL := 3) (ret := (some .int)) (lv := [(0, .int (nI i9)), (1, .int (nI n9)), (2, .null)]) (by decide) rfl (Nat.le_of_ble_eq_true rfl) rfl ?_
  intro pp ee ss mm aa bl me co hx hb hr hml hts hown hlocks hnm hB ls hl
  refine lv_iload_n hx hb dJ3_checkIndex_8e157_0 rfl (lv_at hl 0 rfl) ?_
  refine f_0lt (tgt := 9) hx hb (nI_toInt (by omega)) dJ3_checkIndex_8e157_1 (by decide) (fun c_1 => ?_) (fun c_1 => ?_)
  · exfalso; omega
  refine lv_iload_n hx hb dJ3_checkIndex_8e157_4 rfl (lv_at hl 0 rfl) ?_
  refine lv_iload_n hx hb dJ3_checkIndex_8e157_5 rfl (lv_at hl 1 rfl) ?_
  refine f_ilt (tgt := 16) hx hb (nI_toInt (by omega)) (nI_toInt (by omega)) dJ3_checkIndex_8e157_6 (by decide) (fun c_2 => ?_) (fun c_2 => ?_)
  · refine lv_iload_n hx hb dJ3_checkIndex_8e157_16 rfl (lv_at hl 0 rfl) ?_
    exact f_ri hx hb hr hlocks rfl dJ3_checkIndex_8e157_17
  · exfalso; omega
set_option maxRecDepth 100000 in
theorem c_J15_check (l9 : Launch) (i9 n9 : Nat) (h1 : i9 < n9) (h2 : n9 < 2147483648) : RoI l9 yJ15_checkIndex_7cf53 wsJ15_checkIndex_7cf53 { frames := 1, cells := 0, slots := 0, locals := 22 } [.int (nI i9), .int (nI n9)] noB (nI i9) := by
  refine Ro_start (cc := cJ15_checkIndex_7cf53) (maxL := 2) (ret := (some .int)) (lv := [(0, .int (nI i9)), (1, .int (nI n9))]) (by decide) rfl (Nat.le_of_ble_eq_true rfl) rfl ?_
  intro pp ee ss mm aa bl me co hx hb hr hml hts hown hlocks hnm hB ls hl
  refine lv_iload_n hx hb dJ15_checkIndex_7cf53_0 rfl (lv_at hl 0 rfl) ?_
  refine lv_iload_n hx hb dJ15_checkIndex_7cf53_1 rfl (lv_at hl 1 rfl) ?_
  refine lv_null hx hb dJ15_checkIndex_7cf53_2 ?_
  refine f_cSi (As := [.int (nI i9), .int (nI n9), .null]) (rest := []) ⟨hx, hb, hml, hown, hts⟩ (c_J3_check l9 i9 n9 h1 h2) (va_cwS 3 hts gJ15_checkIndex_7cf53_J3_checkIndex_8e157 rfl rfl rfl (by decide +kernel) ⟨Nat.le_of_ble_eq_true rfl, Nat.le_of_ble_eq_true rfl⟩) noB_bl noB_at rfl hl.1 rfl (Nat.le_of_ble_eq_true rfl) dJ15_checkIndex_7cf53_3 ⟨Nat.zero_le _, Nat.zero_le _⟩ ?_
  exact f_ri hx hb hr hlocks rfl dJ15_checkIndex_7cf53_6
set_option maxRecDepth 100000 in
theorem c_size (l9 : Launch) (dC : Nat → ClassId) (dI : Nat → Nat → Nat) (la : Nat) (mc : Int32) (ed t9 : Nat) : RoI l9 yJx4a65c_size_8abf5 wsJx4a65c_size_8abf5 { frames := 0, cells := 0, slots := 0, locals := 0 } [.ref la] (roB (dC, dI) [lwO la mc ed t9] []) (nI t9) := by
  refine Ro_start (cc := cJx4a65c_size_8abf5) (maxL := 1) (ret := (some .int)) (lv := [(0, .ref la)]) (by decide) rfl (Nat.le_of_ble_eq_true rfl) rfl ?_
  intro pp ee ss mm aa bl me co hx hb hr hml hts hown hlocks hnm hB ls hl
  obtain ⟨hP, hK⟩ := hB
  have hin : ∀ w9 ∈ wsJx4a65c0, w9 ∈ wsJx4a65c_size_8abf5 := fun w9 h9 => List.mem_cons_of_mem _ (List.mem_append_right _ h9)
  have hf := hts (.fieldLink RJx4a65c 48 "java/util/ArrayList" "size" "I") (by decide +kernel)
  refine lv_aload_n hx hb dJx4a65c_size_8abf5_0 rfl (lv_at hl 0 rfl) ?_
  refine va_get (D := (dC, dI)) (ci := 0) (v := .int (nI t9)) (C := RJx4a65c) (T := TJx4a65c) (N := 3) hx hb hts hin hown hK hP 0 rfl rfl 2 (by decide) hf (fun _ h9 => h9) rfl dJx4a65c_size_8abf5_1 ?_
  exact f_ri hx hb hr hlocks rfl dJx4a65c_size_8abf5_4
set_option maxRecDepth 100000 in
theorem c_elem (l9 : Launch) (dC : Nat → ClassId) (dI : Nat → Nat → Nat) (la : Nat) (mc : Int32) (ed t9 : Nat) (cO : ClassId) (n9 : Nat) (fo : Nat → Option Nat) (i9 a9 : Nat) (h1 : i9 < n9) (h2 : n9 < 2147483648) (h3 : fo i9 = some a9) : RoR l9 yJx4a65c_elementData_915e3 wsJx4a65c_elementData_915e3 { frames := 0, cells := 0, slots := 0, locals := 0 } [.ref la, .int (nI i9)] (roB (dC, dI) [lwO la mc ed t9, lwA ed cO n9 fo] [(cO, .object "java/lang/Object")]) a9 := by
  refine Ro_start (cc := cJx4a65c_elementData_915e3) (maxL := 2) (ret := (some (.object "java/lang/Object"))) (lv := [(0, .ref la), (1, .int (nI i9))]) (by decide) rfl (Nat.le_of_ble_eq_true rfl) rfl ?_
  intro pp ee ss mm aa bl me co hx hb hr hml hts hown hlocks hnm hB ls hl
  obtain ⟨hP, hK⟩ := hB
  have hin : ∀ w9 ∈ wsJx4a65c0, w9 ∈ wsJx4a65c_elementData_915e3 := fun w9 h9 => List.mem_cons_of_mem _ (List.mem_append_right _ h9)
  have hf := hts (.fieldLink RJx4a65c 9 "java/util/ArrayList" "elementData" "[Ljava/lang/Object;") (by decide +kernel)
  refine lv_aload_n hx hb dJx4a65c_elementData_915e3_0 rfl (lv_at hl 0 rfl) ?_
  refine va_get (D := (dC, dI)) (ci := 0) (v := .ref ed) (C := RJx4a65c) (T := TJx4a65c) (N := 3) hx hb hts hin hown hK hP 0 rfl rfl 1 (by decide) hf (fun _ h9 => h9) rfl dJx4a65c_elementData_915e3_1 ?_
  refine lv_iload_n hx hb dJx4a65c_elementData_915e3_4 rfl (lv_at hl 1 rfl) ?_
  refine va_aldq hx hb hK hP 1 0 rfl rfl (vp_in_nI h1 (by omega)) dJx4a65c_elementData_915e3_5 ?_
  rw [nI_clamp (by omega), h3]
  exact f_rr hx hb hr hlocks dJx4a65c_elementData_915e3_6
set_option maxRecDepth 100000 in
theorem c_get (l9 : Launch) (dC : Nat → ClassId) (dI : Nat → Nat → Nat) (la : Nat) (mc : Int32) (ed t9 : Nat) (cO : ClassId) (n9 : Nat) (fo : Nat → Option Nat) (i9 a9 : Nat) (h0 : i9 < t9) (h1 : t9 ≤ n9) (h2 : n9 < 2147483648) (h3 : fo i9 = some a9) : RoR l9 yJx4a65c_get_915e3 wsJx4a65c_get_915e3 { frames := 2, cells := 0, slots := 0, locals := 43 } [.ref la, .int (nI i9)] (roB (dC, dI) [lwO la mc ed t9, lwA ed cO n9 fo] [(cO, .object "java/lang/Object")]) a9 := by
  refine Ro_start (cc := cJx4a65c_get_915e3) (maxL := 2) (ret := (some (.object "java/lang/Object"))) (lv := [(0, .ref la), (1, .int (nI i9))]) (by decide) rfl (Nat.le_of_ble_eq_true rfl) rfl ?_
  intro pp ee ss mm aa bl me co hx hb hr hml hts hown hlocks hnm hB ls hl
  obtain ⟨hP, hK⟩ := hB
  have hin : ∀ w9 ∈ wsJx4a65c0, w9 ∈ wsJx4a65c_get_915e3 := fun w9 h9 => List.mem_cons_of_mem _ (List.mem_append_right _ h9)
  have hf := hts (.fieldLink RJx4a65c 48 "java/util/ArrayList" "size" "I") (by decide +kernel)
  refine lv_iload_n hx hb dJx4a65c_get_915e3_0 rfl (lv_at hl 1 rfl) ?_
  refine lv_aload_n hx hb dJx4a65c_get_915e3_1 rfl (lv_at hl 0 rfl) ?_
  refine va_get (D := (dC, dI)) (ci := 0) (v := .int (nI t9)) (C := RJx4a65c) (T := TJx4a65c) (N := 3) hx hb hts hin hown hK hP 0 rfl rfl 2 (by decide) hf (fun _ h9 => h9) rfl dJx4a65c_get_915e3_2 ?_
  refine f_cSi (As := [.int (nI i9), .int (nI t9)]) (rest := []) ⟨hx, hb, hml, hown, hts⟩ (c_J15_check l9 i9 t9 h0 (by omega)) (va_cwS 2 hts gJx4a65c_get_915e3_J15_checkIndex_7cf53 rfl rfl rfl (by decide +kernel) ⟨Nat.le_of_ble_eq_true rfl, Nat.le_of_ble_eq_true rfl⟩) noB_bl noB_at rfl hl.1 rfl (Nat.le_of_ble_eq_true rfl) dJx4a65c_get_915e3_5 ⟨Nat.zero_le _, Nat.zero_le _⟩ ?_
  refine lv_pop hx hb dJx4a65c_get_915e3_8 rfl ?_
  refine lv_aload_n hx hb dJx4a65c_get_915e3_9 rfl (lv_at hl 0 rfl) ?_
  refine lv_iload_n hx hb dJx4a65c_get_915e3_10 rfl (lv_at hl 1 rfl) ?_
  refine f_cVr (As := [.int (nI i9)]) (rest := []) ⟨hx, hb, hml, hown, hts⟩ (c_elem l9 dC dI la mc ed t9 cO n9 fo i9 a9 (by omega) h2 h3) (cwV 1 hts gJx4a65c_get_915e3_Jx4a65c_elementData_915e3 rfl rfl rfl (by decide +kernel) ⟨Nat.le_of_ble_eq_true rfl, Nat.le_of_ble_eq_true rfl⟩) roB_bl (va_recv hK hP (ci := 0) (q0 := 0) rfl rfl) (roB_at hP hK) rfl hl.1 rfl (Nat.le_of_ble_eq_true rfl) dJx4a65c_get_915e3_11 ⟨Nat.zero_le _, Nat.zero_le _⟩ ?_
  exact f_rr hx hb hr hlocks dJx4a65c_get_915e3_14
