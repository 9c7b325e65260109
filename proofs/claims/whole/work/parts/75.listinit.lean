/-! the list's constructor -/
section FI9
variable {p : Program} {l : Launch} {e : Env} {R : Room} {s : State} {m : MethodId} {args : Array Value} {below : List Frame} {meth : Method} {c : Code} {H : Heap} {locs : List Loc} {cells slots : Nat} {Q : State → Prop} {cc : ByteArray} {pc : Nat} {ls : Array Slot} {rest : List Value} {D : va_G} {w w1 z : va_W} {tys : List (ClassId × FieldType)} {A : Nat → Prop}
theorem f_mcI {nL index n maxL : Nat} {own : String} {y : MethodName} {bytes : ByteArray} {ws Ts : List Cond} {rm : Room} {b : Nat} {As st0 : List Value} (S : CallFix p m c cc nL s args Ts own) (hM : MuV l y ws rm (.ref b :: As) D w w1 tys H.size) (cw : CallB R s args own index y bytes maxL none ws rm 0 0 n ∧ y.name = "<init>" ∧ (Cond.instanceMethod y).before args s = true) (hP : va_P D vwCl (w ++ z) H) (hK : va_K D vwCl tys s) (hD : va_D A (w ++ z)) (hS : va_S A s.heap H locs) (hA : ∀ q, s.heap.size ≤ q → A q) (hn : As.length = n) (hsize : ls.size = nL) (hst : st0 = As.reverse ++ .ref b :: rest) (hroom : (rest.map fun v => v.category).sum ≤ 8) (hdg : decode cc pc = .ok (.invokespecial index, 3)) (hf : cells ≤ R.cells ∧ slots ≤ R.slots)
    (kk : ∀ (H1 : Heap) (locs1 : List Loc), va_P D vwCl (w1 ++ z) H1 → va_D A (w1 ++ z) → va_S A s.heap H1 locs1 → W p l e R s m args below meth c H1 locs1 cells slots Q (F0 m (pc + 3) ls rest)) : W p l e R s m args below meth c H locs cells slots Q (F0 m pc ls st0) := by
  have hF := mu_free hD hS hA
  refine va_callv (va_runI (As := As) (rest := rest) S hM cw ⟨fun a U g mk q => ⟨q.1, muB_bl U g mk a q.2⟩, fun U hU hW => ⟨rfl, muB_at (pl_left hP) hK (dl_left hD) U hU hW⟩⟩ rfl hn hsize hst (lv_room hroom) hdg hf) hS (fun q _ h => hF q h) hF (fun u t H1 locs ht hvm hw hB hz1 hk1 hS => ?_)
  obtain ⟨hP1, hK1, hD1⟩ := hB
  rw [ht] at hP1
  obtain ⟨hP2, hD2⟩ := mu_join hP hD hk1 hF hP1 hD1
  exact kk H1 locs hP2 hD2 hS
end FI9
set_option maxHeartbeats 4000000 in
set_option maxRecDepth 100000 in
theorem c_List_init (l9 : Launch) (dC : Nat → ClassId) (dI : Nat → Nat → Nat) (h0 sz t0 : Nat) (mc t9 : Int32) : Met l9 yJx4a65c_init_da8c8 wsJx4a65c_init_da8c8 { frames := 3, cells := 0, slots := 0, locals := 52 } (va_Pc [.ref h0] (fun U => muB (dC, dI) [(h0, .inr (0, [.int mc, .null, .int t9]))] [] sz U ∧ va_Z "java/util/ArrayList" "DEFAULTCAPACITY_EMPTY_ELEMENTDATA" "[Ljava/lang/Object;" (.ref t0) (va_A [(h0, .inr (0, [.int mc, .null, .int t9]))] sz) U U.heap)) (va_Qv (fun (_ : Unit) => True) (fun _ t => muQ (dC, dI) [(h0, .inr (0, [.int 0, .ref t0, .int t9]))] [] (va_A [(h0, .inr (0, [.int mc, .null, .int t9]))] sz) t) (va_A [(h0, .inr (0, [.int mc, .null, .int t9]))] sz)) 0 0 (va_A [(h0, .inr (0, [.int mc, .null, .int t9]))] sz) := by
  refine Ro_start (cc := cJx4a65c_init_da8c8) (maxL := 1) (ret := none) (lv := [(0, .ref h0)]) (by decide) rfl (Nat.le_of_ble_eq_true rfl) rfl ?_
  intro pp ee ss mm aa bl me co hx hb hr hml hts hown hlocks hnm hB ls hl
  obtain ⟨⟨hsz, hP, hK, hD0⟩, hZ1⟩ := hB
  subst hsz
  have hD := hD0.self (sz := ss.heap.size)
  generalize hAe : va_A [(h0, .inr (0, [.int mc, .null, .int t9]))] ss.heap.size = A at hD hZ1 ⊢
  have hA : ∀ q9 : Nat, ss.heap.size ≤ q9 → A q9 := fun q9 h9 => by rw [← hAe]; exact Or.inr h9
  have hS : va_S A ss.heap ss.heap [] := va_S.rf
  have hin : ∀ w9 ∈ wsJx4a65c0, w9 ∈ wsJx4a65c_init_da8c8 := fun w9 h9 => List.mem_cons_of_mem _ (List.mem_append_right _ h9)
  refine lv_aload_n hx hb dJx4a65c_init_da8c8_0 rfl (lv_at hl 0 rfl) ?_
  refine f_mcI (z := []) (As := []) (rest := []) ⟨hx, hb, hml, hown, hts⟩ (c_AL_init l9 dC dI h0 ss.heap.size mc .null t9) (cwI 0 hts gJx4a65c_init_da8c8_Jxc12de_init_da8c8 rfl rfl rfl (hts (.initialized RJxc12de) (by decide +kernel)) (hts (.methodLink RJx4a65c 1 yJxc12de_init_da8c8) (by decide +kernel)) (hts (.instanceMethod yJxc12de_init_da8c8) (by decide +kernel)) rfl (by decide +kernel) ⟨Nat.le_of_ble_eq_true rfl, Nat.le_of_ble_eq_true rfl⟩) hP hK hD hS hA rfl hl.1 rfl (Nat.le_of_ble_eq_true rfl) dJx4a65c_init_da8c8_1 ⟨Nat.zero_le _, Nat.zero_le _⟩ (fun H locs hP hD hS => ?_)
  have hP : va_P (dC, dI) vwCl [(h0, .inr (0, [.int 0, .null, .int t9]))] H := hP
  have hD : va_D A [(h0, .inr (0, [.int 0, .null, .int t9]))] := hD
  refine lv_aload_n hx hb dJx4a65c_init_da8c8_4 rfl (lv_at hl 0 rfl) ?_
  refine va_gets (v := .ref t0) hx hb hZ1 hS hown (hts (.fieldLink RJx4a65c 39 "java/util/ArrayList" "DEFAULTCAPACITY_EMPTY_ELEMENTDATA" "[Ljava/lang/Object;") (by decide +kernel)) (fun _ h9 => h9) dJx4a65c_init_da8c8_5 ?_
  refine va_put (D := (dC, dI)) (ci := 0) (v := .ref t0) (ty := .array (.object "java/lang/Object")) (C := RJx4a65c) (T := TJx4a65c) (N := 3) hx hb hts hin tyJx4a65c tyJx4a65c_ok nmJx4a65c hown hK hP hD hS 0 rfl rfl 1 (by decide) (hts (.fieldLink RJx4a65c 9 "java/util/ArrayList" "elementData" "[Ljava/lang/Object;") (by decide +kernel)) (fun _ h9 => h9) rfl (by decide +kernel) rfl rfl (Nat.le_of_ble_eq_true rfl) dJx4a65c_init_da8c8_8 (fun H locs hP hD hS => ?_)
  exact f_mv hx hb hr hlocks hP hK hD hS dJx4a65c_init_da8c8_11
