/-! Arrays.copyOf, as the list uses it -/
def jdB (mi : Nat) : State → Prop := fun U => va_Mi "[Ljava/lang/Object;" mi U ∧ va_AO "java/lang/Object" U ∧ va_Dc U
theorem jdB_moved {mi : Nat} {u9 U9 : State} (hvm : u9.vm.Alike U9.vm) (h9 : jdB mi u9) : jdB mi U9 := ⟨h9.1.moved hvm, h9.2.1.moved hvm, h9.2.2.moved hvm⟩
theorem any_moved {E9 : String} {u9 U9 : State} {H9 : Heap} {a9 : Nat} (hvm : u9.vm.Alike U9.vm) (h9 : va_Any E9 u9 H9 a9) : va_Any E9 U9 H9 a9 := by
  obtain ⟨cell, h1, h2, ⟨k9, hk⟩, h3⟩ := h9
  obtain ⟨k8, hk8, -⟩ := hvm.2.2 _ _ hk
  exact ⟨cell, h1, h2, ⟨k8, hk8⟩, fun comp hc => by
    rw [hvm.assignable]
    rw [hvm.findClass] at hc
    exact h3 comp hc⟩
theorem any_kept {E9 : String} {s9 : State} {A : Nat → Prop} {H0 H9 : Heap} {locs : List Loc} {a9 : Nat} (hS : va_S A H0 H9 locs) (h9 : va_Any E9 s9 H0 a9) (hn : ¬ A a9) : va_Any E9 s9 H9 a9 := by
  obtain ⟨cell, h1, h2⟩ := h9
  exact ⟨cell, by rw [hS.2.1 a9 (Array.getElem?_eq_some_iff.mp h1).1 hn]; exact h1, h2⟩
/-- what the rows of the list point to: cells that may lie in a row of objects, outside of what is changed -/
def anB (A : Nat → Prop) (f9 : Nat → Option Nat) : State → Prop := fun U => ∀ i9 y9 : Nat, f9 i9 = some y9 → va_Any "java/lang/Object" U U.heap y9 ∧ ¬ A y9
theorem anB_at {A A1 : Nat → Prop} {f9 : Nat → Option Nat} {s9 : State} {H9 : Heap} {locs : List Loc} (h9 : anB A f9 s9) (hS : va_S A s9.heap H9 locs) (hA : ∀ q9, q9 < H9.size → A1 q9 → A q9) : ∀ U : State, U.heap = H9 → s9.WarmedH U.vm → anB A1 f9 U := fun U hU hW i9 y9 hy => by
  obtain ⟨h1, h2⟩ := h9 i9 y9 hy
  have h3 := any_kept hS h1 h2
  refine ⟨by rw [hU]; exact any_moved hW.alike h3, fun h4 => h2 (hA y9 ?_ h4)⟩
  obtain ⟨cell, h5, -⟩ := h3
  exact (Array.getElem?_eq_some_iff.mp h5).1
theorem nI_nn {n9 : Nat} (h9 : n9 < 2147483647) : ¬ nI n9 < 0 := fun h8 => (vp_in_nI (show n9 < n9 + 1 by omega) (show n9 + 1 < 2147483648 by omega)) (Or.inl h8)
theorem cpy_all {n9 : Nat} {fo : Nat → Option Nat} (hn : n9 < 2147483647) (h3 : ∀ i9, n9 ≤ i9 → fo i9 = none) : va_cpy fo (fun _ => none) (0 : Int32).toNatClampNeg (0 : Int32).toNatClampNeg (nI n9).toNatClampNeg = fo := by
  funext k9
  rw [nI_clamp (by omega), show (0 : Int32).toNatClampNeg = 0 from rfl]
  unfold va_cpy
  by_cases h9 : k9 < n9
  · rw [if_pos (by omega)]
    congr 1
    omega
  · rw [if_neg (by omega), h3 k9 (by omega)]
abbrev tO (cO : ClassId) : ClassId × FieldType := (cO, .object "java/lang/Object")
set_option maxHeartbeats 4000000 in
set_option maxRecDepth 100000 in
theorem c_copy3 (l9 : Launch) (dC : Nat → ClassId) (dI : Nat → Nat → Nat) (ed : Nat) (cO : ClassId) (n9 m9 : Nat) (fo : Nat → Option Nat) (mi sz : Nat) (h1 : n9 ≤ m9) (h2 : m9 ≤ 1000) (h3 : ∀ i9, n9 ≤ i9 → fo i9 = none) : Met l9 yJ7_copyOf_6403c wsJ7_copyOf_6403c { frames := 1, cells := 1, slots := 1000, locals := 40 } (va_Pc [.ref ed, .int (nI m9), .ref mi] (fun U => muB (dC, dI) [lwA ed cO n9 fo] [tO cO] sz U ∧ jdB mi U ∧ anB (va_A [lwA ed cO n9 fo] sz) fo U)) (va_Qr (fun (_ : ClassId) => True) (fun cA a9 t9 => muQ (dC, dI) [lwA ed cO n9 fo, lwA a9 cA m9 fo] [tO cO, tO cA] (va_A [lwA ed cO n9 fo] sz) t9) (va_A [lwA ed cO n9 fo] sz)) 1 1000 (va_A [lwA ed cO n9 fo] sz) := by
  refine Ro_start (cc := cJ7_copyOf_6403c) (maxL := 4) (ret := (some (.array (.object "java/lang/Object")))) (lv := [(0, .ref ed), (1, .int (nI m9)), (2, .ref mi)]) (by decide) rfl (Nat.le_of_ble_eq_true rfl) rfl ?_
  intro pp ee ss mm aa bl me co hx hb hr hml hts hown hlocks hnm hB ls hl
  obtain ⟨⟨hsz, hP, hK, hD0⟩, ⟨hMi, hAO, hDc⟩, hAn⟩ := hB
  subst hsz
  have hD := hD0.self (sz := ss.heap.size)
  generalize hAe : va_A [lwA ed cO n9 fo] ss.heap.size = A at hD hAn ⊢
  have hA : ∀ q9 : Nat, ss.heap.size ≤ q9 → A q9 := fun q9 h9 => by rw [← hAe]; exact Or.inr h9
  have hS : va_S A ss.heap ss.heap [] := va_S.rf
  refine lv_aload_n hx hb dJ7_copyOf_6403c_0 rfl (lv_at hl 2 rfl) ?_
  refine va_ldcM hx hb hown (hts (.classLink RJ7 110 "[Ljava/lang/Object;") (by decide +kernel)) hMi dJ7_copyOf_6403c_1 ?_
  refine lv_acmp_ne (rx := some mi) (ry := some mi) (tgt := 13) hx hb dJ7_copyOf_6403c_3 (by decide) (fun h9 => absurd rfl h9) (fun _ => ?_)
  refine lv_iload_n hx hb dJ7_copyOf_6403c_6 rfl (lv_at hl 1 rfl) ?_
  refine va_newq (N' := m9) hx hb hown (hts (.classLink RJ7 2 "java/lang/Object") (by decide +kernel)) hAO hK hP hD hS hA (nI_nn (by omega)) (nI_clamp (by omega)) (by omega) (Nat.le_of_ble_eq_true rfl) (by show 0 + m9 ≤ 1000; omega) dJ7_copyOf_6403c_7 (fun q9 cA H hK hP hD hS => ?_)
  refine lv_goto (tgt := 24) hx hb dJ7_copyOf_6403c_10 (by decide) ?_
  refine lv_astore_n (lv' := [(3, .ref q9), (0, .ref ed), (1, .int (nI m9)), (2, .ref mi)]) hx hb dJ7_copyOf_6403c_24 rfl hl (by decide) rfl (fun ls hl => ?_)
  refine lv_aload_n hx hb dJ7_copyOf_6403c_25 rfl (lv_at hl 1 rfl) ?_
  refine lv_iconst (v := 0) hx hb dJ7_copyOf_6403c_26 (by decide) ?_
  refine lv_aload_n hx hb dJ7_copyOf_6403c_27 rfl (lv_at hl 0 rfl) ?_
  refine lv_iconst (v := 0) hx hb dJ7_copyOf_6403c_28 (by decide) ?_
  refine lv_aload_n hx hb dJ7_copyOf_6403c_29 rfl (lv_at hl 1 rfl) ?_
  refine va_alen (v := nI n9) hx hb hK hP 0 0 rfl rfl rfl dJ7_copyOf_6403c_30 ?_
  refine lv_iload_n hx hb dJ7_copyOf_6403c_31 rfl (lv_at hl 2 rfl) ?_
  refine va_mmin hx hb (by rw [hml]; exact hl.1.symm) hown (hts (.methodLink RJ7 304 Lib.Math.min.name) (by decide +kernel)) (hts (.static Lib.Math.min.name) (by decide +kernel)) (hts (.initialized "java/lang/Math") (by decide +kernel)) (hts _ (List.mem_of_getElem? (i := 6) rfl)) (Nat.le_of_ble_eq_true rfl) (Nat.le_of_ble_eq_true rfl) (Nat.le_of_ble_eq_true rfl) (by show 0 + m9 ≤ 1000; omega) dJ7_copyOf_6403c_32 ?_
  refine f_ti (y := nI n9) (by rw [mn_nI (by omega) (by omega), Nat.min_eq_left h1]) ?_
  refine va_copyM hx hb (by rw [hml]; exact hl.1.symm) hown (hts (.methodLink RJ7 150 arraycopyName) (by decide +kernel)) (hts (.native arraycopyName) (by decide +kernel)) (hts (.static arraycopyName) (by decide +kernel)) (hts (.initialized "java/lang/System") (by decide +kernel)) hK hP hD hS 0 1 0 1 rfl rfl rfl rfl (by decide) (by decide) (nI_nn (by omega)) (by rw [nI_clamp (by omega), show (0 : Int32).toNatClampNeg = 0 from rfl]; omega) (by rw [nI_clamp (by omega), show (0 : Int32).toNatClampNeg = 0 from rfl]; omega) (fun i9 _ y9 hy => any_kept hS (hAn _ y9 hy).1 (hAn _ y9 hy).2) (Nat.le_of_ble_eq_true rfl) (by decide +kernel) dJ7_copyOf_6403c_35 (fun H locs hP hD hS => ?_)
  rw [cpy_all (by omega) h3] at hP hD
  refine lv_aload_n hx hb dJ7_copyOf_6403c_38 rfl (lv_at hl 0 rfl) ?_
  refine W.widen (k := 1) (n := 1000) (Nat.le_of_ble_eq_true rfl) (by show 0 + m9 ≤ 1000; omega) ?_
  exact W.aret hx hb hr (Or.inr ⟨_, rfl⟩) (Or.inr ⟨q9, rfl⟩) (fun t9 ht hW => ⟨⟨cA, q9, rfl, trivial, by rw [ht]; exact hP, va_K.moved hW.alike hK, hD⟩, hS.F ht⟩) hS.2.2 dJ7_copyOf_6403c_39 hlocks
set_option maxHeartbeats 4000000 in
set_option maxRecDepth 100000 in
theorem c_copy2 (l9 : Launch) (dC : Nat → ClassId) (dI : Nat → Nat → Nat) (ed : Nat) (cO : ClassId) (n9 m9 : Nat) (fo : Nat → Option Nat) (mi sz : Nat) (h1 : n9 ≤ m9) (h2 : m9 ≤ 1000) (h3 : ∀ i9, n9 ≤ i9 → fo i9 = none) : Met l9 yJ7_copyOf_1904c wsJ7_copyOf_1904c { frames := 2, cells := 1, slots := 1000, locals := 63 } (va_Pc [.ref ed, .int (nI m9)] (fun U => muB (dC, dI) [lwA ed cO n9 fo] [tO cO] sz U ∧ jdB mi U ∧ anB (va_A [lwA ed cO n9 fo] sz) fo U)) (va_Qr (fun (_ : ClassId) => True) (fun cA a9 t9 => muQ (dC, dI) [lwA ed cO n9 fo, lwA a9 cA m9 fo] [tO cO, tO cA] (va_A [lwA ed cO n9 fo] sz) t9) (va_A [lwA ed cO n9 fo] sz)) 1 1000 (va_A [lwA ed cO n9 fo] sz) := by
  refine Ro_start (cc := cJ7_copyOf_1904c) (maxL := 2) (ret := (some (.array (.object "java/lang/Object")))) (lv := [(0, .ref ed), (1, .int (nI m9))]) (by decide) rfl (Nat.le_of_ble_eq_true rfl) rfl ?_
  intro pp ee ss mm aa bl me co hx hb hr hml hts hown hlocks hnm hB ls hl
  obtain ⟨⟨hsz, hP, hK, hD0⟩, hJ, hAn⟩ := hB
  subst hsz
  have hD := hD0.self (sz := ss.heap.size)
  have hS : va_S (va_A [lwA ed cO n9 fo] ss.heap.size) ss.heap ss.heap [] := va_S.rf
  refine lv_aload_n hx hb dJ7_copyOf_1904c_0 rfl (lv_at hl 0 rfl) ?_
  refine lv_iload_n hx hb dJ7_copyOf_1904c_1 rfl (lv_at hl 1 rfl) ?_
  refine lv_aload_n hx hb dJ7_copyOf_1904c_2 rfl (lv_at hl 0 rfl) ?_
  refine va_getC (C := "[Ljava/lang/Object;") hx hb (by rw [hml]; exact hl.1.symm) hown (hts (.methodLink RJ7 86 ⟨"java/lang/Object", "getClass", "()Ljava/lang/Class;"⟩) (by decide +kernel)) (va_Dc.use hJ.2.2) (hts (.selects "[Ljava/lang/Object;" ⟨"java/lang/Object", "getClass", "()Ljava/lang/Class;"⟩ ⟨"java/lang/Object", "getClass", "()Ljava/lang/Class;"⟩) (by decide +kernel)) (hts (.instanceMethod ⟨"java/lang/Object", "getClass", "()Ljava/lang/Class;"⟩) (by decide +kernel)) (hts (.native ⟨"java/lang/Object", "getClass", "()Ljava/lang/Class;"⟩) (by decide +kernel)) hJ.1 ⟨_, hP 0 _ rfl, rfl, va_nmO (hK.2 0 _ rfl).2 (by decide +kernel)⟩ (Nat.le_of_ble_eq_true rfl) (Nat.le_of_ble_eq_true rfl) dJ7_copyOf_1904c_3 ?_
  refine va_callr (va_runS (As := [.ref ed, .int (nI m9), .ref mi]) (rest := []) ⟨hx, hb, hml, hown, hts⟩ (c_copy3 l9 dC dI ed cO n9 m9 fo mi ss.heap.size h1 h2 h3) (va_cwS 3 hts gJ7_copyOf_1904c_J7_copyOf_6403c rfl rfl rfl (by decide +kernel) ⟨Nat.le_of_ble_eq_true rfl, Nat.le_of_ble_eq_true rfl⟩) ⟨fun a9 U9 g9 mk q9 => ⟨q9.1, muB_bl U9 g9 mk a9 q9.2.1, jdB_moved (u9 := U9) (U9 := U9.calling g9 mk a9) (Vm.Alike.refl U9.vm) q9.2.2.1, q9.2.2.2⟩, fun U9 hU hW => ⟨rfl, muB_at hP hK hD U9 hU hW, jdB_moved hW.alike hJ, anB_at hAn hS (fun _ _ h9 => h9) U9 hU hW⟩⟩ rfl rfl hl.1 rfl (lv_room (Nat.le_of_ble_eq_true rfl)) dJ7_copyOf_1904c_6 ⟨Nat.le_of_ble_eq_true rfl, Nat.le_of_ble_eq_true rfl⟩) hS (fun _ _ h9 => h9) (fun _ h9 => h9) (fun cA q9 t9 H1 locs ht hvm hw hB hz1 hk1 hS => ?_)
  obtain ⟨hP1, hK1, hD1⟩ := hB
  rw [ht] at hP1
  have hK2 : va_K (dC, dI) vwCl [tO cO, tO cA] ss := va_K.moved (Vm.Alike.symm hvm) hK1
  exact W.aret hx hb hr (Or.inr ⟨_, rfl⟩) (Or.inr ⟨q9, rfl⟩) (fun t9 ht hW => ⟨⟨cA, q9, rfl, trivial, by rw [ht]; exact hP1, va_K.moved hW.alike hK2, hD1⟩, hS.F ht⟩) hS.2.2 dJ7_copyOf_1904c_9 hlocks
