/-! ArrayList.grow -/
def stD (t0 : Nat) (A : Nat → Prop) : State → Prop := fun U => va_Z "java/util/ArrayList" "DEFAULTCAPACITY_EMPTY_ELEMENTDATA" "[Ljava/lang/Object;" (.ref t0) A U U.heap ∧ va_T (.object "java/lang/Object") t0 0 (fun _ => .null) A U U.heap
theorem stD_bl {t0 : Nat} {A : Nat → Prop} (U : State) (g : JFrame) (mk : MethodId) (a : Array Value) (h : stD t0 A U) : stD t0 A (U.calling g mk a) := ⟨va_Z.moved (u := U) (U := U.calling g mk a) (Vm.Alike.refl U.vm) h.1, va_T.moved (u := U) (U := U.calling g mk a) (Vm.Alike.refl U.vm) h.2⟩
theorem stD_at {t0 : Nat} {A A1 : Nat → Prop} {s9 : State} {H9 : Heap} {locs : List Loc} (h9 : stD t0 A s9) (hS : va_S A s9.heap H9 locs) (hA : ∀ q9, A1 q9 → A q9) : ∀ U : State, U.heap = H9 → s9.WarmedH U.vm → stD t0 A1 U := fun U hU hW => by
  unfold stD
  rw [hU]
  exact ⟨((h9.1.kept hS.2.1).narrow hA).moved hW.alike, ((h9.2.kept hS.2.1).narrow hA).moved hW.alike⟩
theorem sub_one9 (n9 : Nat) (h1 : n9 ≤ 600) : nI (n9 + 1) - nI n9 = nI 1 := Int32.toInt_inj.mp (by rw [pk_sub_toInt (by omega) (by omega), nI_toInt (by omega)]; omega)
def lsB (mi t0 : Nat) (A : Nat → Prop) (fo : Nat → Option Nat) : State → Prop := fun U => jdB mi U ∧ stD t0 A U ∧ anB A fo U
theorem lsB_bl {mi t0 : Nat} {A : Nat → Prop} {fo : Nat → Option Nat} (U : State) (g : JFrame) (mk : MethodId) (a : Array Value) (h : lsB mi t0 A fo U) : lsB mi t0 A fo (U.calling g mk a) := ⟨jdB_moved (u9 := U) (U9 := U.calling g mk a) (Vm.Alike.refl U.vm) h.1, stD_bl U g mk a h.2.1, h.2.2⟩
theorem lsB_at {mi t0 : Nat} {A A1 : Nat → Prop} {fo : Nat → Option Nat} {s9 : State} {H9 : Heap} {locs : List Loc} (h9 : lsB mi t0 A fo s9) (hS : va_S A s9.heap H9 locs) (hA : ∀ q9, A1 q9 → A q9) : ∀ U : State, U.heap = H9 → s9.WarmedH U.vm → lsB mi t0 A1 fo U := fun U hU hW => ⟨jdB_moved hW.alike h9.1, stD_at h9.2.1 hS hA U hU hW, anB_at h9.2.2 hS (fun q9 _ h8 => hA q9 h8) U hU hW⟩
/-- the list's array: none of its own yet, or one -/
def lsZ (t0 ed t9 : Nat) (fo : Nat → Option Nat) (cO : ClassId) (n9 : Nat) (Z : va_W) (tz : List (ClassId × FieldType)) : Prop := (t9 = 0 ∧ ed = t0 ∧ Z = [] ∧ tz = [] ∧ fo = fun _ => none) ∨ (0 < n9 ∧ t9 ≤ n9 ∧ n9 ≤ 1000 ∧ Z = [lwA ed cO n9 fo] ∧ tz = [tO cO] ∧ ∀ i9, t9 ≤ i9 → fo i9 = none)
abbrev LsR (l : Launch) (y : MethodName) (ws : List Cond) (rm : Room) (As : List Value) (D : va_G) (la : Nat) (mc : Int32) (ed t9 : Nat) (fo : Nat → Option Nat) (Z : va_W) (tz : List (ClassId × FieldType)) (mi t0 sz : Nat) : Prop := Met l y ws rm (va_Pc As (fun U => muB D (lwO la mc ed t9 :: Z) tz sz U ∧ lsB mi t0 (va_A (lwO la mc ed t9 :: Z) sz) fo U)) (va_Qr (fun (u : ClassId × Nat) => t9 < u.2 ∧ u.2 ≤ 1000) (fun u a9 t => muQ D [lwO la mc a9 t9, lwA a9 u.1 u.2 fo] [tO u.1] (va_A (lwO la mc ed t9 :: Z) sz) t) (va_A (lwO la mc ed t9 :: Z) sz)) 1 1000 (va_A (lwO la mc ed t9 :: Z) sz)
set_option maxHeartbeats 4000000 in
set_option maxRecDepth 100000 in
theorem c_growA (l9 : Launch) (dC : Nat → ClassId) (dI : Nat → Nat → Nat) (la : Nat) (mc : Int32) (mi t0 sz : Nat) : LsR l9 yJx4a65c_grow_92f84 wsJx4a65c_grow_92f84 { frames := 3, cells := 1, slots := 1000, locals := 84 } [.ref la, .int (nI 1)] (dC, dI) la mc t0 0 (fun _ => none) [] [] mi t0 sz := by
  refine Ro_start (cc := cJx4a65c_grow_92f84) (maxL := 4) (ret := (some (.array (.object "java/lang/Object")))) (lv := [(0, .ref la), (1, .int (nI 1))]) (by decide) rfl (Nat.le_of_ble_eq_true rfl) rfl ?_
  intro pp ee ss mm aa bl me co hx hb hr hml hts hown hlocks hnm hB ls hl
  obtain ⟨⟨hsz, hP, hK, hD0⟩, hL⟩ := hB
  subst hsz
  have hD := hD0.self (sz := ss.heap.size)
  generalize hAe : va_A [lwO la mc t0 0] ss.heap.size = A at hD hL ⊢
  have hA : ∀ q9 : Nat, ss.heap.size ≤ q9 → A q9 := fun q9 h9 => by rw [← hAe]; exact Or.inr h9
  have hS : va_S A ss.heap ss.heap [] := va_S.rf
  have hin : ∀ w9 ∈ wsJx4a65c0, w9 ∈ wsJx4a65c_grow_92f84 := fun w9 h9 => List.mem_cons_of_mem _ (List.mem_append_right _ h9)
  refine lv_aload_n hx hb dJx4a65c_grow_92f84_0 rfl (lv_at hl 0 rfl) ?_
  refine va_get (D := (dC, dI)) (ci := 0) (v := .ref t0) (C := RJx4a65c) (T := TJx4a65c) (N := 3) hx hb hts hin hown hK hP 0 rfl rfl 1 (by decide) (hts (.fieldLink RJx4a65c 9 "java/util/ArrayList" "elementData" "[Ljava/lang/Object;") (by decide +kernel)) (fun _ h9 => h9) rfl dJx4a65c_grow_92f84_1 ?_
  refine va_tlen (v := nI 0) hx hb hL.2.1.2 hS rfl dJx4a65c_grow_92f84_4 ?_
  refine lv_istore_n (lv' := [(2, .int (nI 0)), (0, .ref la), (1, .int (nI 1))]) hx hb dJx4a65c_grow_92f84_5 rfl hl (by decide) rfl (fun ls hl => ?_)
  refine lv_iload_n hx hb dJx4a65c_grow_92f84_6 rfl (lv_at hl 0 rfl) ?_
  refine f_0gt (tgt := 20) hx hb (nI_toInt (by omega)) dJx4a65c_grow_92f84_7 (by decide) (fun c_1 => ?_) (fun c_1 => ?_)
  · exfalso; omega
  refine lv_aload_n hx hb dJx4a65c_grow_92f84_10 rfl (lv_at hl 1 rfl) ?_
  refine va_get (D := (dC, dI)) (ci := 0) (v := .ref t0) (C := RJx4a65c) (T := TJx4a65c) (N := 3) hx hb hts hin hown hK hP 0 rfl rfl 1 (by decide) (hts (.fieldLink RJx4a65c 9 "java/util/ArrayList" "elementData" "[Ljava/lang/Object;") (by decide +kernel)) (fun _ h9 => h9) rfl dJx4a65c_grow_92f84_11 ?_
  refine va_gets (v := .ref t0) hx hb hL.2.1.1 hS hown (hts (.fieldLink RJx4a65c 39 "java/util/ArrayList" "DEFAULTCAPACITY_EMPTY_ELEMENTDATA" "[Ljava/lang/Object;") (by decide +kernel)) (fun _ h9 => h9) dJx4a65c_grow_92f84_14 ?_
  refine lv_acmp_eq (rx := some t0) (ry := some t0) (tgt := 45) hx hb dJx4a65c_grow_92f84_17 (by decide) (fun _ => ?_) (fun h9 => absurd rfl h9)
  refine lv_aload_n hx hb dJx4a65c_grow_92f84_45 rfl (lv_at hl 1 rfl) ?_
  refine lv_bipush (v := nI 10) hx hb dJx4a65c_grow_92f84_46 (by decide) ?_
  refine lv_iload_n hx hb dJx4a65c_grow_92f84_48 rfl (lv_at hl 2 rfl) ?_
  refine va_mmax hx hb (by rw [hml]; exact hl.1.symm) hown (hts (.methodLink RJx4a65c 79 Lib.Math.max.name) (by decide +kernel)) (hts (.static Lib.Math.max.name) (by decide +kernel)) (hts (.initialized "java/lang/Math") (by decide +kernel)) (hts _ (List.mem_cons_of_mem _ (List.mem_append_left _ (List.mem_append_left _ (List.mem_of_getElem? (i := 5) rfl))))) (Nat.le_of_ble_eq_true rfl) (Nat.le_of_ble_eq_true rfl) (Nat.zero_le _) (Nat.zero_le _) dJx4a65c_grow_92f84_49 ?_
  refine f_ti (y := nI 10) (by decide) ?_
  refine va_newq (N' := 10) hx hb hown (hts (.classLink RJx4a65c 7 "java/lang/Object") (by decide +kernel)) hL.1.2.1 hK hP hD hS hA (nI_nn (by omega)) (nI_clamp (by omega)) (by omega) (Nat.le_of_ble_eq_true rfl) (Nat.le_of_ble_eq_true rfl) dJx4a65c_grow_92f84_52 (fun q9 cA H hK hP hD hS => ?_)
  refine lv_dup_x1 hx hb dJx4a65c_grow_92f84_55 rfl rfl ?_
  refine va_put (D := (dC, dI)) (ci := 0) (v := .ref q9) (ty := .array (.object "java/lang/Object")) (C := RJx4a65c) (T := TJx4a65c) (N := 3) hx hb hts hin tyJx4a65c tyJx4a65c_ok nmJx4a65c hown hK hP hD hS 0 rfl rfl 1 (by decide) (hts (.fieldLink RJx4a65c 9 "java/util/ArrayList" "elementData" "[Ljava/lang/Object;") (by decide +kernel)) (fun _ h9 => h9) rfl (by decide +kernel) rfl rfl (Nat.le_of_ble_eq_true rfl) dJx4a65c_grow_92f84_56 (fun H locs hP hD hS => ?_)
  refine W.widen (k := 1) (n := 1000) (Nat.le_of_ble_eq_true rfl) (Nat.le_of_ble_eq_true rfl) ?_
  exact W.aret hx hb hr (Or.inr ⟨_, rfl⟩) (Or.inr ⟨q9, rfl⟩) (fun t9 ht hW => ⟨⟨(cA, 10), q9, rfl, ⟨Nat.le_of_ble_eq_true rfl, Nat.le_of_ble_eq_true rfl⟩, by rw [ht]; exact hP, va_K.moved hW.alike hK, hD⟩, hS.F ht⟩) hS.2.2 dJx4a65c_grow_92f84_59 hlocks
set_option maxHeartbeats 4000000 in
set_option maxRecDepth 100000 in
theorem c_growB (l9 : Launch) (dC : Nat → ClassId) (dI : Nat → Nat → Nat) (la : Nat) (mc : Int32) (ed : Nat) (cO : ClassId) (n9 : Nat) (fo : Nat → Option Nat) (mi t0 sz : Nat) (h0 : 0 < n9) (h1 : n9 ≤ 600) (h3 : ∀ i9, n9 ≤ i9 → fo i9 = none) : LsR l9 yJx4a65c_grow_92f84 wsJx4a65c_grow_92f84 { frames := 3, cells := 1, slots := 1000, locals := 84 } [.ref la, .int (nI (n9 + 1))] (dC, dI) la mc ed n9 fo [lwA ed cO n9 fo] [tO cO] mi t0 sz := by
  refine Ro_start (cc := cJx4a65c_grow_92f84) (maxL := 4) (ret := (some (.array (.object "java/lang/Object")))) (lv := [(0, .ref la), (1, .int (nI (n9 + 1)))]) (by decide) rfl (Nat.le_of_ble_eq_true rfl) rfl ?_
  intro pp ee ss mm aa bl me co hx hb hr hml hts hown hlocks hnm hB ls hl
  obtain ⟨⟨hsz, hP, hK, hD0⟩, hL⟩ := hB
  subst hsz
  have hD := hD0.self (sz := ss.heap.size)
  generalize hAe : va_A [lwO la mc ed n9, lwA ed cO n9 fo] ss.heap.size = A at hD hL ⊢
  have hA : ∀ q9 : Nat, ss.heap.size ≤ q9 → A q9 := fun q9 h9 => by rw [← hAe]; exact Or.inr h9
  have hS : va_S A ss.heap ss.heap [] := va_S.rf
  have hin : ∀ w9 ∈ wsJx4a65c0, w9 ∈ wsJx4a65c_grow_92f84 := fun w9 h9 => List.mem_cons_of_mem _ (List.mem_append_right _ h9)
  refine lv_aload_n hx hb dJx4a65c_grow_92f84_0 rfl (lv_at hl 0 rfl) ?_
  refine va_get (D := (dC, dI)) (ci := 0) (v := .ref ed) (C := RJx4a65c) (T := TJx4a65c) (N := 3) hx hb hts hin hown hK hP 0 rfl rfl 1 (by decide) (hts (.fieldLink RJx4a65c 9 "java/util/ArrayList" "elementData" "[Ljava/lang/Object;") (by decide +kernel)) (fun _ h9 => h9) rfl dJx4a65c_grow_92f84_1 ?_
  refine va_alen (v := nI n9) hx hb hK hP 1 0 rfl rfl rfl dJx4a65c_grow_92f84_4 ?_
  refine lv_istore_n (lv' := [(2, .int (nI n9)), (0, .ref la), (1, .int (nI (n9 + 1)))]) hx hb dJx4a65c_grow_92f84_5 rfl hl (by decide) rfl (fun ls hl => ?_)
  refine lv_iload_n hx hb dJx4a65c_grow_92f84_6 rfl (lv_at hl 0 rfl) ?_
  refine f_0gt (tgt := 20) hx hb (nI_toInt (by omega)) dJx4a65c_grow_92f84_7 (by decide) (fun c_1 => ?_) (fun c_1 => ?_)
  · refine lv_iload_n hx hb dJx4a65c_grow_92f84_20 rfl (lv_at hl 0 rfl) ?_
    refine lv_iload_n hx hb dJx4a65c_grow_92f84_21 rfl (lv_at hl 2 rfl) ?_
    refine lv_iload_n hx hb dJx4a65c_grow_92f84_22 rfl (lv_at hl 0 rfl) ?_
    refine lv_isub hx hb dJx4a65c_grow_92f84_23 ?_
    refine f_ti (y := nI 1) (sub_one9 n9 h1) ?_
    refine lv_iload_n hx hb dJx4a65c_grow_92f84_24 rfl (lv_at hl 0 rfl) ?_
    refine lv_iconst (v := 1) hx hb dJx4a65c_grow_92f84_25 (by decide) ?_
    refine lv_ishr hx hb dJx4a65c_grow_92f84_26 ?_
    refine f_ti (y := nI (n9 / 2)) (pk_shrN (by omega) 1 1 (by decide)) ?_
    refine f_cSi (As := [.int (nI n9), .int (nI 1), .int (nI (n9 / 2))]) (rest := []) ⟨hx, hb, hml, hown, hts⟩ (c_newLen l9 n9 1 (n9 / 2) (by omega) (by omega)) (va_cwS 3 hts gJx4a65c_grow_92f84_J8_newLength_cabcc rfl rfl rfl (by decide +kernel) ⟨Nat.le_of_ble_eq_true rfl, Nat.le_of_ble_eq_true rfl⟩) noB_bl noB_at rfl hl.1 rfl (Nat.le_of_ble_eq_true rfl) dJx4a65c_grow_92f84_27 ⟨Nat.zero_le _, Nat.zero_le _⟩ ?_
    refine lv_istore_n (lv' := [(3, .int (nI (n9 + max 1 (n9 / 2)))), (2, .int (nI n9)), (0, .ref la), (1, .int (nI (n9 + 1)))]) hx hb dJx4a65c_grow_92f84_30 rfl hl (by decide) rfl (fun ls hl => ?_)
    refine lv_aload_n hx hb dJx4a65c_grow_92f84_31 rfl (lv_at hl 2 rfl) ?_
    refine lv_aload_n hx hb dJx4a65c_grow_92f84_32 rfl (lv_at hl 2 rfl) ?_
    refine va_get (D := (dC, dI)) (ci := 0) (v := .ref ed) (C := RJx4a65c) (T := TJx4a65c) (N := 3) hx hb hts hin hown hK hP 0 rfl rfl 1 (by decide) (hts (.fieldLink RJx4a65c 9 "java/util/ArrayList" "elementData" "[Ljava/lang/Object;") (by decide +kernel)) (fun _ h9 => h9) rfl dJx4a65c_grow_92f84_33 ?_
    refine lv_iload_n hx hb dJx4a65c_grow_92f84_36 rfl (lv_at hl 0 rfl) ?_
    have hP : va_P (dC, dI) vwCl ([lwA ed cO n9 fo] ++ [lwO la mc ed n9]) ss.heap := hP.sub [1, 0] rfl
    have hD : va_D A ([lwA ed cO n9 fo] ++ [lwO la mc ed n9]) := hD.sub [1, 0] rfl rfl
    have hF := mu_free hD hS hA
    refine va_callr (va_runS (As := [.ref ed, .int (nI (n9 + max 1 (n9 / 2)))]) (rest := [.ref la]) ⟨hx, hb, hml, hown, hts⟩ (c_copy2 l9 dC dI ed cO n9 (n9 + max 1 (n9 / 2)) fo mi ss.heap.size (by omega) (by omega) h3) (va_cwS 2 hts gJx4a65c_grow_92f84_J7_copyOf_1904c rfl rfl rfl (by decide +kernel) ⟨Nat.le_of_ble_eq_true rfl, Nat.le_of_ble_eq_true rfl⟩) ⟨fun a9 U9 g9 mk q9 => ⟨q9.1, muB_bl U9 g9 mk a9 q9.2.1, jdB_moved (u9 := U9) (U9 := U9.calling g9 mk a9) (Vm.Alike.refl U9.vm) q9.2.2.1, q9.2.2.2⟩, fun U9 hU hW => ⟨rfl, muB_at (pl_left hP) hK (dl_left hD) U9 hU hW, jdB_moved hW.alike hL.1, anB_at hL.2.2 hS (fun q9 _ h9 => hF q9 h9) U9 hU hW⟩⟩ rfl rfl hl.1 rfl (lv_room (Nat.le_of_ble_eq_true rfl)) dJx4a65c_grow_92f84_37 ⟨Nat.le_of_ble_eq_true rfl, Nat.le_of_ble_eq_true rfl⟩) hS (fun q9 _ h9 => hF q9 h9) hF (fun cA q9 t9 H1 locs ht hvm hw hB hz1 hk1 hS => ?_)
    obtain ⟨hP1, hK1, hD1⟩ := hB
    rw [ht] at hP1
    obtain ⟨hP, hD⟩ := mu_join hP hD hk1 hF hP1 hD1
    have hK : va_K (dC, dI) vwCl [tO cO, tO cA] ss := va_K.moved (Vm.Alike.symm hvm) hK1
    have hP : va_P (dC, dI) vwCl [lwO la mc ed n9, lwA q9 cA (n9 + max 1 (n9 / 2)) fo] H1 := hP.sub [2, 1] rfl
    have hD : va_D A [lwO la mc ed n9, lwA q9 cA (n9 + max 1 (n9 / 2)) fo] := hD.sub [2, 1] rfl rfl
    refine lv_dup_x1 hx hb dJx4a65c_grow_92f84_40 rfl rfl ?_
    refine va_put (D := (dC, dI)) (ci := 0) (v := .ref q9) (ty := .array (.object "java/lang/Object")) (C := RJx4a65c) (T := TJx4a65c) (N := 3) hx hb hts hin tyJx4a65c tyJx4a65c_ok nmJx4a65c hown hK hP hD hS 0 rfl rfl 1 (by decide) (hts (.fieldLink RJx4a65c 9 "java/util/ArrayList" "elementData" "[Ljava/lang/Object;") (by decide +kernel)) (fun _ h9 => h9) rfl (by decide +kernel) rfl rfl (Nat.le_of_ble_eq_true rfl) dJx4a65c_grow_92f84_41 (fun H locs hP hD hS => ?_)
    refine W.widen (k := 1) (n := 1000) (Nat.le_of_ble_eq_true rfl) (Nat.le_of_ble_eq_true rfl) ?_
    exact W.aret hx hb hr (Or.inr ⟨_, rfl⟩) (Or.inr ⟨q9, rfl⟩) (fun t9 ht hW => ⟨⟨(cA, n9 + max 1 (n9 / 2)), q9, rfl, ⟨(by show n9 < n9 + max 1 (n9 / 2); omega), (by show n9 + max 1 (n9 / 2) ≤ 1000; omega)⟩, by rw [ht]; exact hP, va_K.moved hW.alike ⟨hK.1, fun k9 q9 h9 => hK.2 (k9 + 1) q9 h9⟩, hD⟩, hS.F ht⟩) hS.2.2 dJx4a65c_grow_92f84_44 hlocks
  · exfalso; omega
