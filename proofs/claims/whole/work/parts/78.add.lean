/-! ArrayList.add -/
/-- where the list grows -/
def grZ (t0 ed t9 : Nat) (fo : Nat → Option Nat) (cO : ClassId) (Z : va_W) (tz : List (ClassId × FieldType)) : Prop := (t9 = 0 ∧ ed = t0 ∧ Z = [] ∧ tz = [] ∧ fo = fun _ => none) ∨ (0 < t9 ∧ Z = [lwA ed cO t9 fo] ∧ tz = [tO cO] ∧ ∀ i9, t9 ≤ i9 → fo i9 = none)
theorem c_grow1 (l9 : Launch) (dC : Nat → ClassId) (dI : Nat → Nat → Nat) (la : Nat) (mc : Int32) (ed t9 : Nat) (fo : Nat → Option Nat) (cO : ClassId) (Z : va_W) (tz : List (ClassId × FieldType)) (mi t0 sz : Nat) (h9 : grZ t0 ed t9 fo cO Z tz) (h8 : t9 ≤ 600) : LsR l9 yJx4a65c_grow_92f84 wsJx4a65c_grow_92f84 { frames := 3, cells := 1, slots := 1000, locals := 84 } [.ref la, .int (nI (t9 + 1))] (dC, dI) la mc ed t9 fo Z tz mi t0 sz := by
  rcases h9 with ⟨rfl, rfl, rfl, rfl, rfl⟩ | ⟨h1, rfl, rfl, h2⟩
  · exact c_growA l9 dC dI la mc mi ed sz
  · exact c_growB l9 dC dI la mc ed cO t9 fo mi t0 sz h1 h8 h2
set_option maxHeartbeats 4000000 in
set_option maxRecDepth 100000 in
theorem c_grow0 (l9 : Launch) (dC : Nat → ClassId) (dI : Nat → Nat → Nat) (la : Nat) (mc : Int32) (ed t9 : Nat) (fo : Nat → Option Nat) (cO : ClassId) (Z : va_W) (tz : List (ClassId × FieldType)) (mi t0 sz : Nat) (h9 : grZ t0 ed t9 fo cO Z tz) (h8 : t9 ≤ 600) : LsR l9 yJx4a65c_grow_d5877 wsJx4a65c_grow_d5877 { frames := 4, cells := 1, slots := 1000, locals := 107 } [.ref la] (dC, dI) la mc ed t9 fo Z tz mi t0 sz := by
  refine Ro_start (cc := cJx4a65c_grow_d5877) (maxL := 1) (ret := (some (.array (.object "java/lang/Object")))) (lv := [(0, .ref la)]) (by decide) rfl (Nat.le_of_ble_eq_true rfl) rfl ?_
  intro pp ee ss mm aa bl me co hx hb hr hml hts hown hlocks hnm hB ls hl
  obtain ⟨⟨hsz, hP, hK, hD0⟩, hL⟩ := hB
  subst hsz
  have hD := hD0.self (sz := ss.heap.size)
  generalize hAe : va_A (lwO la mc ed t9 :: Z) ss.heap.size = A at hD hL ⊢
  have hA : ∀ q9 : Nat, ss.heap.size ≤ q9 → A q9 := fun q9 h9 => by rw [← hAe]; exact Or.inr h9
  have hS : va_S A ss.heap ss.heap [] := va_S.rf
  have hin : ∀ w9 ∈ wsJx4a65c0, w9 ∈ wsJx4a65c_grow_d5877 := fun w9 h9 => List.mem_cons_of_mem _ (List.mem_append_right _ h9)
  refine lv_aload_n hx hb dJx4a65c_grow_d5877_0 rfl (lv_at hl 0 rfl) ?_
  refine lv_aload_n hx hb dJx4a65c_grow_d5877_1 rfl (lv_at hl 0 rfl) ?_
  refine va_get (D := (dC, dI)) (ci := 0) (v := .int (nI t9)) (C := RJx4a65c) (T := TJx4a65c) (N := 3) hx hb hts hin hown hK hP 0 rfl rfl 2 (by decide) (hts (.fieldLink RJx4a65c 48 "java/util/ArrayList" "size" "I") (by decide +kernel)) (fun _ h9 => h9) rfl dJx4a65c_grow_d5877_2 ?_
  refine lv_iconst (v := nI 1) hx hb dJx4a65c_grow_d5877_5 (by decide) ?_
  refine lv_iadd hx hb dJx4a65c_grow_d5877_6 ?_
  refine f_ti (y := nI (t9 + 1)) (nI_add _ _) ?_
  refine va_callr (va_runV (As := [.int (nI (t9 + 1))]) (rest := []) ⟨hx, hb, hml, hown, hts⟩ (c_grow1 l9 dC dI la mc ed t9 fo cO Z tz mi t0 ss.heap.size h9 h8) (cwV 1 hts gJx4a65c_grow_d5877_Jx4a65c_grow_92f84 rfl rfl rfl (by decide +kernel) ⟨Nat.le_of_ble_eq_true rfl, Nat.le_of_ble_eq_true rfl⟩) ⟨fun a9 U9 g9 mk q9 => ⟨q9.1, muB_bl U9 g9 mk a9 q9.2.1, lsB_bl U9 g9 mk a9 q9.2.2⟩, va_recv hK hP (ci := 0) (q0 := 0) rfl rfl, fun U9 hU hW => ⟨rfl, muB_at hP hK hD U9 hU hW, lsB_at hL hS (fun q9 h9 => by rw [← hAe]; exact h9) U9 hU hW⟩⟩ rfl rfl hl.1 rfl (lv_room (Nat.le_of_ble_eq_true rfl)) dJx4a65c_grow_d5877_7 ⟨Nat.le_of_ble_eq_true rfl, Nat.le_of_ble_eq_true rfl⟩) hS (fun q9 _ h9 => by rw [← hAe]; exact h9) (fun q9 h9 => by rw [← hAe]; exact h9) (fun u9 q9 t8 H1 locs ht hvm hw hB hz1 hk1 hS => ?_)
  obtain ⟨hP1, hK1, hD1⟩ := hB
  rw [ht] at hP1
  rw [hAe] at hD1
  have hK2 : va_K (dC, dI) vwCl [tO u9.1] ss := va_K.moved (Vm.Alike.symm hvm) hK1
  exact W.aret hx hb hr (Or.inr ⟨_, rfl⟩) (Or.inr ⟨q9, rfl⟩) (fun t9 ht hW => ⟨⟨u9, q9, rfl, hw, by rw [ht]; exact hP1, va_K.moved hW.alike hK2, hD1⟩, hS.F ht⟩) hS.2.2 dJx4a65c_grow_d5877_10 hlocks
abbrev adQ (D : va_G) (la : Nat) (mc : Int32) (t9 : Nat) (fo : Nat → Option Nat) (oa : Nat) (A : Nat → Prop) : Array Value → State → Outcome → State → Prop := va_Qv (fun (u : Nat × ClassId × Nat) => t9 < u.2.2 ∧ u.2.2 ≤ 1000) (fun u t => muQ D [lwO la mc u.1 (t9 + 1), lwA u.1 u.2.1 u.2.2 (va_up fo t9 (some oa))] [tO u.2.1] A t) A
abbrev LsV (l : Launch) (y : MethodName) (ws : List Cond) (rm : Room) (As : List Value) (D : va_G) (la : Nat) (mc : Int32) (ed t9 : Nat) (fo : Nat → Option Nat) (oa : Nat) (Z : va_W) (tz : List (ClassId × FieldType)) (mi t0 sz : Nat) : Prop := Met l y ws rm (va_Pc As (fun U => muB D (lwO la mc ed t9 :: Z) tz sz U ∧ lsB mi t0 (va_A (lwO la mc ed t9 :: Z) sz) fo U ∧ anB (va_A (lwO la mc ed t9 :: Z) sz) (fun _ => some oa) U)) (adQ D la mc t9 fo oa (va_A (lwO la mc ed t9 :: Z) sz)) 1 1000 (va_A (lwO la mc ed t9 :: Z) sz)
set_option maxHeartbeats 4000000 in
set_option maxRecDepth 100000 in
theorem c_add3 (l9 : Launch) (dC : Nat → ClassId) (dI : Nat → Nat → Nat) (la : Nat) (mc : Int32) (ed t9 : Nat) (fo : Nat → Option Nat) (cO : ClassId) (n9 oa : Nat) (Z : va_W) (tz : List (ClassId × FieldType)) (mi t0 sz : Nat) (h9 : lsZ t0 ed t9 fo cO n9 Z tz) (h8 : t9 ≤ 600) : LsV l9 yJx4a65c_add_72be8 wsJx4a65c_add_72be8 { frames := 5, cells := 1, slots := 1000, locals := 127 } [.ref la, .ref oa, .ref ed, .int (nI t9)] (dC, dI) la mc ed t9 fo oa Z tz mi t0 sz := by
  refine Ro_start (cc := cJx4a65c_add_72be8) (maxL := 4) (ret := none) (lv := [(0, .ref la), (1, .ref oa), (2, .ref ed), (3, .int (nI t9))]) (by decide) rfl (Nat.le_of_ble_eq_true rfl) rfl ?_
  intro pp ee ss mm aa bl me co hx hb hr hml hts hown hlocks hnm hB ls hl
  obtain ⟨⟨hsz, hP, hK, hD0⟩, hL, hO⟩ := hB
  subst hsz
  have hD := hD0.self (sz := ss.heap.size)
  generalize hAe : va_A (lwO la mc ed t9 :: Z) ss.heap.size = A at hD hL hO ⊢
  have hA : ∀ q9 : Nat, ss.heap.size ≤ q9 → A q9 := fun q9 h9 => by rw [← hAe]; exact Or.inr h9
  have hS : va_S A ss.heap ss.heap [] := va_S.rf
  have hin : ∀ w9 ∈ wsJx4a65c0, w9 ∈ wsJx4a65c_add_72be8 := fun w9 h9 => List.mem_cons_of_mem _ (List.mem_append_right _ h9)
  have hoa := hO 0 oa rfl
  have tail : ∀ (H : Heap) (locs : List Loc) (q9 : Nat) (cA : ClassId) (n8 : Nat), t9 < n8 → n8 ≤ 1000 → va_K (dC, dI) vwCl [tO cA] ss → va_P (dC, dI) vwCl [lwO la mc q9 t9, lwA q9 cA n8 fo] H → va_D A [lwO la mc q9 t9, lwA q9 cA n8 fo] → va_S A ss.heap H locs → ∀ ls : Array Slot, lv_has ls 4 [(0, .ref la), (1, .ref oa), (2, .ref q9), (3, .int (nI t9))] → W pp l9 ee ({ frames := 5, cells := 1, slots := 1000, locals := 127 } : Room) ss mm aa bl me co H locs 1 1000 (MQ bl (adQ (dC, dI) la mc t9 fo oa A) aa ss 1 1000 A) (F0 mm 11 ls []) := by
    intro H locs q9 cA n8 h7 h6 hK hP hD hS ls hl
    refine lv_aload_n hx hb dJx4a65c_add_72be8_11 rfl (lv_at hl 2 rfl) ?_
    refine lv_iload_n hx hb dJx4a65c_add_72be8_12 rfl (lv_at hl 3 rfl) ?_
    refine lv_aload_n hx hb dJx4a65c_add_72be8_13 rfl (lv_at hl 1 rfl) ?_
    refine va_astqM hx hb hK hP hD hS 1 0 rfl rfl (any_kept hS hoa.1 hoa.2) (vp_in_nI h7 (by omega)) dJx4a65c_add_72be8_14 (fun H locs hP hD hS => ?_)
    rw [nI_clamp (by omega)] at hP hD
    refine lv_aload_n hx hb dJx4a65c_add_72be8_15 rfl (lv_at hl 0 rfl) ?_
    refine lv_iload_n hx hb dJx4a65c_add_72be8_16 rfl (lv_at hl 3 rfl) ?_
    refine lv_iconst (v := nI 1) hx hb dJx4a65c_add_72be8_17 (by decide) ?_
    refine lv_iadd hx hb dJx4a65c_add_72be8_18 ?_
    refine f_ti (y := nI (t9 + 1)) (nI_add _ _) ?_
    refine va_put (D := (dC, dI)) (ci := 0) (v := .int (nI (t9 + 1))) (ty := .int) (C := RJx4a65c) (T := TJx4a65c) (N := 3) hx hb hts hin tyJx4a65c tyJx4a65c_ok nmJx4a65c hown hK hP hD hS 0 rfl rfl 2 (by decide) (hts (.fieldLink RJx4a65c 48 "java/util/ArrayList" "size" "I") (by decide +kernel)) (fun _ h9 => h9) rfl (by decide +kernel) rfl rfl (Nat.le_of_ble_eq_true rfl) dJx4a65c_add_72be8_19 (fun H locs hP hD hS => ?_)
    exact W.vret hx hb hr (fun t8 ht hW => ⟨⟨(q9, cA, n8), rfl, ⟨h7, h6⟩, by rw [ht]; exact hP, va_K.moved hW.alike hK, hD⟩, hS.F ht⟩) hS.2.2 dJx4a65c_add_72be8_22 hlocks
  have grow9 : grZ t0 ed t9 fo cO Z tz → W pp l9 ee ({ frames := 5, cells := 1, slots := 1000, locals := 127 } : Room) ss mm aa bl me co ss.heap [] 0 0 (MQ bl (adQ (dC, dI) la mc t9 fo oa A) aa ss 1 1000 A) (F0 mm 6 ls []) := by
    intro h7
    refine lv_aload_n hx hb dJx4a65c_add_72be8_6 rfl (lv_at hl 0 rfl) ?_
    refine va_callr (va_runV (As := []) (rest := []) ⟨hx, hb, hml, hown, hts⟩ (c_grow0 l9 dC dI la mc ed t9 fo cO Z tz mi t0 ss.heap.size h7 h8) (cwV 0 hts gJx4a65c_add_72be8_Jx4a65c_grow_d5877 rfl rfl rfl (by decide +kernel) ⟨Nat.le_of_ble_eq_true rfl, Nat.le_of_ble_eq_true rfl⟩) ⟨fun a9 U9 g9 mk q9 => ⟨q9.1, muB_bl U9 g9 mk a9 q9.2.1, lsB_bl U9 g9 mk a9 q9.2.2⟩, va_recv hK hP (ci := 0) (q0 := 0) rfl rfl, fun U9 hU hW => ⟨rfl, muB_at hP hK hD U9 hU hW, lsB_at hL hS (fun q9 h9 => by rw [← hAe]; exact h9) U9 hU hW⟩⟩ rfl rfl hl.1 rfl (lv_room (Nat.le_of_ble_eq_true rfl)) dJx4a65c_add_72be8_7 ⟨Nat.le_of_ble_eq_true rfl, Nat.le_of_ble_eq_true rfl⟩) hS (fun q9 _ h9 => by rw [← hAe]; exact h9) (fun q9 h9 => by rw [← hAe]; exact h9) (fun u9 q9 t8 H1 locs ht hvm hw hB hz1 hk1 hS => ?_)
    obtain ⟨hP1, hK1, hD1⟩ := hB
    rw [ht] at hP1
    rw [hAe] at hD1
    have hK2 : va_K (dC, dI) vwCl [tO u9.1] ss := va_K.moved (Vm.Alike.symm hvm) hK1
    refine lv_astore_n (lv' := [(2, .ref q9), (0, .ref la), (1, .ref oa), (3, .int (nI t9))]) hx hb dJx4a65c_add_72be8_10 rfl hl (by decide) rfl (fun ls hl => ?_)
    exact tail H1 locs q9 u9.1 u9.2 hw.1 hw.2 hK2 hP1 hD1 hS ls (lv_sub hl [1, 2, 0, 3] rfl)
  refine lv_iload_n hx hb dJx4a65c_add_72be8_0 rfl (lv_at hl 3 rfl) ?_
  refine lv_aload_n hx hb dJx4a65c_add_72be8_1 rfl (lv_at hl 2 rfl) ?_
  rcases h9 with ⟨h1, h2, h3, h4, h5⟩ | ⟨h0, h1, h2, h3, h4, h5⟩
  · rw [h2] at hl ⊢
    refine va_tlen (v := nI 0) hx hb hL.2.1.2 hS rfl dJx4a65c_add_72be8_2 ?_
    refine f_ine (tgt := 11) hx hb (nI_toInt (by omega)) (nI_toInt (by omega)) dJx4a65c_add_72be8_3 (by decide) (fun c_1 => ?_) (fun c_1 => ?_)
    · exfalso; omega
    exact grow9 (Or.inl ⟨h1, h2, h3, h4, h5⟩)
  · have hP2 : va_P (dC, dI) vwCl [lwO la mc ed t9, lwA ed cO n9 fo] ss.heap := by rw [h3] at hP; exact hP
    have hD2 : va_D A [lwO la mc ed t9, lwA ed cO n9 fo] := by rw [h3] at hD; exact hD
    have hK2 : va_K (dC, dI) vwCl [tO cO] ss := by rw [h4] at hK; exact hK
    refine va_alen (v := nI n9) hx hb hK2 hP2 1 0 rfl rfl rfl dJx4a65c_add_72be8_2 ?_
    refine f_ine (tgt := 11) hx hb (nI_toInt (by omega)) (nI_toInt (by omega)) dJx4a65c_add_72be8_3 (by decide) (fun c_1 => ?_) (fun c_1 => ?_)
    · refine W.widen (k := 1) (n := 1000) (Nat.le_of_ble_eq_true rfl) (Nat.le_of_ble_eq_true rfl) ?_
      exact tail ss.heap [] ed cO n9 (by omega) h2 hK2 hP2 hD2 hS ls hl
    · have h6 : t9 = n9 := by omega
      exact grow9 (Or.inr ⟨by omega, by rw [h3, h6], h4, h5⟩)
abbrev adI (D : va_G) (la : Nat) (mc : Int32) (t9 : Nat) (fo : Nat → Option Nat) (oa : Nat) (A : Nat → Prop) : Array Value → State → Outcome → State → Prop := va_Qi (fun r9 (u : Nat × ClassId × Nat) => r9 = 1 ∧ t9 < u.2.2 ∧ u.2.2 ≤ 1000) (fun u t => muQ D [lwO la (mc + 1) u.1 (t9 + 1), lwA u.1 u.2.1 u.2.2 (va_up fo t9 (some oa))] [tO u.2.1] A t) A
abbrev LsI (l : Launch) (y : MethodName) (ws : List Cond) (rm : Room) (As : List Value) (D : va_G) (la : Nat) (mc : Int32) (ed t9 : Nat) (fo : Nat → Option Nat) (oa : Nat) (Z : va_W) (tz : List (ClassId × FieldType)) (mi t0 sz : Nat) : Prop := Met l y ws rm (va_Pc As (fun U => muB D (lwO la mc ed t9 :: Z) tz sz U ∧ lsB mi t0 (va_A (lwO la mc ed t9 :: Z) sz) fo U ∧ anB (va_A (lwO la mc ed t9 :: Z) sz) (fun _ => some oa) U)) (adI D la mc t9 fo oa (va_A (lwO la mc ed t9 :: Z) sz)) 1 1000 (va_A (lwO la mc ed t9 :: Z) sz)
set_option maxHeartbeats 4000000 in
set_option maxRecDepth 100000 in
theorem c_add1 (l9 : Launch) (dC : Nat → ClassId) (dI : Nat → Nat → Nat) (la : Nat) (mc : Int32) (ed t9 : Nat) (fo : Nat → Option Nat) (cO : ClassId) (n9 oa : Nat) (Z : va_W) (tz : List (ClassId × FieldType)) (mi t0 sz : Nat) (h9 : lsZ t0 ed t9 fo cO n9 Z tz) (h8 : t9 ≤ 600) : LsI l9 yJx4a65c_add_9ea2d wsJx4a65c_add_9ea2d { frames := 6, cells := 1, slots := 1000, locals := 150 } [.ref la, .ref oa] (dC, dI) la mc ed t9 fo oa Z tz mi t0 sz := by
  refine Ro_start (cc := cJx4a65c_add_9ea2d) (maxL := 2) (ret := (some .boolean)) (lv := [(0, .ref la), (1, .ref oa)]) (by decide) rfl (Nat.le_of_ble_eq_true rfl) rfl ?_
  intro pp ee ss mm aa bl me co hx hb hr hml hts hown hlocks hnm hB ls hl
  obtain ⟨⟨hsz, hP, hK, hD0⟩, hL, hO⟩ := hB
  subst hsz
  have hD := hD0.self (sz := ss.heap.size)
  generalize hAe : va_A (lwO la mc ed t9 :: Z) ss.heap.size = A at hD hL hO ⊢
  have hA : ∀ q9 : Nat, ss.heap.size ≤ q9 → A q9 := fun q9 h9 => by rw [← hAe]; exact Or.inr h9
  have hS : va_S A ss.heap ss.heap [] := va_S.rf
  have hin : ∀ w9 ∈ wsJx4a65c0, w9 ∈ wsJx4a65c_add_9ea2d := fun w9 h9 => List.mem_cons_of_mem _ (List.mem_append_right _ h9)
  refine lv_aload_n hx hb dJx4a65c_add_9ea2d_0 rfl (lv_at hl 0 rfl) ?_
  refine lv_dup hx hb dJx4a65c_add_9ea2d_1 rfl ?_
  refine va_get (D := (dC, dI)) (ci := 0) (v := .int mc) (C := RJx4a65c) (T := TJx4a65c) (N := 3) hx hb hts hin hown hK hP 0 rfl rfl 0 (by decide) (hts (.fieldLink RJx4a65c 63 "java/util/ArrayList" "modCount" "I") (by decide +kernel)) (fun x9 h9 => u_same (hts (.sameField "java/util/ArrayList" "java/util/AbstractList" "modCount" "I") (by decide +kernel)) x9 h9) rfl dJx4a65c_add_9ea2d_2 ?_
  refine lv_iconst (v := 1) hx hb dJx4a65c_add_9ea2d_5 (by decide) ?_
  refine lv_iadd hx hb dJx4a65c_add_9ea2d_6 ?_
  refine va_put (D := (dC, dI)) (ci := 0) (v := .int (mc + 1)) (ty := .int) (C := RJx4a65c) (T := TJx4a65c) (N := 3) hx hb hts hin tyJx4a65c tyJx4a65c_ok nmJx4a65c hown hK hP hD hS 0 rfl rfl 0 (by decide) (hts (.fieldLink RJx4a65c 63 "java/util/ArrayList" "modCount" "I") (by decide +kernel)) (fun x9 h9 => u_same (hts (.sameField "java/util/ArrayList" "java/util/AbstractList" "modCount" "I") (by decide +kernel)) x9 h9) rfl (by decide +kernel) rfl rfl (Nat.le_of_ble_eq_true rfl) dJx4a65c_add_9ea2d_7 (fun H locs hP hD hS => ?_)
  have hP : va_P (dC, dI) vwCl (lwO la (mc + 1) ed t9 :: Z) H := hP
  have hD : va_D A (lwO la (mc + 1) ed t9 :: Z) := hD
  refine lv_aload_n hx hb dJx4a65c_add_9ea2d_10 rfl (lv_at hl 0 rfl) ?_
  refine lv_aload_n hx hb dJx4a65c_add_9ea2d_11 rfl (lv_at hl 1 rfl) ?_
  refine lv_aload_n hx hb dJx4a65c_add_9ea2d_12 rfl (lv_at hl 0 rfl) ?_
  refine va_get (D := (dC, dI)) (ci := 0) (v := .ref ed) (C := RJx4a65c) (T := TJx4a65c) (N := 3) hx hb hts hin hown hK hP 0 rfl rfl 1 (by decide) (hts (.fieldLink RJx4a65c 9 "java/util/ArrayList" "elementData" "[Ljava/lang/Object;") (by decide +kernel)) (fun _ h9 => h9) rfl dJx4a65c_add_9ea2d_13 ?_
  refine lv_aload_n hx hb dJx4a65c_add_9ea2d_16 rfl (lv_at hl 0 rfl) ?_
  refine va_get (D := (dC, dI)) (ci := 0) (v := .int (nI t9)) (C := RJx4a65c) (T := TJx4a65c) (N := 3) hx hb hts hin hown hK hP 0 rfl rfl 2 (by decide) (hts (.fieldLink RJx4a65c 48 "java/util/ArrayList" "size" "I") (by decide +kernel)) (fun _ h9 => h9) rfl dJx4a65c_add_9ea2d_17 ?_
  have hF := mu_free (z := []) (by rw [List.append_nil]; exact hD) hS hA
  refine va_callv (va_runV (As := [.ref oa, .ref ed, .int (nI t9)]) (rest := []) ⟨hx, hb, hml, hown, hts⟩ (c_add3 l9 dC dI la (mc + 1) ed t9 fo cO n9 oa Z tz mi t0 H.size h9 h8) (cwV 3 hts gJx4a65c_add_9ea2d_Jx4a65c_add_72be8 rfl rfl rfl (by decide +kernel) ⟨Nat.le_of_ble_eq_true rfl, Nat.le_of_ble_eq_true rfl⟩) ⟨fun a9 U9 g9 mk q9 => ⟨q9.1, muB_bl U9 g9 mk a9 q9.2.1, lsB_bl U9 g9 mk a9 q9.2.2.1, q9.2.2.2⟩, va_recv hK hP (ci := 0) (q0 := 0) rfl rfl, fun U9 hU hW => ⟨rfl, muB_at hP hK hD U9 hU hW, lsB_at hL hS hF U9 hU hW, anB_at hO hS (fun q9 _ h9 => hF q9 h9) U9 hU hW⟩⟩ rfl rfl hl.1 rfl (lv_room (Nat.le_of_ble_eq_true rfl)) dJx4a65c_add_9ea2d_20 ⟨Nat.le_of_ble_eq_true rfl, Nat.le_of_ble_eq_true rfl⟩) hS (fun q9 _ h9 => hF q9 h9) hF (fun u9 t8 H1 locs ht hvm hw hB hz1 hk1 hS => ?_)
  obtain ⟨hP1, hK1, hD1⟩ := hB
  rw [ht] at hP1
  have hD2 := hD1.weaken (fun k9 q9 _ h9 => hF q9.1 h9)
  have hK2 : va_K (dC, dI) vwCl [tO u9.2.1] ss := va_K.moved (Vm.Alike.symm hvm) hK1
  refine lv_iconst (v := 1) hx hb dJx4a65c_add_9ea2d_23 (by decide) ?_
  exact W.zret hx hb hr (by decide) (fun t8 ht hW => ⟨⟨1, u9, rfl, ⟨rfl, hw⟩, by rw [ht]; exact hP1, va_K.moved hW.alike hK2, hD2⟩, hS.F ht⟩) hS.2.2 dJx4a65c_add_9ea2d_24 hlocks
