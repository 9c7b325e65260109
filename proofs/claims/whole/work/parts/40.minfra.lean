/-! methods that change their object -/
def muB (D : va_G) (w : va_W) (tys : List (ClassId × FieldType)) (sz : Nat) : State → Prop := fun U => U.heap.size = sz ∧ va_P D vwCl w U.heap ∧ va_K D vwCl tys U ∧ va_D (fun _ => True) w
def muQ (D : va_G) (w : va_W) (tys : List (ClassId × FieldType)) (A : Nat → Prop) : State → Prop := fun t => va_P D vwCl w t.heap ∧ va_K D vwCl tys t ∧ va_D A w
abbrev MuI (l : Launch) (y : MethodName) (ws : List Cond) (rm : Room) (As : List Value) (D : va_G) (w w1 : va_W) (tys : List (ClassId × FieldType)) (sz : Nat) (v : Int32) : Prop := Met l y ws rm (va_Pc As (muB D w tys sz)) (va_Qi (fun r (_ : Unit) => r = v) (fun _ t => muQ D w1 tys (va_A w sz) t) (va_A w sz)) 0 0 (va_A w sz)
abbrev MuL (l : Launch) (y : MethodName) (ws : List Cond) (rm : Room) (As : List Value) (D : va_G) (w w1 : va_W) (tys : List (ClassId × FieldType)) (sz : Nat) (v : Int64) : Prop := Met l y ws rm (va_Pc As (muB D w tys sz)) (va_Ql (fun r (_ : Unit) => r = v) (fun _ t => muQ D w1 tys (va_A w sz) t) (va_A w sz)) 0 0 (va_A w sz)
abbrev MuV (l : Launch) (y : MethodName) (ws : List Cond) (rm : Room) (As : List Value) (D : va_G) (w w1 : va_W) (tys : List (ClassId × FieldType)) (sz : Nat) : Prop := Met l y ws rm (va_Pc As (muB D w tys sz)) (va_Qv (fun (_ : Unit) => True) (fun _ t => muQ D w1 tys (va_A w sz) t) (va_A w sz)) 0 0 (va_A w sz)
theorem muB_bl {D : va_G} {w : va_W} {tys : List (ClassId × FieldType)} {sz : Nat} (U : State) (g : JFrame) (mk : MethodId) (a : Array Value) (h : muB D w tys sz U) : muB D w tys sz (U.calling g mk a) := ⟨h.1, h.2.1, va_K.moved (u := U) (U := U.calling g mk a) (Vm.Alike.refl U.vm) h.2.2.1, h.2.2.2⟩
theorem muB_at {s : State} {H : Heap} {D : va_G} {w : va_W} {A : Nat → Prop} {tys : List (ClassId × FieldType)} (hP : va_P D vwCl w H) (hK : va_K D vwCl tys s) (hD : va_D A w) : ∀ U : State, U.heap = H → s.WarmedH U.vm → muB D w tys H.size U := fun U hU hW => ⟨by rw [hU], by rw [hU]; exact hP, va_K.moved hW.alike hK, hD.weaken (fun _ _ _ _ => trivial)⟩
theorem wl_get {w z : va_W} {k : Nat} {q : Nat × va_E} (h : w[k]? = some q) : (w ++ z)[k]? = some q := by
  rw [List.getElem?_append_left (List.getElem?_eq_some_iff.mp h).1]
  exact h
theorem wr_get {w z : va_W} {k : Nat} {q : Nat × va_E} (h : z[k]? = some q) : (w ++ z)[w.length + k]? = some q := by
  rw [List.getElem?_append_right (Nat.le_add_right _ _), Nat.add_sub_cancel_left]
  exact h
theorem pl_left {D : va_G} {cl : List vw_C} {w z : va_W} {H : Heap} (h : va_P D cl (w ++ z) H) : va_P D cl w H := fun k q hk => h k q (wl_get hk)
theorem pl_right {D : va_G} {cl : List vw_C} {w z : va_W} {H : Heap} (h : va_P D cl (w ++ z) H) : va_P D cl z H := fun k q hk => h (w.length + k) q (wr_get hk)
theorem dl_left {A : Nat → Prop} {w z : va_W} (h : va_D A (w ++ z)) : va_D A w := ⟨fun i j p q hi hj e => h.1 i j p q (wl_get hi) (wl_get hj) e, fun k q hk => h.2 k q (wl_get hk)⟩
theorem dl_right {A : Nat → Prop} {w z : va_W} (h : va_D A (w ++ z)) : va_D A z := ⟨fun i j p q hi hj e => by
  have := h.1 (w.length + i) (w.length + j) p q (wr_get hi) (wr_get hj) e
  omega, fun k q hk => h.2 (w.length + k) q (wr_get hk)⟩
theorem dl_apart {A : Nat → Prop} {w z : va_W} (h : va_D A (w ++ z)) {i j : Nat} {p q : Nat × va_E} (hi : w[i]? = some p) (hj : z[j]? = some q) : p.1 ≠ q.1 := fun e => by
  have h1 := h.1 i (w.length + j) p q (wl_get hi) (wr_get hj) e
  have h2 := (List.getElem?_eq_some_iff.mp hi).1
  omega
theorem mu_free {A : Nat → Prop} {w z : va_W} {H0 H : Heap} {locs : List Loc} (hD : va_D A (w ++ z)) (hS : va_S A H0 H locs) (hA : ∀ q, H0.size ≤ q → A q) : ∀ q, va_A w H.size q → A q := fun q h => by
  rcases h with ⟨k, e, hk⟩ | h
  · exact hD.2 k (q, e) (wl_get hk)
  · exact hA q (Nat.le_trans hS.1 h)
theorem mu_join {A : Nat → Prop} {D : va_G} {cl : List vw_C} {w w1 z : va_W} {H H1 : Heap} (hP : va_P D cl (w ++ z) H) (hD : va_D A (w ++ z)) (hk : ∀ q : Nat, q < H.size → ¬ va_A w H.size q → H1[q]? = H[q]?) (hF : ∀ q, va_A w H.size q → A q) (hP1 : va_P D cl w1 H1) (hD1 : va_D (va_A w H.size) w1) : va_P D cl (w1 ++ z) H1 ∧ va_D A (w1 ++ z) := by
  have apart : ∀ (k : Nat) (q : Nat × va_E), z[k]? = some q → q.1 < H.size ∧ ¬ va_A w H.size q.1 := fun k q hq => by
    have hl := (pl_right hP k q hq).lt
    refine ⟨hl, fun h => ?_⟩
    rcases h with ⟨k2, e, h⟩ | h
    · exact dl_apart hD h hq rfl
    · omega
  refine ⟨va_P.app hP1 (fun k q hq => (pl_right hP k q hq).kept (hk q.1 (apart k q hq).1 (apart k q hq).2)), va_D.app (hD1.weaken (fun k q _ h => hF q.1 h)) (dl_right hD) (fun i j x y hx hy hxy => ?_)⟩
  exact (apart j y hy).2 (by rw [← hxy]; exact hD1.2 i x hx)
section FM
variable {p : Program} {l : Launch} {e : Env} {R : Room} {s : State} {m : MethodId} {args : Array Value} {below : List Frame} {meth : Method} {c : Code} {H : Heap} {locs : List Loc} {cells slots : Nat} {Q : State → Prop} {cc : ByteArray} {pc : Nat} {ls : Array Slot} {rest : List Value} {D : va_G} {w w1 z : va_W} {tys : List (ClassId × FieldType)} {A : Nat → Prop}
theorem f_mi {v u : Int32} (hx : p.tables.exec = Jvm.exec) (hb : c.code = cc) (hr : meth.sig.returnType = some .int) (hlocks : meth.locks = false) (h : v = u) (hP : va_P D vwCl w1 H) (hK : va_K D vwCl tys s) (hD : va_D A w1) (hS : va_S A s.heap H locs) (hdg : decode cc pc = .ok (.ireturn, 1)) : W p l e R s m args below meth c H locs cells slots (MQ below (va_Qi (fun r (_ : Unit) => r = u) (fun _ t => muQ D w1 tys A t) A) args s cells slots A) (F0 m pc ls [.int v]) := W.iret hx hb hr (fun t ht hW => ⟨⟨v, (), rfl, h, by rw [ht]; exact hP, va_K.moved hW.alike hK, hD⟩, hS.F ht⟩) hS.2.2 hdg hlocks
theorem f_ml {v u : Int64} (hx : p.tables.exec = Jvm.exec) (hb : c.code = cc) (hr : meth.sig.returnType = some .long) (hlocks : meth.locks = false) (h : v = u) (hP : va_P D vwCl w1 H) (hK : va_K D vwCl tys s) (hD : va_D A w1) (hS : va_S A s.heap H locs) (hdg : decode cc pc = .ok (.lreturn, 1)) : W p l e R s m args below meth c H locs cells slots (MQ below (va_Ql (fun r (_ : Unit) => r = u) (fun _ t => muQ D w1 tys A t) A) args s cells slots A) (F0 m pc ls [.long v]) := W.lret hx hb hr (fun t ht hW => ⟨⟨v, (), rfl, h, by rw [ht]; exact hP, va_K.moved hW.alike hK, hD⟩, hS.F ht⟩) hS.2.2 hdg hlocks
theorem f_mv (hx : p.tables.exec = Jvm.exec) (hb : c.code = cc) (hr : meth.sig.returnType = none) (hlocks : meth.locks = false) (hP : va_P D vwCl w1 H) (hK : va_K D vwCl tys s) (hD : va_D A w1) (hS : va_S A s.heap H locs) (hdg : decode cc pc = .ok (.return_, 1)) : W p l e R s m args below meth c H locs cells slots (MQ below (va_Qv (fun (_ : Unit) => True) (fun _ t => muQ D w1 tys A t) A) args s cells slots A) (F0 m pc ls []) := W.vret hx hb hr (fun t ht hW => ⟨⟨(), rfl, trivial, by rw [ht]; exact hP, va_K.moved hW.alike hK, hD⟩, hS.F ht⟩) hS.2.2 hdg hlocks
theorem f_mci {nL index n maxL : Nat} {own C : String} {y : MethodName} {bytes : ByteArray} {ret : Option FieldType} {ws Ts : List Cond} {rm : Room} {b : Nat} {As st0 : List Value} {v : Int32} (S : CallFix p m c cc nL s args Ts own) (hM : MuI l y ws rm (.ref b :: As) D w w1 tys H.size v) (cw : CallW R s args own C index y bytes maxL ret ws rm 0 0 n) (hrc : ∃ cellB : Cell, H[b]? = some cellB ∧ cellB.vm.isStatics = false ∧ s.vm.findClass C = some cellB.cls) (hP : va_P D vwCl (w ++ z) H) (hK : va_K D vwCl tys s) (hD : va_D A (w ++ z)) (hS : va_S A s.heap H locs) (hA : ∀ q, s.heap.size ≤ q → A q) (hn : As.length = n) (hsize : ls.size = nL) (hst : st0 = As.reverse ++ .ref b :: rest) (hroom : (rest.map fun v => v.category).sum ≤ 8) (hdg : decode cc pc = .ok (.invokevirtual index, 3)) (hf : cells ≤ R.cells ∧ slots ≤ R.slots)
    (kk : ∀ (H1 : Heap) (locs1 : List Loc), va_P D vwCl (w1 ++ z) H1 → va_D A (w1 ++ z) → va_S A s.heap H1 locs1 → W p l e R s m args below meth c H1 locs1 cells slots Q (F0 m (pc + 3) ls (.int v :: rest))) : W p l e R s m args below meth c H locs cells slots Q (F0 m pc ls st0) := by
  have hF := mu_free hD hS hA
  refine va_calli (va_runV (As := As) (rest := rest) S hM cw ⟨fun a U g mk q => ⟨q.1, muB_bl U g mk a q.2⟩, hrc, fun U hU hW => ⟨rfl, muB_at (pl_left hP) hK (dl_left hD) U hU hW⟩⟩ rfl hn hsize hst (lv_room hroom) hdg hf) hS (fun q _ h => hF q h) hF (fun r u t H1 locs ht hvm hw hB hz1 hk1 hS => ?_)
  obtain ⟨hP1, hK1, hD1⟩ := hB
  rw [ht] at hP1
  obtain ⟨hP2, hD2⟩ := mu_join hP hD hk1 hF hP1 hD1
  have hw2 : r = v := hw
  rw [hw2]
  exact kk H1 locs hP2 hD2 hS
theorem f_mcl {nL index n maxL : Nat} {own C : String} {y : MethodName} {bytes : ByteArray} {ret : Option FieldType} {ws Ts : List Cond} {rm : Room} {b : Nat} {As st0 : List Value} {v : Int64} (S : CallFix p m c cc nL s args Ts own) (hM : MuL l y ws rm (.ref b :: As) D w w1 tys H.size v) (cw : CallW R s args own C index y bytes maxL ret ws rm 0 0 n) (hrc : ∃ cellB : Cell, H[b]? = some cellB ∧ cellB.vm.isStatics = false ∧ s.vm.findClass C = some cellB.cls) (hP : va_P D vwCl (w ++ z) H) (hK : va_K D vwCl tys s) (hD : va_D A (w ++ z)) (hS : va_S A s.heap H locs) (hA : ∀ q, s.heap.size ≤ q → A q) (hn : As.length = n) (hsize : ls.size = nL) (hst : st0 = As.reverse ++ .ref b :: rest) (hroom : (rest.map fun v => v.category).sum ≤ 8) (hdg : decode cc pc = .ok (.invokevirtual index, 3)) (hf : cells ≤ R.cells ∧ slots ≤ R.slots)
    (kk : ∀ (H1 : Heap) (locs1 : List Loc), va_P D vwCl (w1 ++ z) H1 → va_D A (w1 ++ z) → va_S A s.heap H1 locs1 → W p l e R s m args below meth c H1 locs1 cells slots Q (F0 m (pc + 3) ls (.long v :: rest))) : W p l e R s m args below meth c H locs cells slots Q (F0 m pc ls st0) := by
  have hF := mu_free hD hS hA
  refine va_calll (va_runV (As := As) (rest := rest) S hM cw ⟨fun a U g mk q => ⟨q.1, muB_bl U g mk a q.2⟩, hrc, fun U hU hW => ⟨rfl, muB_at (pl_left hP) hK (dl_left hD) U hU hW⟩⟩ rfl hn hsize hst (lv_room hroom) hdg hf) hS (fun q _ h => hF q h) hF (fun r u t H1 locs ht hvm hw hB hz1 hk1 hS => ?_)
  obtain ⟨hP1, hK1, hD1⟩ := hB
  rw [ht] at hP1
  obtain ⟨hP2, hD2⟩ := mu_join hP hD hk1 hF hP1 hD1
  have hw2 : r = v := hw
  rw [hw2]
  exact kk H1 locs hP2 hD2 hS
theorem f_mcv {nL index n maxL : Nat} {own C : String} {y : MethodName} {bytes : ByteArray} {ret : Option FieldType} {ws Ts : List Cond} {rm : Room} {b : Nat} {As st0 : List Value} (S : CallFix p m c cc nL s args Ts own) (hM : MuV l y ws rm (.ref b :: As) D w w1 tys H.size) (cw : CallW R s args own C index y bytes maxL ret ws rm 0 0 n) (hrc : ∃ cellB : Cell, H[b]? = some cellB ∧ cellB.vm.isStatics = false ∧ s.vm.findClass C = some cellB.cls) (hP : va_P D vwCl (w ++ z) H) (hK : va_K D vwCl tys s) (hD : va_D A (w ++ z)) (hS : va_S A s.heap H locs) (hA : ∀ q, s.heap.size ≤ q → A q) (hn : As.length = n) (hsize : ls.size = nL) (hst : st0 = As.reverse ++ .ref b :: rest) (hroom : (rest.map fun v => v.category).sum ≤ 8) (hdg : decode cc pc = .ok (.invokevirtual index, 3)) (hf : cells ≤ R.cells ∧ slots ≤ R.slots)
    (kk : ∀ (H1 : Heap) (locs1 : List Loc), va_P D vwCl (w1 ++ z) H1 → va_D A (w1 ++ z) → va_S A s.heap H1 locs1 → W p l e R s m args below meth c H1 locs1 cells slots Q (F0 m (pc + 3) ls (rest))) : W p l e R s m args below meth c H locs cells slots Q (F0 m pc ls st0) := by
  have hF := mu_free hD hS hA
  refine va_callv (va_runV (As := As) (rest := rest) S hM cw ⟨fun a U g mk q => ⟨q.1, muB_bl U g mk a q.2⟩, hrc, fun U hU hW => ⟨rfl, muB_at (pl_left hP) hK (dl_left hD) U hU hW⟩⟩ rfl hn hsize hst (lv_room hroom) hdg hf) hS (fun q _ h => hF q h) hF (fun u t H1 locs ht hvm hw hB hz1 hk1 hS => ?_)
  obtain ⟨hP1, hK1, hD1⟩ := hB
  rw [ht] at hP1
  obtain ⟨hP2, hD2⟩ := mu_join hP hD hk1 hF hP1 hD1
  
  
  exact kk H1 locs hP2 hD2 hS
theorem f_iast {cl : List vw_C} {ws : va_W} {a : Nat} {H0 : Heap} (hexec : p.tables.exec = Jvm.exec) (hb : c.code = cc) (hK : va_K D cl tys s) (hP : va_P D cl ws H) (hD : va_D A ws) (hS : va_S A H0 H locs) (q0 t0 : Nat) {cA : ClassId} {n : Nat} {f : Nat → Int32} (ha : ws[q0]? = some (a, .inl (cA, n, .inl f))) (ht : tys[t0]? = some (cA, .int)) {k : Nat} {x : Int32} (hk : k < n) (hn : n < 2 ^ 31) (hdg : decode cc pc = .ok (.iastore, 1))
    (kk : ∀ (H1 : Heap) (locs1 : List Loc), va_P D cl (ws.set q0 (a, .inl (cA, n, .inl (upd f k x)))) H1 → va_D A (ws.set q0 (a, .inl (cA, n, .inl (upd f k x)))) → va_S A H0 H1 locs1 → W p l e R s m args below meth c H1 locs1 cells slots Q (F0 m (pc + 1) ls rest)) : W p l e R s m args below meth c H locs cells slots Q (F0 m pc ls (.int x :: .int (nI k) :: .ref a :: rest)) := by
  refine va_iast hexec hb hK hP hD hS q0 t0 ha ht (vp_in_nI hk hn) hdg (fun H1 locs1 hP1 hD1 hS1 => ?_)
  rw [nI_clamp (Nat.lt_trans hk hn)] at hP1 hD1
  exact kk H1 locs1 hP1 hD1 hS1
theorem f_last {cl : List vw_C} {ws : va_W} {a : Nat} {H0 : Heap} (hexec : p.tables.exec = Jvm.exec) (hb : c.code = cc) (hK : va_K D cl tys s) (hP : va_P D cl ws H) (hD : va_D A ws) (hS : va_S A H0 H locs) (q0 t0 : Nat) {cA : ClassId} {n : Nat} {f : Nat → Int64} (ha : ws[q0]? = some (a, .inl (cA, n, .inr (.inl f)))) (ht : tys[t0]? = some (cA, .long)) {k : Nat} {x : Int64} (hk : k < n) (hn : n < 2 ^ 31) (hdg : decode cc pc = .ok (.lastore, 1))
    (kk : ∀ (H1 : Heap) (locs1 : List Loc), va_P D cl (ws.set q0 (a, .inl (cA, n, .inr (.inl (vp_updL f k x))))) H1 → va_D A (ws.set q0 (a, .inl (cA, n, .inr (.inl (vp_updL f k x))))) → va_S A H0 H1 locs1 → W p l e R s m args below meth c H1 locs1 cells slots Q (F0 m (pc + 1) ls rest)) : W p l e R s m args below meth c H locs cells slots Q (F0 m pc ls (.long x :: .int (nI k) :: .ref a :: rest)) := by
  refine va_last hexec hb hK hP hD hS q0 t0 ha ht (vp_in_nI hk hn) hdg (fun H1 locs1 hP1 hD1 hS1 => ?_)
  rw [nI_clamp (Nat.lt_trans hk hn)] at hP1 hD1
  exact kk H1 locs1 hP1 hD1 hS1
theorem f_zast {cl : List vw_C} {ws : va_W} {a : Nat} {H0 : Heap} (hexec : p.tables.exec = Jvm.exec) (hb : c.code = cc) (hK : va_K D cl tys s) (hP : va_P D cl ws H) (hD : va_D A ws) (hS : va_S A H0 H locs) (q0 t0 : Nat) {cA : ClassId} {n : Nat} {f : Nat → Int32} (ha : ws[q0]? = some (a, .inl (cA, n, .inl f))) (ht : tys[t0]? = some (cA, .boolean)) {k : Nat} {b : Bool} (hk : k < n) (hn : n < 2 ^ 31) (hdg : decode cc pc = .ok (.bastore, 1))
    (kk : ∀ (H1 : Heap) (locs1 : List Loc), va_P D cl (ws.set q0 (a, .inl (cA, n, .inl (upd f k (bI b))))) H1 → va_D A (ws.set q0 (a, .inl (cA, n, .inl (upd f k (bI b))))) → va_S A H0 H1 locs1 → W p l e R s m args below meth c H1 locs1 cells slots Q (F0 m (pc + 1) ls rest)) : W p l e R s m args below meth c H locs cells slots Q (F0 m pc ls (.int (bI b) :: .int (nI k) :: .ref a :: rest)) := by
  refine va_zast hexec hb hK hP hD hS q0 t0 ha ht (vp_in_nI hk hn) hdg (fun H1 locs1 hP1 hD1 hS1 => ?_)
  rw [nI_clamp (Nat.lt_trans hk hn), bI_vnar] at hP1 hD1
  exact kk H1 locs1 hP1 hD1 hS1
end FM
