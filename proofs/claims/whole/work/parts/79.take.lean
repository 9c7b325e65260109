/-! a9 break is taken -/
theorem P_swap {D : va_G} {cl : List vw_C} {wa wb : va_W} {H : Heap} (h9 : va_P D cl (wa ++ wb) H) : va_P D cl (wb ++ wa) H := va_P.app (pl_right h9) (pl_left h9)
theorem D_swap {A : Nat → Prop} {wa wb : va_W} (h9 : va_D A (wa ++ wb)) : va_D A (wb ++ wa) := va_D.app (dl_right h9) (dl_left h9) (fun _ _ _ _ hx hy e9 => dl_apart h9 hy hx e9.symm)
theorem P_mid {D : va_G} {cl : List vw_C} {wa wb wc : va_W} {H : Heap} (h9 : va_P D cl (wa ++ (wb ++ wc)) H) : va_P D cl (wb ++ (wa ++ wc)) H := va_P.app (pl_left (pl_right h9)) (va_P.app (pl_left h9) (pl_right (pl_right h9)))
theorem D_mid {A : Nat → Prop} {wa wb wc : va_W} (h9 : va_D A (wa ++ (wb ++ wc))) : va_D A (wb ++ (wa ++ wc)) := by
  have h1 : va_D A (wa ++ wc) := va_D.app (dl_left h9) (dl_right (dl_right h9)) (fun i9 j9 x9 y9 hx hy e9 => dl_apart h9 hx (wr_get hy) e9)
  refine va_D.app (dl_left (dl_right h9)) h1 (fun i9 j9 x9 y9 hx hy e9 => ?_)
  rcases Nat.lt_or_ge j9 wa.length with g9 | g9
  · rw [List.getElem?_append_left g9] at hy
    exact dl_apart h9 hy (wl_get hx) e9.symm
  · rw [List.getElem?_append_right g9] at hy
    exact dl_apart (dl_right h9) hx hy e9
abbrev LU : Type := Int32 × Nat × ClassId × Nat × (Nat → Nat) × va_W × List (ClassId × FieldType)
def luZ (t0 : Nat) (S : St) (u9 : LU) : Prop := lsZ t0 u9.2.1 (sTn S) (foF u9.2.2.2.2.1 S) u9.2.2.1 u9.2.2.2.1 u9.2.2.2.2.2.1 u9.2.2.2.2.2.2
abbrev luW (ad : Nat → Nat) (cy : Nat → ClassId) (S : St) (u9 : LU) : va_W := tW ad cy S u9.1 u9.2.1 (u9.2.2.2.2.2.1 ++ tw u9.2.2.2.2.1 S)
abbrev luT (cy : Nat → ClassId) (u9 : LU) : List (ClassId × FieldType) := xty cy ++ u9.2.2.2.2.2.2
theorem luZ_lst {t0 : Nat} {S : St} {u9 : LU} (h9 : luZ t0 S u9) : lstZ S u9.2.1 u9.2.2.2.1 u9.2.2.1 u9.2.2.2.2.1 (u9.2.2.2.2.2.1 ++ tw u9.2.2.2.2.1 S) u9.2.2.2.2.2.2 := by
  rcases h9 with ⟨h1, h2, h3, h4, h5⟩ | ⟨h0, h1, h2, h3, h4, h5⟩
  · exact Or.inl h1
  · refine Or.inr ⟨?_, h4, h1, by omega⟩
    rw [h3]
    rfl
def mnB : State → Prop := fun U => va_Nw (.methodLinkNest "FaultEvidence" 255 yX0_init "FaultEvidence") U ∧ va_Nw (.castable "FaultEvidence$Taken" "java/lang/Object") U
theorem mnB_bl (U : State) (g9 : JFrame) (mk : MethodId) (a9 : Array Value) (h9 : mnB U) : mnB (U.calling g9 mk a9) := ⟨h9.1.same rfl rfl, h9.2.same rfl rfl⟩
theorem mnB_at {s9 U : State} (h9 : mnB s9) (hW : s9.WarmedH U.vm) : mnB U := ⟨h9.1.warmM hW, h9.2.warmC hW⟩
def xsB (mi t0 : Nat) (A : Nat → Prop) : State → Prop := fun U => jdB mi U ∧ stD t0 A U ∧ nestB U ∧ mnB U
theorem xsB_bl {mi t0 : Nat} {A : Nat → Prop} (U : State) (g9 : JFrame) (mk : MethodId) (a9 : Array Value) (h9 : xsB mi t0 A U) : xsB mi t0 A (U.calling g9 mk a9) := ⟨jdB_moved (u9 := U) (U9 := U.calling g9 mk a9) (Vm.Alike.refl U.vm) h9.1, stD_bl U g9 mk a9 h9.2.1, nestB_bl U g9 mk a9 h9.2.2.1, mnB_bl U g9 mk a9 h9.2.2.2⟩
theorem xsB_at {mi t0 : Nat} {A A1 : Nat → Prop} {s9 : State} {H : Heap} {locs : List Loc} (h9 : xsB mi t0 A s9) (hS : va_S A s9.heap H locs) (hA : ∀ q9, A1 q9 → A q9) : ∀ U : State, U.heap = H → s9.WarmedH U.vm → xsB mi t0 A1 U := fun U hU hW => ⟨jdB_moved hW.alike h9.1, stD_at h9.2.1 hS hA U hU hW, nestB_at h9.2.2.1 hW, mnB_at h9.2.2.2 hW⟩
abbrev LuQ (D : va_G) (ad : Nat → Nat) (cy : Nat → ClassId) (t0 : Nat) (S1 : St) (v9 : Int64) (A : Nat → Prop) : Array Value → State → Outcome → State → Prop := va_Ql (fun z9 (u9 : LU) => z9 = v9 ∧ luZ t0 S1 u9) (fun u9 t9 => muQ D (luW ad cy S1 u9) (luT cy u9) A t9) A
abbrev LuL (l9 : Launch) (y9 : MethodName) (ws : List Cond) (rm : Room) (As : List Value) (dC : Nat → ClassId) (dI : Nat → Nat → Nat) (ad : Nat → Nat) (cy : Nat → ClassId) (mi t0 : Nat) (S : St) (u9 : LU) (S1 : St) (sz : Nat) (v9 : Int64) : Prop := Met l9 y9 ws rm (va_Pc As (fun U => muB (dC, dI) (luW ad cy S u9) (luT cy u9) sz U ∧ xsB mi t0 (va_A (luW ad cy S u9) sz) U)) (LuQ (dC, dI) ad cy t0 S1 v9 (va_A (luW ad cy S u9) sz)) 2 1007 (va_A (luW ad cy S u9) sz)
theorem ou_no {S : St} {k9 q9 : Nat} (h9 : ¬ sStk S k9 - cst S k9 q9 < sRul S 4) : ouG S k9 q9 = sOut S := by
  funext j9
  unfold ouG va_up
  split
  · next e9 => rw [e9]; simp [h9]
  · rfl
theorem ou_yes {S : St} {k9 q9 : Nat} (h9 : sStk S k9 - cst S k9 q9 < sRul S 4) : ouG S k9 q9 = va_up (sOut S) k9 true := by
  unfold ouG
  simp [h9]
theorem tw_snoc {S : St} {k9 q9 fa : Nat} {fb y9 : Int32} {pa : Nat → Nat} {oa : Nat} : tw (va_up pa (sTn S) oa) (accS S k9 q9 fa fb y9) = tw pa S ++ [(oa, .inr (1, [.int (nI q9), .int (nI fa), .int fb, .int y9, .int (nI (sHh S)), .long (lN (cst S k9 q9)), .long (lN (shr S k9 q9 y9))]))] := by
  unfold tw
  show (List.range (sTn S + 1)).map _ = _
  rw [List.range_succ, List.map_append]
  congr 1
  · apply List.map_congr_left
    intro i9 hi
    have hi2 : i9 ≠ sTn S := by
      have := List.mem_range.mp hi
      omega
    show ((va_up pa (sTn S) oa i9, .inr (1, [Value.int (nI (va_up (sTk S) (sTn S) q9 i9)), .int (nI (va_up (sTa S) (sTn S) fa i9)), .int (va_up (sTb S) (sTn S) fb i9), .int (va_up (sTy S) (sTn S) y9 i9), .int (nI (va_up (sTt S) (sTn S) (sHh S) i9)), .long (lN (va_up (sTc S) (sTn S) (cst S k9 q9) i9)), .long (lN (va_up (sTs S) (sTn S) (shr S k9 q9 y9) i9))])) : Nat × va_E) = _
    simp only [va_upN hi2]
  · show [((va_up pa (sTn S) oa (sTn S), .inr (1, [Value.int (nI (va_up (sTk S) (sTn S) q9 (sTn S))), .int (nI (va_up (sTa S) (sTn S) fa (sTn S))), .int (va_up (sTb S) (sTn S) fb (sTn S)), .int (va_up (sTy S) (sTn S) y9 (sTn S)), .int (nI (va_up (sTt S) (sTn S) (sHh S) (sTn S))), .long (lN (va_up (sTc S) (sTn S) (cst S k9 q9) (sTn S))), .long (lN (va_up (sTs S) (sTn S) (shr S k9 q9 y9) (sTn S)))])) : Nat × va_E)] = _
    simp only [va_upS]
theorem fo_snoc {S : St} {k9 q9 fa : Nat} {fb y9 : Int32} {pa : Nat → Nat} {oa : Nat} : va_up (foF pa S) (sTn S) (some oa) = foF (va_up pa (sTn S) oa) (accS S k9 q9 fa fb y9) := by
  funext i9
  show va_up (foF pa S) (sTn S) (some oa) i9 = if i9 < sTn S + 1 then some (va_up pa (sTn S) oa i9) else none
  by_cases h9 : i9 = sTn S
  · rw [h9, va_upS, va_upS, if_pos (by omega)]
  · rw [va_upN h9, va_upN h9]
    unfold foF
    by_cases h2 : i9 < sTn S
    · rw [if_pos h2, if_pos (by omega)]
    · rw [if_neg h2, if_neg (by omega)]
section FN9
variable {p9 : Program} {l9 : Launch} {e9 : Env} {R : Room} {s9 : State} {m9 : MethodId} {args : Array Value} {below : List Frame} {meth : Method} {c9 : Code} {H : Heap} {locs : List Loc} {cells slots : Nat} {Q : State → Prop} {cc : ByteArray} {pc : Nat} {ls : Array Slot} {rest : List Value} {D : va_G} {w9 w1 z9 : va_W} {tys tz : List (ClassId × FieldType)} {A : Nat → Prop}
theorem f_mcN {nL index n9 maxL : Nat} {own host : String} {y9 : MethodName} {bytes : ByteArray} {ws Ts : List Cond} {rm : Room} {b9 : Nat} {As st0 : List Value} (S : CallFix p9 m9 c9 cc nL s9 args Ts own) (hM : MuV l9 y9 ws rm (.ref b9 :: As) D w9 w1 tz H.size) (cw : va_CN R s9 args own index y9 host bytes maxL none ws rm 0 0 n9 ∧ y9.name = "<init>" ∧ (Cond.instanceMethod y9).before args s9 = true) (hP : va_P D vwCl (w9 ++ z9) H) (hK : va_K D vwCl tz s9) (hD : va_D A (w9 ++ z9)) (hS : va_S A s9.heap H locs) (hA : ∀ q9, s9.heap.size ≤ q9 → A q9) (hn : As.length = n9) (hsize : ls.size = nL) (hst : st0 = As.reverse ++ .ref b9 :: rest) (hroom : (rest.map fun v9 => v9.category).sum ≤ 8) (hdg : decode cc pc = .ok (.invokespecial index, 3)) (hf : cells ≤ R.cells ∧ slots ≤ R.slots)
    (kk : ∀ (H1 : Heap) (locs1 : List Loc), va_P D vwCl (w1 ++ z9) H1 → va_D A (w1 ++ z9) → va_S A s9.heap H1 locs1 → W p9 l9 e9 R s9 m9 args below meth c9 H1 locs1 cells slots Q (F0 m9 (pc + 3) ls rest)) : W p9 l9 e9 R s9 m9 args below meth c9 H locs cells slots Q (F0 m9 pc ls st0) := by
  have hF := mu_free hD hS hA
  refine va_callv (va_runIN (As := As) (rest := rest) S hM cw ⟨fun a9 U g9 mk q9 => ⟨q9.1, muB_bl U g9 mk a9 q9.2⟩, fun U hU hW => ⟨rfl, muB_at (pl_left hP) hK (dl_left hD) U hU hW⟩⟩ rfl hn hsize hst (lv_room hroom) hdg hf) hS (fun q9 _ h9 => hF q9 h9) hF (fun u9 t9 H1 locs ht hvm hw hB hz1 hk1 hS => ?_)
  obtain ⟨hP1, hK1, hD1⟩ := hB
  rw [ht] at hP1
  obtain ⟨hP2, hD2⟩ := mu_join hP hD hk1 hF hP1 hD1
  exact kk H1 locs hP2 hD2 hS
end FN9

theorem k_app {D : va_G} {cl : List vw_C} {ta tb : List (ClassId × FieldType)} {U : State} (h1 : va_K D cl ta U) (h2 : va_K D cl tb U) : va_K D cl (ta ++ tb) U := ⟨h1.1, fun k9 q9 hk => by
  rcases Nat.lt_or_ge k9 ta.length with g9 | g9
  · rw [List.getElem?_append_left g9] at hk
    exact h1.2 k9 q9 hk
  · rw [List.getElem?_append_right g9] at hk
    exact h2.2 _ q9 hk⟩
theorem kl_right {D : va_G} {cl : List vw_C} {ta tb : List (ClassId × FieldType)} {U : State} (h9 : va_K D cl (ta ++ tb) U) : va_K D cl tb U := ⟨h9.1, fun k9 q9 hk => h9.2 (ta.length + k9) q9 (by
  rw [List.getElem?_append_right (Nat.le_add_right _ _), Nat.add_sub_cancel_left]
  exact hk)⟩

abbrev rm_X1_take : Room := { frames := 7, cells := 2, slots := 1007, locals := 171 }
set_option maxHeartbeats 4000000 in
set_option maxRecDepth 100000 in
theorem c_X1_take (l9 : Launch) (dC : Nat → ClassId) (dI : Nat → Nat → Nat) (ad : Nat → Nat) (cy : Nat → ClassId) (S : St) (mc : Int32) (ed : Nat) (cO : ClassId) (nn : Nat) (pa : Nat → Nat) (Za : va_W) (tz : List (ClassId × FieldType)) (mi t0 sz : Nat) (q9 a9 : Nat) (fb y9 : Int32) (I : Inv S) (hT : sTn S ≤ 512) (hZ : lsZ t0 ed (sTn S) (foF pa S) cO nn Za tz) (hq : q9 < 3) (ha : a9 < sVn S) (hnn : isNN S y9 = true) : LuL l9 yX1_take wsX1_take rm_X1_take [.ref (ad 0), .int (nI q9), .int (nI a9), .int fb, .int y9] dC dI ad cy mi t0 S (mc, ed, cO, nn, pa, Za, tz) (accS S (sVts S a9 / 256 % 8) q9 a9 fb y9) sz (lN (cst S (sVts S a9 / 256 % 8) q9)) := by
  refine Ro_start (cc := cX1_take) (maxL := 10) (ret := (some .long)) (lv := [(0, .ref (ad 0)), (1, .int (nI q9)), (2, .int (nI a9)), (3, .int fb), (4, .int y9)]) (by decide) rfl (Nat.le_of_ble_eq_true rfl) rfl ?_
  intro pp ee ss mm aa bl me co hx hb hr hml hts hown hlocks hnm hB ls hl
  obtain ⟨⟨hsz, hP, hK, hD0⟩, hL⟩ := hB
  subst hsz
  have hD := hD0.self (sz := ss.heap.size)
  generalize hAe : va_A (luW ad cy S (mc, ed, cO, nn, pa, Za, tz)) ss.heap.size = A at hD hL ⊢
  have hA : ∀ q9 : Nat, ss.heap.size ≤ q9 → A q9 := fun q9 h9 => by rw [← hAe]; exact Or.inr h9
  have hS : va_S A ss.heap ss.heap [] := va_S.rf
  have hK : va_K (dC, dI) vwCl (xty cy ++ tz) ss := hK
  have hP : va_P (dC, dI) vwCl ((xwr ad cy (nI (sNn S)) (nI (sHh S)) (nI (sVn S)) (lN (sBrn S)) (fun jj => lN (sRul S jj)) (fun jj => lN (sStk S jj)) (fun jj => lN (sPrs S jj)) (fun jj => bI (sOut S jj)) (fun jj => lN (sWts S jj)) (fun jj => lN (sTot S jj)) (fun jj => nI (sVts S jj)) (fun jj => nI (bbF S jj)) (fun jj => nI (cbF S jj))) ++ (lwO (ad 10) mc ed (sTn S) :: (Za ++ tw pa S))) ss.heap := hP
  have hD : va_D A ((xwr ad cy (nI (sNn S)) (nI (sHh S)) (nI (sVn S)) (lN (sBrn S)) (fun jj => lN (sRul S jj)) (fun jj => lN (sStk S jj)) (fun jj => lN (sPrs S jj)) (fun jj => bI (sOut S jj)) (fun jj => lN (sWts S jj)) (fun jj => lN (sTot S jj)) (fun jj => nI (sVts S jj)) (fun jj => nI (bbF S jj)) (fun jj => nI (cbF S jj))) ++ (lwO (ad 10) mc ed (sTn S) :: (Za ++ tw pa S))) := hD
  generalize hHe : ss.heap = H at hP
  have hS : va_S A ss.heap H [] := by rw [← hHe]; exact hS
  generalize hLe : ([] : List Loc) = locs at hS ⊢
  have hin : ∀ w9 ∈ wsX10, w9 ∈ wsX1_take := fun w9 h9 => List.mem_cons_of_mem _ (List.mem_append_left _ (List.mem_append_left _ (List.mem_append_right _ h9)))
  have hin0 : ∀ w9 ∈ wsX00, w9 ∈ wsX1_take := fun w9 h9 => List.mem_cons_of_mem _ (List.mem_append_left _ (List.mem_append_right _ h9))
  have hf_17 := hts (.fieldLink RX1 17 "FaultEvidence" "rules" "[J") (by decide +kernel)
  have hf_21 := hts (.fieldLink RX1 21 "FaultEvidence" "stakes" "[J") (by decide +kernel)
  have hf_24 := hts (.fieldLink RX1 24 "FaultEvidence" "purses" "[J") (by decide +kernel)
  have hf_27 := hts (.fieldLink RX1 27 "FaultEvidence" "out" "[Z") (by decide +kernel)
  have hf_35 := hts (.fieldLink RX1 35 "FaultEvidence" "currentHeight" "I") (by decide +kernel)
  have hf_44 := hts (.fieldLink RX1 44 "FaultEvidence" "votes" "[I") (by decide +kernel)
  have hf_60 := hts (.fieldLink RX1 60 "FaultEvidence" "takenBreaks" "Ljava/util/ArrayList;") (by decide +kernel)
  have hf_64 := hts (.fieldLink RX1 64 "FaultEvidence" "burnt" "J") (by decide +kernel)
  have hc_15 := hts (.constantLong RX1 15 (10)) (by decide +kernel)
  have hc_253 := hts (.constantLong RX1 253 (1000)) (by decide +kernel)
  have I1 := I.n
  have hv := I.v ha
  have hk8 : (sVts S a9 / 256 % 8) < 8 := Nat.mod_lt _ (by decide)
  have Is := I.s (sVts S a9 / 256 % 8)
  have hcl := cst_le I (k := (sVts S a9 / 256 % 8)) hq
  have hrq := I.r
  have hrq2 := I.r.1 q9 hq
  have join_118 : ∀ (w9 : Nat), w9 = shr S (sVts S a9 / 256 % 8) q9 y9 → ∀ (H : Heap) (locs : List Loc), va_P (dC, dI) vwCl (xw ad cy (accS S (sVts S a9 / 256 % 8) q9 a9 fb y9) ++ (lwO (ad 10) mc ed (sTn S) :: (Za ++ tw pa S))) H → va_D A (xw ad cy (accS S (sVts S a9 / 256 % 8) q9 a9 fb y9) ++ (lwO (ad 10) mc ed (sTn S) :: (Za ++ tw pa S))) → va_S A ss.heap H locs → ∀ ls : Array Slot, lv_has ls 10 [(0, .ref (ad 0)), (1, .int (nI q9)), (2, .int (nI a9)), (3, .int fb), (4, .int y9), (5, .int (nI (sVts S a9 / 256 % 8))), (6, .long (lN (cst S (sVts S a9 / 256 % 8) q9))), (8, .long (lN w9))] → W pp l9 ee rm_X1_take ss mm aa bl me co H locs 0 0 (MQ bl (LuQ (dC, dI) ad cy t0 (accS S (sVts S a9 / 256 % 8) q9 a9 fb y9) (lN (cst S (sVts S a9 / 256 % 8) q9)) A) aa ss 2 1007 A) (F0 mm 118 ls []) := by
    intro w9 hw H locs hP hD hS ls hl
    subst hw
    refine lv_aload_n hx hb dX1_take_118 rfl (lv_at hl 0 rfl) ?_
    refine va_get (D := (dC, dI)) (ci := 2) (v := .ref (ad 10)) (C := RX1) (T := TX1) (N := 14) hx hb hts hin hown hK hP 0 rfl rfl 12 (by decide) hf_60 (fun _ h9 => h9) rfl dX1_take_119 ?_
    refine va_new (D := (dC, dI)) (C := RX0) (T := TX0) (N := 7) (ci := 1) (fs := [.int 0, .int 0, .int 0, .int 0, .int 0, .long 0, .long 0]) hx hb hts hin0 tyX0 tyX0_ok hown (hts (.classLink RX1 182 RX0) (by decide +kernel)) (hts (.instantiable RX0 7) (by decide +kernel)) (hts (.initialized RX0) (by decide +kernel)) hK hP hD hS hA rfl (fun i9 hi => match i9, hi with
      | 0, _ => rfl
      | 1, _ => rfl
      | 2, _ => rfl
      | 3, _ => rfl
      | 4, _ => rfl
      | 5, _ => rfl
      | 6, _ => rfl
      | i9 + 7, hi => absurd hi (by omega)) (Nat.le_of_ble_eq_true rfl) (Nat.le_of_ble_eq_true rfl) dX1_take_122 (fun oa H hP hD hS => ?_)
    have hP : va_P (dC, dI) vwCl ([(oa, .inr (1, [.int 0, .int 0, .int 0, .int 0, .int 0, .long 0, .long 0]))] ++ (xw ad cy (accS S (sVts S a9 / 256 % 8) q9 a9 fb y9) ++ (lwO (ad 10) mc ed (sTn S) :: (Za ++ tw pa S)))) H := P_swap hP
    have hD : va_D A ([(oa, .inr (1, [.int 0, .int 0, .int 0, .int 0, .int 0, .long 0, .long 0]))] ++ (xw ad cy (accS S (sVts S a9 / 256 % 8) q9 a9 fb y9) ++ (lwO (ad 10) mc ed (sTn S) :: (Za ++ tw pa S)))) := D_swap hD
    refine lv_dup hx hb dX1_take_125 rfl ?_
    refine lv_iload_n hx hb dX1_take_126 rfl (lv_at hl 1 rfl) ?_
    refine lv_iload_n hx hb dX1_take_127 rfl (lv_at hl 2 rfl) ?_
    refine lv_iload_n hx hb dX1_take_128 rfl (lv_at hl 3 rfl) ?_
    refine lv_iload hx hb dX1_take_129 (lv_at hl 4 rfl) ?_
    refine lv_aload_n hx hb dX1_take_131 rfl (lv_at hl 0 rfl) ?_
    refine va_get (D := (dC, dI)) (ci := 2) (v := .int (nI (sHh S))) (C := RX1) (T := TX1) (N := 14) hx hb hts hin hown hK hP 1 rfl rfl 5 (by decide) hf_35 (fun _ h9 => h9) rfl dX1_take_132 ?_
    refine lv_lload hx hb dX1_take_135 (lv_at hl 6 rfl) ?_
    refine lv_lload hx hb dX1_take_137 (lv_at hl 7 rfl) ?_
    have hK0 : va_K (dC, dI) vwCl [] ss := hK.sub [] rfl
    refine f_mcN (w9 := [(oa, .inr (1, [.int 0, .int 0, .int 0, .int 0, .int 0, .long 0, .long 0]))]) (z9 := (xw ad cy (accS S (sVts S a9 / 256 % 8) q9 a9 fb y9) ++ (lwO (ad 10) mc ed (sTn S) :: (Za ++ tw pa S)))) (As := [.int (nI q9), .int (nI a9), .int fb, .int y9, .int (nI (sHh S)), .long (lN (cst S (sVts S a9 / 256 % 8) q9)), .long (lN (shr S (sVts S a9 / 256 % 8) q9 y9))]) (rest := [.ref oa, .ref (ad 10)]) ⟨hx, hb, hml, hown, hts⟩ (c_X0_init l9 dC dI oa H.size (nI q9) (nI a9) fb y9 (nI (sHh S)) (lN (cst S (sVts S a9 / 256 % 8) q9)) (lN (shr S (sVts S a9 / 256 % 8) q9 y9))) ⟨va_cnB 7 hts gX1_take_X0_init_n255 rfl rfl rfl hL.2.2.2.1 (hts (.initialized RX0) (by decide +kernel)) (by decide +kernel) ⟨Nat.le_of_ble_eq_true rfl, Nat.le_of_ble_eq_true rfl⟩, rfl, hts (.instanceMethod yX0_init) (by decide +kernel)⟩ hP hK0 hD hS hA rfl hl.1 rfl (Nat.le_of_ble_eq_true rfl) dX1_take_139 ⟨Nat.le_of_ble_eq_true rfl, Nat.le_of_ble_eq_true rfl⟩ (fun H locs hP hD hS => ?_)
    have hP : va_P (dC, dI) vwCl (lwO (ad 10) mc ed (sTn S) :: Za ++ (((oa, .inr (1, [.int (nI q9), .int (nI a9), .int fb, .int y9, .int (nI (sHh S)), .long (lN (cst S (sVts S a9 / 256 % 8) q9)), .long (lN (shr S (sVts S a9 / 256 % 8) q9 y9))])) :: xw ad cy (accS S (sVts S a9 / 256 % 8) q9 a9 fb y9)) ++ tw pa S)) H := P_mid (wa := (oa, .inr (1, [.int (nI q9), .int (nI a9), .int fb, .int y9, .int (nI (sHh S)), .long (lN (cst S (sVts S a9 / 256 % 8) q9)), .long (lN (shr S (sVts S a9 / 256 % 8) q9 y9))])) :: xw ad cy (accS S (sVts S a9 / 256 % 8) q9 a9 fb y9)) (wb := lwO (ad 10) mc ed (sTn S) :: Za) (wc := tw pa S) hP
    have hD : va_D A (lwO (ad 10) mc ed (sTn S) :: Za ++ (((oa, .inr (1, [.int (nI q9), .int (nI a9), .int fb, .int y9, .int (nI (sHh S)), .long (lN (cst S (sVts S a9 / 256 % 8) q9)), .long (lN (shr S (sVts S a9 / 256 % 8) q9 y9))])) :: xw ad cy (accS S (sVts S a9 / 256 % 8) q9 a9 fb y9)) ++ tw pa S)) := D_mid (wa := (oa, .inr (1, [.int (nI q9), .int (nI a9), .int fb, .int y9, .int (nI (sHh S)), .long (lN (cst S (sVts S a9 / 256 % 8) q9)), .long (lN (shr S (sVts S a9 / 256 % 8) q9 y9))])) :: xw ad cy (accS S (sVts S a9 / 256 % 8) q9 a9 fb y9)) (wb := lwO (ad 10) mc ed (sTn S) :: Za) (wc := tw pa S) hD
    have hF := mu_free hD hS hA
    have hKz : va_K (dC, dI) vwCl tz ss := kl_right hK
    have hany : ∀ (i9 v9 : Nat) (fs : List Value), (((oa, .inr (1, [.int (nI q9), .int (nI a9), .int fb, .int y9, .int (nI (sHh S)), .long (lN (cst S (sVts S a9 / 256 % 8) q9)), .long (lN (shr S (sVts S a9 / 256 % 8) q9 y9))])) :: xw ad cy (accS S (sVts S a9 / 256 % 8) q9 a9 fb y9)) ++ tw pa S)[i9]? = some (v9, .inr (1, fs)) → ∀ U : State, U.heap = H → ss.WarmedH U.vm → va_Any "java/lang/Object" U U.heap v9 ∧ ¬ va_A (lwO (ad 10) mc ed (sTn S) :: Za) H.size v9 := by
      intro i9 v9 fs hi U hU hW
      have h1 := (pl_right hP) i9 _ hi
      refine ⟨?_, ?_⟩
      · rw [hU]
        exact any_moved hW.alike (va_rAny hK (pl_right hP) hi rfl (vb_asgC hL.2.2.2.2))
      · rintro (⟨j9, e9, hj⟩ | h9)
        · exact dl_apart hD hj hi rfl
        · have := h1.lt
          omega
    refine va_calli (va_runV (As := [.ref oa]) (rest := []) ⟨hx, hb, hml, hown, hts⟩ (c_add1 l9 dC dI (ad 10) mc ed (sTn S) (foF pa S) cO nn oa Za tz mi t0 H.size hZ (by omega)) (cwV 1 hts gX1_take_Jx4a65c_add_9ea2d rfl rfl rfl (by decide +kernel) ⟨Nat.le_of_ble_eq_true rfl, Nat.le_of_ble_eq_true rfl⟩) ⟨fun a9 U9 g9 mk q9 => ⟨q9.1, muB_bl U9 g9 mk a9 q9.2.1, lsB_bl U9 g9 mk a9 q9.2.2.1, q9.2.2.2⟩, va_recv hK hP (ci := 0) (q0 := 0) rfl rfl, fun U9 hU hW => ⟨rfl, muB_at (pl_left hP) hKz (dl_left hD) U9 hU hW, ⟨jdB_moved hW.alike hL.1, stD_at hL.2.1 hS hF U9 hU hW, fun i9 v9 hv => ?_⟩, fun i9 v9 hv => ?_⟩⟩ rfl rfl hl.1 rfl (lv_room (Nat.le_of_ble_eq_true rfl)) dX1_take_142 ⟨Nat.le_of_ble_eq_true rfl, Nat.le_of_ble_eq_true rfl⟩) hS (fun q9 _ h9 => hF q9 h9) hF (fun rr u9 t8 H1 locs ht hvm hw hB hz1 hk1 hS => ?_)
    · unfold foF at hv
      split at hv
      · next hi =>
        cases hv
        refine hany (11 + i9) _ (tfs S i9) ?_ U9 hU hW
        exact (wr_get (w := (oa, .inr (1, [.int (nI q9), .int (nI a9), .int fb, .int y9, .int (nI (sHh S)), .long (lN (cst S (sVts S a9 / 256 % 8) q9)), .long (lN (shr S (sVts S a9 / 256 % 8) q9 y9))])) :: xw ad cy (accS S (sVts S a9 / 256 % 8) q9 a9 fb y9)) (tw_get hi))
      · cases hv
    · cases hv
      exact hany 0 _ _ rfl U9 hU hW
    obtain ⟨hP1, hK1, hD1⟩ := hB
    rw [ht] at hP1
    obtain ⟨hP2, hD2⟩ := mu_join hP hD hk1 hF hP1 hD1
    have hP3 := P_swap (wa := [(oa, .inr (1, [.int (nI q9), .int (nI a9), .int fb, .int y9, .int (nI (sHh S)), .long (lN (cst S (sVts S a9 / 256 % 8) q9)), .long (lN (shr S (sVts S a9 / 256 % 8) q9 y9))]))]) (P_mid (wb := (oa, .inr (1, [.int (nI q9), .int (nI a9), .int fb, .int y9, .int (nI (sHh S)), .long (lN (cst S (sVts S a9 / 256 % 8) q9)), .long (lN (shr S (sVts S a9 / 256 % 8) q9 y9))])) :: xw ad cy (accS S (sVts S a9 / 256 % 8) q9 a9 fb y9)) hP2)
    have hD3 := D_swap (wa := [(oa, .inr (1, [.int (nI q9), .int (nI a9), .int fb, .int y9, .int (nI (sHh S)), .long (lN (cst S (sVts S a9 / 256 % 8) q9)), .long (lN (shr S (sVts S a9 / 256 % 8) q9 y9))]))]) (D_mid (wb := (oa, .inr (1, [.int (nI q9), .int (nI a9), .int fb, .int y9, .int (nI (sHh S)), .long (lN (cst S (sVts S a9 / 256 % 8) q9)), .long (lN (shr S (sVts S a9 / 256 % 8) q9 y9))])) :: xw ad cy (accS S (sVts S a9 / 256 % 8) q9 a9 fb y9)) hD2)
    have hWe : (xw ad cy (accS S (sVts S a9 / 256 % 8) q9 a9 fb y9) ++ ([lwO (ad 10) (mc + 1) u9.1 (sTn S + 1), lwA u9.1 u9.2.1 u9.2.2 (va_up (foF pa S) (sTn S) (some oa))] ++ tw pa S)) ++ [(oa, .inr (1, [.int (nI q9), .int (nI a9), .int fb, .int y9, .int (nI (sHh S)), .long (lN (cst S (sVts S a9 / 256 % 8) q9)), .long (lN (shr S (sVts S a9 / 256 % 8) q9 y9))]))] = luW ad cy (accS S (sVts S a9 / 256 % 8) q9 a9 fb y9) (mc + 1, u9.1, u9.2.1, u9.2.2, va_up pa (sTn S) oa, [lwA u9.1 u9.2.1 u9.2.2 (foF (va_up pa (sTn S) oa) (accS S (sVts S a9 / 256 % 8) q9 a9 fb y9))], [tO u9.2.1]) := by
      rw [fo_snoc (k9 := (sVts S a9 / 256 % 8)) (q9 := q9) (fa := a9) (fb := fb) (y9 := y9), List.append_assoc, List.append_assoc, ← tw_snoc]
      rfl
    have hP4 := hWe ▸ hP3
    have hD4 := hWe ▸ hD3
    have hK2 : va_K (dC, dI) vwCl (xty cy ++ [tO u9.2.1]) ss := k_app (kl_left hK) (va_K.moved (Vm.Alike.symm hvm) hK1)
    refine lv_pop hx hb dX1_take_145 rfl ?_
    refine lv_lload hx hb dX1_take_146 (lv_at hl 6 rfl) ?_
    refine W.widen (k := 2) (n := 1007) (Nat.le_of_ble_eq_true rfl) (Nat.le_of_ble_eq_true rfl) ?_
    exact W.lret hx hb hr (fun t9 ht hW => ⟨⟨lN (cst S (sVts S a9 / 256 % 8) q9), (mc + 1, u9.1, u9.2.1, u9.2.2, va_up pa (sTn S) oa, [lwA u9.1 u9.2.1 u9.2.2 (foF (va_up pa (sTn S) oa) (accS S (sVts S a9 / 256 % 8) q9 a9 fb y9))], [tO u9.2.1]), rfl, ⟨rfl, Or.inr ⟨Nat.lt_of_le_of_lt (Nat.zero_le _) hw.2.1, hw.2.1, hw.2.2, rfl, rfl, fun i9 hi => if_neg (Nat.not_lt.mpr hi)⟩⟩, by rw [ht]; exact hP4, va_K.moved hW.alike hK2, hD4⟩, hS.F ht⟩) hS.2.2 dX1_take_148 hlocks
  rcases (show y9.toInt = -1 ∨ isNd S y9 = true by simpa [isNN] using hnn) with hyn | hyn
  · have hsh : shr S (sVts S a9 / 256 % 8) q9 y9 = 0 := by unfold shr; rw [if_pos hyn]
    have hpg : prG S (sVts S a9 / 256 % 8) q9 y9 = sPrs S := by unfold prG; rw [if_pos hyn]
    refine lv_aload_n hx hb dX1_take_0 rfl (lv_at hl 0 rfl) ?_
    refine va_get (D := (dC, dI)) (ci := 2) (v := .ref (ad 7)) (C := RX1) (T := TX1) (N := 14) hx hb hts hin hown hK hP 0 rfl rfl 8 (by decide) hf_44 (fun _ h9 => h9) rfl dX1_take_1 ?_
    refine lv_iload_n hx hb dX1_take_4 rfl (lv_at hl 2 rfl) ?_
    refine f_iald hx hb hK hP 7 6 rfl rfl (k := a9) (by omega) (by decide) (v := (nI (sVts S a9))) (rfl) dX1_take_5 ?_
    refine f_cSi (As := [.int (nI (sVts S a9))]) (rest := []) ⟨hx, hb, hml, hown, hts⟩ (c_X1_nodeOf l9 (sVts S a9) (by omega)) (va_cwS 1 hts gX1_take_X1_nodeOf rfl rfl rfl (by decide +kernel) ⟨Nat.le_of_ble_eq_true rfl, Nat.le_of_ble_eq_true rfl⟩) noB_bl noB_at rfl hl.1 rfl (Nat.le_of_ble_eq_true rfl) dX1_take_6 ⟨Nat.zero_le _, Nat.zero_le _⟩ ?_
    refine lv_istore (lv' := [(5, .int (nI ((sVts S a9) / 256 % 8))), (0, .ref (ad 0)), (1, .int (nI q9)), (2, .int (nI a9)), (3, .int fb), (4, .int y9)]) hx hb dX1_take_9 hl (by decide) rfl (fun ls hl => ?_)
    refine lv_aload_n hx hb dX1_take_11 rfl (lv_at hl 1 rfl) ?_
    refine va_get (D := (dC, dI)) (ci := 2) (v := .ref (ad 2)) (C := RX1) (T := TX1) (N := 14) hx hb hts hin hown hK hP 0 rfl rfl 1 (by decide) hf_21 (fun _ h9 => h9) rfl dX1_take_12 ?_
    refine lv_iload hx hb dX1_take_15 (lv_at hl 0 rfl) ?_
    refine f_lald hx hb hK hP 2 1 rfl rfl (k := ((sVts S a9) / 256 % 8)) (hk8) (by decide) (v := (lN (sStk S ((sVts S a9) / 256 % 8)))) (rfl) dX1_take_17 ?_
    refine lv_aload_n hx hb dX1_take_18 rfl (lv_at hl 1 rfl) ?_
    refine va_get (D := (dC, dI)) (ci := 2) (v := .ref (ad 1)) (C := RX1) (T := TX1) (N := 14) hx hb hts hin hown hK hP 0 rfl rfl 0 (by decide) hf_17 (fun _ h9 => h9) rfl dX1_take_19 ?_
    refine lv_iload_n hx hb dX1_take_22 rfl (lv_at hl 2 rfl) ?_
    refine f_lald hx hb hK hP 1 0 rfl rfl (k := q9) (by omega) (by decide) (v := (lN (sRul S q9))) (rfl) dX1_take_23 ?_
    refine lv_lmul hx hb dX1_take_24 ?_
    refine f_tl (y := (lN (sStk S (sVts S a9 / 256 % 8) * sRul S q9))) (lN_mul _ _) ?_
    refine lv_ldc2 (v := 1000) hx hb hown hc_253 dX1_take_25 ?_
    refine f_tl (y := (lN 1000)) (by decide) ?_
    refine lv_ldiv hx hb dX1_take_28 (by decide) ?_
    refine f_tl (y := (lN ((sStk S (sVts S a9 / 256 % 8) * sRul S q9) / 1000))) (pk_lDiv (by omega) (by omega) (by omega)) ?_
    refine f_tl (y := (lN (cst S (sVts S a9 / 256 % 8) q9))) (rfl) ?_
    refine lv_lstore (lv' := [(6, .long (lN (cst S (sVts S a9 / 256 % 8) q9))), (5, .int (nI ((sVts S a9) / 256 % 8))), (0, .ref (ad 0)), (1, .int (nI q9)), (2, .int (nI a9)), (3, .int fb), (4, .int y9)]) hx hb dX1_take_29 hl (by decide) rfl (fun ls hl => ?_)
    refine lv_iload hx hb dX1_take_31 (lv_at hl 6 rfl) ?_
    refine lv_iconst (v := (-1)) hx hb dX1_take_33 (by decide) ?_
    refine f_ine (tgt := 41) hx hb (rfl) ((by decide : ((-1) : Int32).toInt = -1)) dX1_take_34 (by decide) (fun c_1 => ?_) (fun c_1 => ?_)
    · exfalso; omega
    · refine lv_lconst (v := (lN 0)) hx hb dX1_take_37 (by decide) ?_
      refine lv_goto (tgt := 47) hx hb dX1_take_38 (by decide) ?_
      refine lv_lstore (lv' := [(8, .long (lN 0)), (6, .long (lN (cst S (sVts S a9 / 256 % 8) q9))), (5, .int (nI ((sVts S a9) / 256 % 8))), (0, .ref (ad 0)), (1, .int (nI q9)), (2, .int (nI a9)), (3, .int fb), (4, .int y9)]) hx hb dX1_take_47 hl (by decide) rfl (fun ls hl => ?_)
      refine lv_aload_n hx hb dX1_take_49 rfl (lv_at hl 3 rfl) ?_
      refine va_get (D := (dC, dI)) (ci := 2) (v := .ref (ad 2)) (C := RX1) (T := TX1) (N := 14) hx hb hts hin hown hK hP 0 rfl rfl 1 (by decide) hf_21 (fun _ h9 => h9) rfl dX1_take_50 ?_
      refine lv_iload hx hb dX1_take_53 (lv_at hl 2 rfl) ?_
      refine lv_dup2_11 hx hb dX1_take_55 rfl rfl ?_
      refine f_lald hx hb hK hP 2 1 rfl rfl (k := ((sVts S a9) / 256 % 8)) (hk8) (by decide) (v := (lN (sStk S ((sVts S a9) / 256 % 8)))) (rfl) dX1_take_56 ?_
      refine lv_lload hx hb dX1_take_57 (lv_at hl 1 rfl) ?_
      refine lv_lsub hx hb dX1_take_59 ?_
      refine f_tl (y := (lN ((sStk S ((sVts S a9) / 256 % 8)) - (cst S (sVts S a9 / 256 % 8) q9)))) (lN_sub (by omega)) ?_
      refine f_last hx hb hK hP hD hS 2 1 rfl rfl (k := ((sVts S a9) / 256 % 8)) (hk8) (by decide) dX1_take_60 (fun H locs hP hD hS => ?_)
      have hP : va_P (dC, dI) vwCl ((xwr ad cy (nI (sNn S)) (nI (sHh S)) (nI (sVn S)) (lN (sBrn S)) (fun jj => lN (sRul S jj)) (vp_updL (fun jj => lN (sStk S jj)) ((sVts S a9) / 256 % 8) (lN ((sStk S ((sVts S a9) / 256 % 8)) - (cst S (sVts S a9 / 256 % 8) q9)))) (fun jj => lN (sPrs S jj)) (fun jj => bI (sOut S jj)) (fun jj => lN (sWts S jj)) (fun jj => lN (sTot S jj)) (fun jj => nI (sVts S jj)) (fun jj => nI (bbF S jj)) (fun jj => nI (cbF S jj))) ++ (lwO (ad 10) mc ed (sTn S) :: (Za ++ tw pa S))) H := hP
      have hD : va_D A ((xwr ad cy (nI (sNn S)) (nI (sHh S)) (nI (sVn S)) (lN (sBrn S)) (fun jj => lN (sRul S jj)) (vp_updL (fun jj => lN (sStk S jj)) ((sVts S a9) / 256 % 8) (lN ((sStk S ((sVts S a9) / 256 % 8)) - (cst S (sVts S a9 / 256 % 8) q9)))) (fun jj => lN (sPrs S jj)) (fun jj => bI (sOut S jj)) (fun jj => lN (sWts S jj)) (fun jj => lN (sTot S jj)) (fun jj => nI (sVts S jj)) (fun jj => nI (bbF S jj)) (fun jj => nI (cbF S jj))) ++ (lwO (ad 10) mc ed (sTn S) :: (Za ++ tw pa S))) := hD
      refine lv_aload_n hx hb dX1_take_61 rfl (lv_at hl 3 rfl) ?_
      refine lv_dup hx hb dX1_take_62 rfl ?_
      refine va_get (D := (dC, dI)) (ci := 2) (v := .long (lN (sBrn S))) (C := RX1) (T := TX1) (N := 14) hx hb hts hin hown hK hP 0 rfl rfl 13 (by decide) hf_64 (fun _ h9 => h9) rfl dX1_take_63 ?_
      refine lv_lload hx hb dX1_take_66 (lv_at hl 1 rfl) ?_
      refine lv_lload hx hb dX1_take_68 (lv_at hl 0 rfl) ?_
      refine lv_lsub hx hb dX1_take_70 ?_
      refine f_tl (y := (lN ((cst S (sVts S a9 / 256 % 8) q9) - 0))) (lN_sub (by omega)) ?_
      refine lv_ladd hx hb dX1_take_71 ?_
      refine f_tl (y := (lN ((sBrn S) + ((cst S (sVts S a9 / 256 % 8) q9) - 0)))) (lN_add _ _) ?_
      refine va_put (D := (dC, dI)) (ci := 2) (v := .long (lN ((sBrn S) + ((cst S (sVts S a9 / 256 % 8) q9) - 0)))) (ty := .long) (C := RX1) (T := TX1) (N := 14) hx hb hts hin tyX1 tyX1_ok nmX1 hown hK hP hD hS 0 rfl rfl 13 (by decide) hf_64 (fun _ h9 => h9) rfl (by decide +kernel) rfl rfl (Nat.le_of_ble_eq_true rfl) dX1_take_72 (fun H locs hP hD hS => ?_)
      have hP : va_P (dC, dI) vwCl ((xwr ad cy (nI (sNn S)) (nI (sHh S)) (nI (sVn S)) (lN ((sBrn S) + ((cst S (sVts S a9 / 256 % 8) q9) - 0))) (fun jj => lN (sRul S jj)) (vp_updL (fun jj => lN (sStk S jj)) ((sVts S a9) / 256 % 8) (lN ((sStk S ((sVts S a9) / 256 % 8)) - (cst S (sVts S a9 / 256 % 8) q9)))) (fun jj => lN (sPrs S jj)) (fun jj => bI (sOut S jj)) (fun jj => lN (sWts S jj)) (fun jj => lN (sTot S jj)) (fun jj => nI (sVts S jj)) (fun jj => nI (bbF S jj)) (fun jj => nI (cbF S jj))) ++ (lwO (ad 10) mc ed (sTn S) :: (Za ++ tw pa S))) H := hP
      have hD : va_D A ((xwr ad cy (nI (sNn S)) (nI (sHh S)) (nI (sVn S)) (lN ((sBrn S) + ((cst S (sVts S a9 / 256 % 8) q9) - 0))) (fun jj => lN (sRul S jj)) (vp_updL (fun jj => lN (sStk S jj)) ((sVts S a9) / 256 % 8) (lN ((sStk S ((sVts S a9) / 256 % 8)) - (cst S (sVts S a9 / 256 % 8) q9)))) (fun jj => lN (sPrs S jj)) (fun jj => bI (sOut S jj)) (fun jj => lN (sWts S jj)) (fun jj => lN (sTot S jj)) (fun jj => nI (sVts S jj)) (fun jj => nI (bbF S jj)) (fun jj => nI (cbF S jj))) ++ (lwO (ad 10) mc ed (sTn S) :: (Za ++ tw pa S))) := hD
      refine lv_iload hx hb dX1_take_75 (lv_at hl 7 rfl) ?_
      refine lv_iconst (v := (-1)) hx hb dX1_take_77 (by decide) ?_
      refine f_ieq (tgt := 93) hx hb (rfl) ((by decide : ((-1) : Int32).toInt = -1)) dX1_take_78 (by decide) (fun c_2 => ?_) (fun c_2 => ?_)
      · refine lv_aload_n hx hb dX1_take_93 rfl (lv_at hl 3 rfl) ?_
        refine va_get (D := (dC, dI)) (ci := 2) (v := .ref (ad 2)) (C := RX1) (T := TX1) (N := 14) hx hb hts hin hown hK hP 0 rfl rfl 1 (by decide) hf_21 (fun _ h9 => h9) rfl dX1_take_94 ?_
        refine lv_iload hx hb dX1_take_97 (lv_at hl 2 rfl) ?_
        refine f_lald hx hb hK hP 2 1 rfl rfl (k := ((sVts S a9) / 256 % 8)) (hk8) (by decide) (v := (lN ((sStk S ((sVts S a9) / 256 % 8)) - (cst S (sVts S a9 / 256 % 8) q9)))) (pk_uLs) dX1_take_99 ?_
        refine lv_aload_n hx hb dX1_take_100 rfl (lv_at hl 3 rfl) ?_
        refine va_get (D := (dC, dI)) (ci := 2) (v := .ref (ad 1)) (C := RX1) (T := TX1) (N := 14) hx hb hts hin hown hK hP 0 rfl rfl 0 (by decide) hf_17 (fun _ h9 => h9) rfl dX1_take_101 ?_
        refine lv_iconst (v := (nI 4)) hx hb dX1_take_104 (by decide) ?_
        refine f_lald hx hb hK hP 1 0 rfl rfl (k := 4) (by omega) (by decide) (v := (lN (sRul S 4))) (rfl) dX1_take_105 ?_
        refine f_lge (tgt := 118) hx hb (pk_lT (by omega)) (pk_lT (by omega)) dX1_take_106 dX1_take_107 (by decide) (fun c_3 => ?_) (fun c_3 => ?_)
        · have hcc : ¬ sStk S (sVts S a9 / 256 % 8) - cst S (sVts S a9 / 256 % 8) q9 < sRul S 4 := by omega
          have hW1 : ((xwr ad cy (nI (sNn S)) (nI (sHh S)) (nI (sVn S)) (lN ((sBrn S) + ((cst S (sVts S a9 / 256 % 8) q9) - 0))) (fun jj => lN (sRul S jj)) (vp_updL (fun jj => lN (sStk S jj)) ((sVts S a9) / 256 % 8) (lN ((sStk S ((sVts S a9) / 256 % 8)) - (cst S (sVts S a9 / 256 % 8) q9)))) (fun jj => lN (sPrs S jj)) (fun jj => bI (sOut S jj)) (fun jj => lN (sWts S jj)) (fun jj => lN (sTot S jj)) (fun jj => nI (sVts S jj)) (fun jj => nI (bbF S jj)) (fun jj => nI (cbF S jj))) ++ (lwO (ad 10) mc ed (sTn S) :: (Za ++ tw pa S))) = (xw ad cy (accS S (sVts S a9 / 256 % 8) q9 a9 fb y9) ++ (lwO (ad 10) mc ed (sTn S) :: (Za ++ tw pa S))) := congrArg (fun w9 : va_W => w9 ++ (lwO (ad 10) mc ed (sTn S) :: (Za ++ tw pa S))) (xwr_eq rfl rfl rfl (by rw [show sBrn (accS S (sVts S a9 / 256 % 8) q9 a9 fb y9) = sBrn S + (cst S (sVts S a9 / 256 % 8) q9 - shr S (sVts S a9 / 256 % 8) q9 y9) from rfl, hsh]) rfl (updL_lN) (show _ = fun jj => lN (prG S (sVts S a9 / 256 % 8) q9 y9 jj) from (by rw [hpg])) (show _ = fun jj => bI (ouG S (sVts S a9 / 256 % 8) q9 jj) from (by rw [ou_no hcc])) rfl rfl rfl (bb_of rfl rfl rfl rfl) (cb_of rfl rfl rfl rfl))
          rw [hW1] at hP hD
          exact join_118 (0) (hsh.symm) _ _ hP hD hS ls (lv_sub hl [3, 4, 5, 6, 7, 2, 1, 0] rfl)
        · have hcc : sStk S (sVts S a9 / 256 % 8) - cst S (sVts S a9 / 256 % 8) q9 < sRul S 4 := by omega
          refine lv_aload_n hx hb dX1_take_110 rfl (lv_at hl 3 rfl) ?_
          refine va_get (D := (dC, dI)) (ci := 2) (v := .ref (ad 4)) (C := RX1) (T := TX1) (N := 14) hx hb hts hin hown hK hP 0 rfl rfl 3 (by decide) hf_27 (fun _ h9 => h9) rfl dX1_take_111 ?_
          refine lv_iload hx hb dX1_take_114 (lv_at hl 2 rfl) ?_
          refine lv_iconst (v := (nI 1)) hx hb dX1_take_116 (by decide) ?_
          refine f_ti (y := (bI true)) rfl ?_
          refine f_zast hx hb hK hP hD hS 4 3 rfl rfl (k := ((sVts S a9) / 256 % 8)) (hk8) (by decide) dX1_take_117 (fun H locs hP hD hS => ?_)
          have hP : va_P (dC, dI) vwCl ((xwr ad cy (nI (sNn S)) (nI (sHh S)) (nI (sVn S)) (lN ((sBrn S) + ((cst S (sVts S a9 / 256 % 8) q9) - 0))) (fun jj => lN (sRul S jj)) (vp_updL (fun jj => lN (sStk S jj)) ((sVts S a9) / 256 % 8) (lN ((sStk S ((sVts S a9) / 256 % 8)) - (cst S (sVts S a9 / 256 % 8) q9)))) (fun jj => lN (sPrs S jj)) (upd (fun jj => bI (sOut S jj)) ((sVts S a9) / 256 % 8) (bI true)) (fun jj => lN (sWts S jj)) (fun jj => lN (sTot S jj)) (fun jj => nI (sVts S jj)) (fun jj => nI (bbF S jj)) (fun jj => nI (cbF S jj))) ++ (lwO (ad 10) mc ed (sTn S) :: (Za ++ tw pa S))) H := hP
          have hD : va_D A ((xwr ad cy (nI (sNn S)) (nI (sHh S)) (nI (sVn S)) (lN ((sBrn S) + ((cst S (sVts S a9 / 256 % 8) q9) - 0))) (fun jj => lN (sRul S jj)) (vp_updL (fun jj => lN (sStk S jj)) ((sVts S a9) / 256 % 8) (lN ((sStk S ((sVts S a9) / 256 % 8)) - (cst S (sVts S a9 / 256 % 8) q9)))) (fun jj => lN (sPrs S jj)) (upd (fun jj => bI (sOut S jj)) ((sVts S a9) / 256 % 8) (bI true)) (fun jj => lN (sWts S jj)) (fun jj => lN (sTot S jj)) (fun jj => nI (sVts S jj)) (fun jj => nI (bbF S jj)) (fun jj => nI (cbF S jj))) ++ (lwO (ad 10) mc ed (sTn S) :: (Za ++ tw pa S))) := hD
          have hW1 : ((xwr ad cy (nI (sNn S)) (nI (sHh S)) (nI (sVn S)) (lN ((sBrn S) + ((cst S (sVts S a9 / 256 % 8) q9) - 0))) (fun jj => lN (sRul S jj)) (vp_updL (fun jj => lN (sStk S jj)) ((sVts S a9) / 256 % 8) (lN ((sStk S ((sVts S a9) / 256 % 8)) - (cst S (sVts S a9 / 256 % 8) q9)))) (fun jj => lN (sPrs S jj)) (upd (fun jj => bI (sOut S jj)) ((sVts S a9) / 256 % 8) (bI true)) (fun jj => lN (sWts S jj)) (fun jj => lN (sTot S jj)) (fun jj => nI (sVts S jj)) (fun jj => nI (bbF S jj)) (fun jj => nI (cbF S jj))) ++ (lwO (ad 10) mc ed (sTn S) :: (Za ++ tw pa S))) = (xw ad cy (accS S (sVts S a9 / 256 % 8) q9 a9 fb y9) ++ (lwO (ad 10) mc ed (sTn S) :: (Za ++ tw pa S))) := congrArg (fun w9 : va_W => w9 ++ (lwO (ad 10) mc ed (sTn S) :: (Za ++ tw pa S))) (xwr_eq rfl rfl rfl (by rw [show sBrn (accS S (sVts S a9 / 256 % 8) q9 a9 fb y9) = sBrn S + (cst S (sVts S a9 / 256 % 8) q9 - shr S (sVts S a9 / 256 % 8) q9 y9) from rfl, hsh]) rfl (updL_lN) (show _ = fun jj => lN (prG S (sVts S a9 / 256 % 8) q9 y9 jj) from (by rw [hpg])) (show _ = fun jj => bI (ouG S (sVts S a9 / 256 % 8) q9 jj) from (by rw [ou_yes hcc]; exact upd_bI)) rfl rfl rfl (bb_of rfl rfl rfl rfl) (cb_of rfl rfl rfl rfl))
          rw [hW1] at hP hD
          exact join_118 (0) (hsh.symm) _ _ hP hD hS ls (lv_sub hl [3, 4, 5, 6, 7, 2, 1, 0] rfl)
      · exfalso; omega
  · obtain ⟨d9, hd, rfl⟩ := nd_of hyn
    have hd8 : d9 < 8 := by omega
    have hdd := nI_toInt (n := d9) (by omega)
    have htd := tn_nI (n := d9) (by omega)
    have hsh : shr S (sVts S a9 / 256 % 8) q9 (nI d9) = cst S (sVts S a9 / 256 % 8) q9 / 10 := by unfold shr; rw [if_neg (by omega)]
    have hpg : prG S (sVts S a9 / 256 % 8) q9 (nI d9) = va_up (sPrs S) d9 (sPrs S d9 + cst S (sVts S a9 / 256 % 8) q9 / 10) := by unfold prG; rw [if_neg (by omega), htd, hsh]
    refine lv_aload_n hx hb dX1_take_0 rfl (lv_at hl 0 rfl) ?_
    refine va_get (D := (dC, dI)) (ci := 2) (v := .ref (ad 7)) (C := RX1) (T := TX1) (N := 14) hx hb hts hin hown hK hP 0 rfl rfl 8 (by decide) hf_44 (fun _ h9 => h9) rfl dX1_take_1 ?_
    refine lv_iload_n hx hb dX1_take_4 rfl (lv_at hl 2 rfl) ?_
    refine f_iald hx hb hK hP 7 6 rfl rfl (k := a9) (by omega) (by decide) (v := (nI (sVts S a9))) (rfl) dX1_take_5 ?_
    refine f_cSi (As := [.int (nI (sVts S a9))]) (rest := []) ⟨hx, hb, hml, hown, hts⟩ (c_X1_nodeOf l9 (sVts S a9) (by omega)) (va_cwS 1 hts gX1_take_X1_nodeOf rfl rfl rfl (by decide +kernel) ⟨Nat.le_of_ble_eq_true rfl, Nat.le_of_ble_eq_true rfl⟩) noB_bl noB_at rfl hl.1 rfl (Nat.le_of_ble_eq_true rfl) dX1_take_6 ⟨Nat.zero_le _, Nat.zero_le _⟩ ?_
    refine lv_istore (lv' := [(5, .int (nI ((sVts S a9) / 256 % 8))), (0, .ref (ad 0)), (1, .int (nI q9)), (2, .int (nI a9)), (3, .int fb), (4, .int (nI d9))]) hx hb dX1_take_9 hl (by decide) rfl (fun ls hl => ?_)
    refine lv_aload_n hx hb dX1_take_11 rfl (lv_at hl 1 rfl) ?_
    refine va_get (D := (dC, dI)) (ci := 2) (v := .ref (ad 2)) (C := RX1) (T := TX1) (N := 14) hx hb hts hin hown hK hP 0 rfl rfl 1 (by decide) hf_21 (fun _ h9 => h9) rfl dX1_take_12 ?_
    refine lv_iload hx hb dX1_take_15 (lv_at hl 0 rfl) ?_
    refine f_lald hx hb hK hP 2 1 rfl rfl (k := ((sVts S a9) / 256 % 8)) (hk8) (by decide) (v := (lN (sStk S ((sVts S a9) / 256 % 8)))) (rfl) dX1_take_17 ?_
    refine lv_aload_n hx hb dX1_take_18 rfl (lv_at hl 1 rfl) ?_
    refine va_get (D := (dC, dI)) (ci := 2) (v := .ref (ad 1)) (C := RX1) (T := TX1) (N := 14) hx hb hts hin hown hK hP 0 rfl rfl 0 (by decide) hf_17 (fun _ h9 => h9) rfl dX1_take_19 ?_
    refine lv_iload_n hx hb dX1_take_22 rfl (lv_at hl 2 rfl) ?_
    refine f_lald hx hb hK hP 1 0 rfl rfl (k := q9) (by omega) (by decide) (v := (lN (sRul S q9))) (rfl) dX1_take_23 ?_
    refine lv_lmul hx hb dX1_take_24 ?_
    refine f_tl (y := (lN (sStk S (sVts S a9 / 256 % 8) * sRul S q9))) (lN_mul _ _) ?_
    refine lv_ldc2 (v := 1000) hx hb hown hc_253 dX1_take_25 ?_
    refine f_tl (y := (lN 1000)) (by decide) ?_
    refine lv_ldiv hx hb dX1_take_28 (by decide) ?_
    refine f_tl (y := (lN ((sStk S (sVts S a9 / 256 % 8) * sRul S q9) / 1000))) (pk_lDiv (by omega) (by omega) (by omega)) ?_
    refine f_tl (y := (lN (cst S (sVts S a9 / 256 % 8) q9))) (rfl) ?_
    refine lv_lstore (lv' := [(6, .long (lN (cst S (sVts S a9 / 256 % 8) q9))), (5, .int (nI ((sVts S a9) / 256 % 8))), (0, .ref (ad 0)), (1, .int (nI q9)), (2, .int (nI a9)), (3, .int fb), (4, .int (nI d9))]) hx hb dX1_take_29 hl (by decide) rfl (fun ls hl => ?_)
    refine lv_iload hx hb dX1_take_31 (lv_at hl 6 rfl) ?_
    refine lv_iconst (v := (-1)) hx hb dX1_take_33 (by decide) ?_
    refine f_ine (tgt := 41) hx hb (nI_toInt (by omega)) ((by decide : ((-1) : Int32).toInt = -1)) dX1_take_34 (by decide) (fun c_4 => ?_) (fun c_4 => ?_)
    · refine lv_lload hx hb dX1_take_41 (lv_at hl 0 rfl) ?_
      refine lv_ldc2 (v := 10) hx hb hown hc_15 dX1_take_43 ?_
      refine f_tl (y := (lN 10)) (by decide) ?_
      refine lv_ldiv hx hb dX1_take_46 (by decide) ?_
      refine f_tl (y := (lN ((cst S (sVts S a9 / 256 % 8) q9) / 10))) (pk_lDiv (by omega) (by omega) (by omega)) ?_
      refine lv_lstore (lv' := [(8, .long (lN ((cst S (sVts S a9 / 256 % 8) q9) / 10))), (6, .long (lN (cst S (sVts S a9 / 256 % 8) q9))), (5, .int (nI ((sVts S a9) / 256 % 8))), (0, .ref (ad 0)), (1, .int (nI q9)), (2, .int (nI a9)), (3, .int fb), (4, .int (nI d9))]) hx hb dX1_take_47 hl (by decide) rfl (fun ls hl => ?_)
      refine lv_aload_n hx hb dX1_take_49 rfl (lv_at hl 3 rfl) ?_
      refine va_get (D := (dC, dI)) (ci := 2) (v := .ref (ad 2)) (C := RX1) (T := TX1) (N := 14) hx hb hts hin hown hK hP 0 rfl rfl 1 (by decide) hf_21 (fun _ h9 => h9) rfl dX1_take_50 ?_
      refine lv_iload hx hb dX1_take_53 (lv_at hl 2 rfl) ?_
      refine lv_dup2_11 hx hb dX1_take_55 rfl rfl ?_
      refine f_lald hx hb hK hP 2 1 rfl rfl (k := ((sVts S a9) / 256 % 8)) (hk8) (by decide) (v := (lN (sStk S ((sVts S a9) / 256 % 8)))) (rfl) dX1_take_56 ?_
      refine lv_lload hx hb dX1_take_57 (lv_at hl 1 rfl) ?_
      refine lv_lsub hx hb dX1_take_59 ?_
      refine f_tl (y := (lN ((sStk S ((sVts S a9) / 256 % 8)) - (cst S (sVts S a9 / 256 % 8) q9)))) (lN_sub (by omega)) ?_
      refine f_last hx hb hK hP hD hS 2 1 rfl rfl (k := ((sVts S a9) / 256 % 8)) (hk8) (by decide) dX1_take_60 (fun H locs hP hD hS => ?_)
      have hP : va_P (dC, dI) vwCl ((xwr ad cy (nI (sNn S)) (nI (sHh S)) (nI (sVn S)) (lN (sBrn S)) (fun jj => lN (sRul S jj)) (vp_updL (fun jj => lN (sStk S jj)) ((sVts S a9) / 256 % 8) (lN ((sStk S ((sVts S a9) / 256 % 8)) - (cst S (sVts S a9 / 256 % 8) q9)))) (fun jj => lN (sPrs S jj)) (fun jj => bI (sOut S jj)) (fun jj => lN (sWts S jj)) (fun jj => lN (sTot S jj)) (fun jj => nI (sVts S jj)) (fun jj => nI (bbF S jj)) (fun jj => nI (cbF S jj))) ++ (lwO (ad 10) mc ed (sTn S) :: (Za ++ tw pa S))) H := hP
      have hD : va_D A ((xwr ad cy (nI (sNn S)) (nI (sHh S)) (nI (sVn S)) (lN (sBrn S)) (fun jj => lN (sRul S jj)) (vp_updL (fun jj => lN (sStk S jj)) ((sVts S a9) / 256 % 8) (lN ((sStk S ((sVts S a9) / 256 % 8)) - (cst S (sVts S a9 / 256 % 8) q9)))) (fun jj => lN (sPrs S jj)) (fun jj => bI (sOut S jj)) (fun jj => lN (sWts S jj)) (fun jj => lN (sTot S jj)) (fun jj => nI (sVts S jj)) (fun jj => nI (bbF S jj)) (fun jj => nI (cbF S jj))) ++ (lwO (ad 10) mc ed (sTn S) :: (Za ++ tw pa S))) := hD
      refine lv_aload_n hx hb dX1_take_61 rfl (lv_at hl 3 rfl) ?_
      refine lv_dup hx hb dX1_take_62 rfl ?_
      refine va_get (D := (dC, dI)) (ci := 2) (v := .long (lN (sBrn S))) (C := RX1) (T := TX1) (N := 14) hx hb hts hin hown hK hP 0 rfl rfl 13 (by decide) hf_64 (fun _ h9 => h9) rfl dX1_take_63 ?_
      refine lv_lload hx hb dX1_take_66 (lv_at hl 1 rfl) ?_
      refine lv_lload hx hb dX1_take_68 (lv_at hl 0 rfl) ?_
      refine lv_lsub hx hb dX1_take_70 ?_
      refine f_tl (y := (lN ((cst S (sVts S a9 / 256 % 8) q9) - ((cst S (sVts S a9 / 256 % 8) q9) / 10)))) (lN_sub (by omega)) ?_
      refine lv_ladd hx hb dX1_take_71 ?_
      refine f_tl (y := (lN ((sBrn S) + ((cst S (sVts S a9 / 256 % 8) q9) - ((cst S (sVts S a9 / 256 % 8) q9) / 10))))) (lN_add _ _) ?_
      refine va_put (D := (dC, dI)) (ci := 2) (v := .long (lN ((sBrn S) + ((cst S (sVts S a9 / 256 % 8) q9) - ((cst S (sVts S a9 / 256 % 8) q9) / 10))))) (ty := .long) (C := RX1) (T := TX1) (N := 14) hx hb hts hin tyX1 tyX1_ok nmX1 hown hK hP hD hS 0 rfl rfl 13 (by decide) hf_64 (fun _ h9 => h9) rfl (by decide +kernel) rfl rfl (Nat.le_of_ble_eq_true rfl) dX1_take_72 (fun H locs hP hD hS => ?_)
      have hP : va_P (dC, dI) vwCl ((xwr ad cy (nI (sNn S)) (nI (sHh S)) (nI (sVn S)) (lN ((sBrn S) + ((cst S (sVts S a9 / 256 % 8) q9) - ((cst S (sVts S a9 / 256 % 8) q9) / 10)))) (fun jj => lN (sRul S jj)) (vp_updL (fun jj => lN (sStk S jj)) ((sVts S a9) / 256 % 8) (lN ((sStk S ((sVts S a9) / 256 % 8)) - (cst S (sVts S a9 / 256 % 8) q9)))) (fun jj => lN (sPrs S jj)) (fun jj => bI (sOut S jj)) (fun jj => lN (sWts S jj)) (fun jj => lN (sTot S jj)) (fun jj => nI (sVts S jj)) (fun jj => nI (bbF S jj)) (fun jj => nI (cbF S jj))) ++ (lwO (ad 10) mc ed (sTn S) :: (Za ++ tw pa S))) H := hP
      have hD : va_D A ((xwr ad cy (nI (sNn S)) (nI (sHh S)) (nI (sVn S)) (lN ((sBrn S) + ((cst S (sVts S a9 / 256 % 8) q9) - ((cst S (sVts S a9 / 256 % 8) q9) / 10)))) (fun jj => lN (sRul S jj)) (vp_updL (fun jj => lN (sStk S jj)) ((sVts S a9) / 256 % 8) (lN ((sStk S ((sVts S a9) / 256 % 8)) - (cst S (sVts S a9 / 256 % 8) q9)))) (fun jj => lN (sPrs S jj)) (fun jj => bI (sOut S jj)) (fun jj => lN (sWts S jj)) (fun jj => lN (sTot S jj)) (fun jj => nI (sVts S jj)) (fun jj => nI (bbF S jj)) (fun jj => nI (cbF S jj))) ++ (lwO (ad 10) mc ed (sTn S) :: (Za ++ tw pa S))) := hD
      refine lv_iload hx hb dX1_take_75 (lv_at hl 7 rfl) ?_
      refine lv_iconst (v := (-1)) hx hb dX1_take_77 (by decide) ?_
      refine f_ieq (tgt := 93) hx hb (nI_toInt (by omega)) ((by decide : ((-1) : Int32).toInt = -1)) dX1_take_78 (by decide) (fun c_5 => ?_) (fun c_5 => ?_)
      · exfalso; omega
      · refine lv_aload_n hx hb dX1_take_81 rfl (lv_at hl 3 rfl) ?_
        refine va_get (D := (dC, dI)) (ci := 2) (v := .ref (ad 3)) (C := RX1) (T := TX1) (N := 14) hx hb hts hin hown hK hP 0 rfl rfl 2 (by decide) hf_24 (fun _ h9 => h9) rfl dX1_take_82 ?_
        refine lv_iload hx hb dX1_take_85 (lv_at hl 7 rfl) ?_
        refine lv_dup2_11 hx hb dX1_take_87 rfl rfl ?_
        refine f_lald hx hb hK hP 3 2 rfl rfl (k := d9) (hd8) (by decide) (v := (lN (sPrs S d9))) (rfl) dX1_take_88 ?_
        refine lv_lload hx hb dX1_take_89 (lv_at hl 0 rfl) ?_
        refine lv_ladd hx hb dX1_take_91 ?_
        refine f_tl (y := (lN ((sPrs S d9) + ((cst S (sVts S a9 / 256 % 8) q9) / 10)))) (lN_add _ _) ?_
        refine f_last hx hb hK hP hD hS 3 2 rfl rfl (k := d9) (hd8) (by decide) dX1_take_92 (fun H locs hP hD hS => ?_)
        have hP : va_P (dC, dI) vwCl ((xwr ad cy (nI (sNn S)) (nI (sHh S)) (nI (sVn S)) (lN ((sBrn S) + ((cst S (sVts S a9 / 256 % 8) q9) - ((cst S (sVts S a9 / 256 % 8) q9) / 10)))) (fun jj => lN (sRul S jj)) (vp_updL (fun jj => lN (sStk S jj)) ((sVts S a9) / 256 % 8) (lN ((sStk S ((sVts S a9) / 256 % 8)) - (cst S (sVts S a9 / 256 % 8) q9)))) (vp_updL (fun jj => lN (sPrs S jj)) d9 (lN ((sPrs S d9) + ((cst S (sVts S a9 / 256 % 8) q9) / 10)))) (fun jj => bI (sOut S jj)) (fun jj => lN (sWts S jj)) (fun jj => lN (sTot S jj)) (fun jj => nI (sVts S jj)) (fun jj => nI (bbF S jj)) (fun jj => nI (cbF S jj))) ++ (lwO (ad 10) mc ed (sTn S) :: (Za ++ tw pa S))) H := hP
        have hD : va_D A ((xwr ad cy (nI (sNn S)) (nI (sHh S)) (nI (sVn S)) (lN ((sBrn S) + ((cst S (sVts S a9 / 256 % 8) q9) - ((cst S (sVts S a9 / 256 % 8) q9) / 10)))) (fun jj => lN (sRul S jj)) (vp_updL (fun jj => lN (sStk S jj)) ((sVts S a9) / 256 % 8) (lN ((sStk S ((sVts S a9) / 256 % 8)) - (cst S (sVts S a9 / 256 % 8) q9)))) (vp_updL (fun jj => lN (sPrs S jj)) d9 (lN ((sPrs S d9) + ((cst S (sVts S a9 / 256 % 8) q9) / 10)))) (fun jj => bI (sOut S jj)) (fun jj => lN (sWts S jj)) (fun jj => lN (sTot S jj)) (fun jj => nI (sVts S jj)) (fun jj => nI (bbF S jj)) (fun jj => nI (cbF S jj))) ++ (lwO (ad 10) mc ed (sTn S) :: (Za ++ tw pa S))) := hD
        refine lv_aload_n hx hb dX1_take_93 rfl (lv_at hl 3 rfl) ?_
        refine va_get (D := (dC, dI)) (ci := 2) (v := .ref (ad 2)) (C := RX1) (T := TX1) (N := 14) hx hb hts hin hown hK hP 0 rfl rfl 1 (by decide) hf_21 (fun _ h9 => h9) rfl dX1_take_94 ?_
        refine lv_iload hx hb dX1_take_97 (lv_at hl 2 rfl) ?_
        refine f_lald hx hb hK hP 2 1 rfl rfl (k := ((sVts S a9) / 256 % 8)) (hk8) (by decide) (v := (lN ((sStk S ((sVts S a9) / 256 % 8)) - (cst S (sVts S a9 / 256 % 8) q9)))) (pk_uLs) dX1_take_99 ?_
        refine lv_aload_n hx hb dX1_take_100 rfl (lv_at hl 3 rfl) ?_
        refine va_get (D := (dC, dI)) (ci := 2) (v := .ref (ad 1)) (C := RX1) (T := TX1) (N := 14) hx hb hts hin hown hK hP 0 rfl rfl 0 (by decide) hf_17 (fun _ h9 => h9) rfl dX1_take_101 ?_
        refine lv_iconst (v := (nI 4)) hx hb dX1_take_104 (by decide) ?_
        refine f_lald hx hb hK hP 1 0 rfl rfl (k := 4) (by omega) (by decide) (v := (lN (sRul S 4))) (rfl) dX1_take_105 ?_
        refine f_lge (tgt := 118) hx hb (pk_lT (by omega)) (pk_lT (by omega)) dX1_take_106 dX1_take_107 (by decide) (fun c_6 => ?_) (fun c_6 => ?_)
        · have hcc : ¬ sStk S (sVts S a9 / 256 % 8) - cst S (sVts S a9 / 256 % 8) q9 < sRul S 4 := by omega
          have hW1 : ((xwr ad cy (nI (sNn S)) (nI (sHh S)) (nI (sVn S)) (lN ((sBrn S) + ((cst S (sVts S a9 / 256 % 8) q9) - ((cst S (sVts S a9 / 256 % 8) q9) / 10)))) (fun jj => lN (sRul S jj)) (vp_updL (fun jj => lN (sStk S jj)) ((sVts S a9) / 256 % 8) (lN ((sStk S ((sVts S a9) / 256 % 8)) - (cst S (sVts S a9 / 256 % 8) q9)))) (vp_updL (fun jj => lN (sPrs S jj)) d9 (lN ((sPrs S d9) + ((cst S (sVts S a9 / 256 % 8) q9) / 10)))) (fun jj => bI (sOut S jj)) (fun jj => lN (sWts S jj)) (fun jj => lN (sTot S jj)) (fun jj => nI (sVts S jj)) (fun jj => nI (bbF S jj)) (fun jj => nI (cbF S jj))) ++ (lwO (ad 10) mc ed (sTn S) :: (Za ++ tw pa S))) = (xw ad cy (accS S (sVts S a9 / 256 % 8) q9 a9 fb (nI d9)) ++ (lwO (ad 10) mc ed (sTn S) :: (Za ++ tw pa S))) := congrArg (fun w9 : va_W => w9 ++ (lwO (ad 10) mc ed (sTn S) :: (Za ++ tw pa S))) (xwr_eq rfl rfl rfl (by rw [show sBrn (accS S (sVts S a9 / 256 % 8) q9 a9 fb (nI d9)) = sBrn S + (cst S (sVts S a9 / 256 % 8) q9 - shr S (sVts S a9 / 256 % 8) q9 (nI d9)) from rfl, hsh]) rfl (updL_lN) (show _ = fun jj => lN (prG S (sVts S a9 / 256 % 8) q9 (nI d9) jj) from (by rw [hpg]; exact updL_lN)) (show _ = fun jj => bI (ouG S (sVts S a9 / 256 % 8) q9 jj) from (by rw [ou_no hcc])) rfl rfl rfl (bb_of rfl rfl rfl rfl) (cb_of rfl rfl rfl rfl))
          rw [hW1] at hP hD
          exact join_118 (((cst S (sVts S a9 / 256 % 8) q9) / 10)) (hsh.symm) _ _ hP hD hS ls (lv_sub hl [3, 4, 5, 6, 7, 2, 1, 0] rfl)
        · have hcc : sStk S (sVts S a9 / 256 % 8) - cst S (sVts S a9 / 256 % 8) q9 < sRul S 4 := by omega
          refine lv_aload_n hx hb dX1_take_110 rfl (lv_at hl 3 rfl) ?_
          refine va_get (D := (dC, dI)) (ci := 2) (v := .ref (ad 4)) (C := RX1) (T := TX1) (N := 14) hx hb hts hin hown hK hP 0 rfl rfl 3 (by decide) hf_27 (fun _ h9 => h9) rfl dX1_take_111 ?_
          refine lv_iload hx hb dX1_take_114 (lv_at hl 2 rfl) ?_
          refine lv_iconst (v := (nI 1)) hx hb dX1_take_116 (by decide) ?_
          refine f_ti (y := (bI true)) rfl ?_
          refine f_zast hx hb hK hP hD hS 4 3 rfl rfl (k := ((sVts S a9) / 256 % 8)) (hk8) (by decide) dX1_take_117 (fun H locs hP hD hS => ?_)
          have hP : va_P (dC, dI) vwCl ((xwr ad cy (nI (sNn S)) (nI (sHh S)) (nI (sVn S)) (lN ((sBrn S) + ((cst S (sVts S a9 / 256 % 8) q9) - ((cst S (sVts S a9 / 256 % 8) q9) / 10)))) (fun jj => lN (sRul S jj)) (vp_updL (fun jj => lN (sStk S jj)) ((sVts S a9) / 256 % 8) (lN ((sStk S ((sVts S a9) / 256 % 8)) - (cst S (sVts S a9 / 256 % 8) q9)))) (vp_updL (fun jj => lN (sPrs S jj)) d9 (lN ((sPrs S d9) + ((cst S (sVts S a9 / 256 % 8) q9) / 10)))) (upd (fun jj => bI (sOut S jj)) ((sVts S a9) / 256 % 8) (bI true)) (fun jj => lN (sWts S jj)) (fun jj => lN (sTot S jj)) (fun jj => nI (sVts S jj)) (fun jj => nI (bbF S jj)) (fun jj => nI (cbF S jj))) ++ (lwO (ad 10) mc ed (sTn S) :: (Za ++ tw pa S))) H := hP
          have hD : va_D A ((xwr ad cy (nI (sNn S)) (nI (sHh S)) (nI (sVn S)) (lN ((sBrn S) + ((cst S (sVts S a9 / 256 % 8) q9) - ((cst S (sVts S a9 / 256 % 8) q9) / 10)))) (fun jj => lN (sRul S jj)) (vp_updL (fun jj => lN (sStk S jj)) ((sVts S a9) / 256 % 8) (lN ((sStk S ((sVts S a9) / 256 % 8)) - (cst S (sVts S a9 / 256 % 8) q9)))) (vp_updL (fun jj => lN (sPrs S jj)) d9 (lN ((sPrs S d9) + ((cst S (sVts S a9 / 256 % 8) q9) / 10)))) (upd (fun jj => bI (sOut S jj)) ((sVts S a9) / 256 % 8) (bI true)) (fun jj => lN (sWts S jj)) (fun jj => lN (sTot S jj)) (fun jj => nI (sVts S jj)) (fun jj => nI (bbF S jj)) (fun jj => nI (cbF S jj))) ++ (lwO (ad 10) mc ed (sTn S) :: (Za ++ tw pa S))) := hD
          have hW1 : ((xwr ad cy (nI (sNn S)) (nI (sHh S)) (nI (sVn S)) (lN ((sBrn S) + ((cst S (sVts S a9 / 256 % 8) q9) - ((cst S (sVts S a9 / 256 % 8) q9) / 10)))) (fun jj => lN (sRul S jj)) (vp_updL (fun jj => lN (sStk S jj)) ((sVts S a9) / 256 % 8) (lN ((sStk S ((sVts S a9) / 256 % 8)) - (cst S (sVts S a9 / 256 % 8) q9)))) (vp_updL (fun jj => lN (sPrs S jj)) d9 (lN ((sPrs S d9) + ((cst S (sVts S a9 / 256 % 8) q9) / 10)))) (upd (fun jj => bI (sOut S jj)) ((sVts S a9) / 256 % 8) (bI true)) (fun jj => lN (sWts S jj)) (fun jj => lN (sTot S jj)) (fun jj => nI (sVts S jj)) (fun jj => nI (bbF S jj)) (fun jj => nI (cbF S jj))) ++ (lwO (ad 10) mc ed (sTn S) :: (Za ++ tw pa S))) = (xw ad cy (accS S (sVts S a9 / 256 % 8) q9 a9 fb (nI d9)) ++ (lwO (ad 10) mc ed (sTn S) :: (Za ++ tw pa S))) := congrArg (fun w9 : va_W => w9 ++ (lwO (ad 10) mc ed (sTn S) :: (Za ++ tw pa S))) (xwr_eq rfl rfl rfl (by rw [show sBrn (accS S (sVts S a9 / 256 % 8) q9 a9 fb (nI d9)) = sBrn S + (cst S (sVts S a9 / 256 % 8) q9 - shr S (sVts S a9 / 256 % 8) q9 (nI d9)) from rfl, hsh]) rfl (updL_lN) (show _ = fun jj => lN (prG S (sVts S a9 / 256 % 8) q9 (nI d9) jj) from (by rw [hpg]; exact updL_lN)) (show _ = fun jj => bI (ouG S (sVts S a9 / 256 % 8) q9 jj) from (by rw [ou_yes hcc]; exact upd_bI)) rfl rfl rfl (bb_of rfl rfl rfl rfl) (cb_of rfl rfl rfl rfl))
          rw [hW1] at hP hD
          exact join_118 (((cst S (sVts S a9 / 256 % 8) q9) / 10)) (hsh.symm) _ _ hP hD hS ls (lv_sub hl [3, 4, 5, 6, 7, 2, 1, 0] rfl)
    · exfalso; omega
