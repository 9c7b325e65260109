/-! the law: how it ends, what holds at its entry (these rows began as kit/laws/SKELETON); then its calls, one by one -/
def R_law : String := "FaultEvidenceLaw"
def lw_P (b : Addr) (xs : List Int32) (args : Array Value) (s : State) : Prop := args = #[.ref b] ∧ s.IntsAt b xs ∧ xs.length ≤ 3072 ∧ (Jvm.Cond.and given_1 narrow_1).before args s = true
def lw_Q (_ : Array Value) (s : State) (o : Outcome) (t : State) : Prop := o = .returned (some (.int 1)) ∧ Framed s o t [] 600000 7302250
def lw_Z (below : List Frame) (a : Array Value) (s : State) : State → Prop := fun t => ∃ o, t.status = .running ∧ Ended t below o ∧ lw_Q a s o t
/-- the law's own end, with 1 on the stack, nothing written that was there before, its room as the claim has it -/
theorem lw_ret {p : Program} {l : Launch} {e : Env} {s : State} {m : MethodId} {below : List Frame} {meth : Method} {c : Code} {b : Nat} (hx : p.tables.exec = Jvm.exec) (hb : c.code = code) (hr : meth.sig.returnType = ret) (hlocks : meth.locks = false) {pc : Nat} {H : Heap} {ls : Array Slot} (hdg : decode code pc = .ok (.ireturn, 1)) : W p l e room_1 s m #[Value.ref b] below meth c H [] 600000 7302250 (lw_Z below #[Value.ref b] s) (F0 m pc ls [.int 1]) := by
  intro T hT X
  obtain ⟨fs, hret, hrun, hended, hW, hframe⟩ := X.leave (v := some (.int 1)) (hlocks := hlocks) (fun h => by rw [hr] at h; cases h)
  have hmeth' : T.vm.method? m = some meth := X.method'
  refine ⟨T.setFrames fs, ?_, .returned (some (.int 1)), hrun, hended, rfl, ⟨_, rfl⟩, hW, hframe⟩
  jvm_step X.here [X.here.top, hx, hb, hdg, hmeth', hr, ret, narrow_b1]
  (try refine ⟨rfl, ?_⟩); (try refine ⟨rfl, ?_⟩)
  first | (intro acts; rw [hret _ acts rfl rfl rfl]) | rw [hret _ _ rfl rfl rfl]
  exact Steps.refl _
/-- what holds at the law's entry: the machine, the code, the tables' words (any of lw_tbl by 'hts w (by decide +kernel)'), the script of L ints xs at the cell b, what the Statement gives of the start (any of its parts by flat_of_before) -/
def lw_At (p : Program) (s : State) (m : MethodId) (meth : Method) (c : Code) (b L : Nat) (xs : Nat → Int32) : Prop :=
  p.tables.exec = Jvm.exec ∧ c.code = code ∧ meth.sig.returnType = ret ∧ c.maxLocals = 4 ∧ s.vm.findClass R_law = some m.cls ∧ (∀ w ∈ lw_tbl, w.before #[Value.ref b] s = true) ∧ va_X b L xs s s.heap ∧ b < s.heap.size ∧ meth.locks = false ∧ (Jvm.Cond.and given_1 narrow_1).before #[Value.ref b] s = true

def tkE (S S1 : St) : Prop := sTn S1 = sTn S ∧ sTk S1 = sTk S ∧ sTa S1 = sTa S ∧ sTb S1 = sTb S ∧ sTy S1 = sTy S ∧ sTt S1 = sTt S ∧ sTc S1 = sTc S ∧ sTs S1 = sTs S
theorem tk_tw {S S1 : St} (h9 : tkE S S1) (pa : Nat → Nat) : tw pa S1 = tw pa S := by
  obtain ⟨h0, h1, h2, h3, h4, h5, h6, h7⟩ := h9
  unfold tw tfs
  rw [h0, h1, h2, h3, h4, h5, h6, h7]
theorem tk_fo {S S1 : St} (h9 : tkE S S1) (pa : Nat → Nat) : foF pa S1 = foF pa S := by
  obtain ⟨h0, -⟩ := h9
  unfold foF
  rw [h0]
theorem tk_nod {S : St} {x9 : Int64} : tkE S (nodG S x9) := by unfold nodG; split <;> exact ⟨rfl, rfl, rfl, rfl, rfl, rfl, rfl, rfl⟩
theorem tk_add {S : St} {x9 : Int32} {y9 : Int64} : tkE S (addG S x9 y9) := by unfold addG; split <;> exact ⟨rfl, rfl, rfl, rfl, rfl, rfl, rfl, rfl⟩
theorem tk_set {S : St} {x9 : Int32} {y9 : Int64} : tkE S (setG S x9 y9) := by unfold setG; split <;> exact ⟨rfl, rfl, rfl, rfl, rfl, rfl, rfl, rfl⟩
theorem tk_nxt {S : St} : tkE S (nxtG S) := by unfold nxtG; split <;> exact ⟨rfl, rfl, rfl, rfl, rfl, rfl, rfl, rfl⟩
theorem tk_vot {S : St} {x9 y9 u9 t9 b9 : Int32} : tkE S (votG S x9 y9 u9 t9 b9) := by unfold votG; split <;> exact ⟨rfl, rfl, rfl, rfl, rfl, rfl, rfl, rfl⟩
theorem tk_W {S S1 : St} (h9 : tkE S S1) (xa : Nat → Nat) (xc : Nat → ClassId) (mc : Int32) (ed : Nat) (pa : Nat → Nat) (Za : va_W) : xw xa xc S1 ++ (lwO (xa 10) mc ed (sTn S) :: (Za ++ tw pa S)) = tW xa xc S1 mc ed (Za ++ tw pa S1) := by
  rw [tk_tw h9]
  show _ = xw xa xc S1 ++ (lwO (xa 10) mc ed (sTn S1) :: (Za ++ tw pa S))
  rw [h9.1]
theorem tk_Z {S S1 : St} (h9 : tkE S S1) {t0 : Nat} {u9 : LU} (h8 : luZ t0 S u9) : luZ t0 S1 u9 := by
  unfold luZ
  rw [tk_fo h9, h9.1]
  exact h8
abbrev lA (s9 : State) : Nat → Prop := fun q9 => s9.heap.size ≤ q9
def LSt (dC : Nat → ClassId) (dI : Nat → Nat → Nat) (xa : Nat → Nat) (xc : Nat → ClassId) (ma : Nat → Nat) (mc : Nat → ClassId) (t0 : Nat) (s9 : State) (S : St) (u9 : LU) (j9 : Nat) (H : Heap) (locs : List Loc) : Prop := Inv S ∧ Hi0 S ∧ sTn S ≤ j9 ∧ luZ t0 S u9 ∧ va_K (dC, dI) vwCl (luT xc u9 ++ mty mc) s9 ∧ va_P (dC, dI) vwCl (luW xa xc S u9 ++ mw ma mc S) H ∧ va_D (lA s9) (luW xa xc S u9 ++ mw ma mc S) ∧ va_S (lA s9) s9.heap H locs
def lw2 (a9 b9 : Int32) : Int64 := (a9.toInt64 <<< ((32 : Int32).toInt64 &&& 63)) ||| (b9.toInt64 &&& 4294967295)
theorem lw_hc {j9 L9 i9 : Nat} (hL : L9 ≤ 3072) (hi : i9 = 6 * j9) (hiL : i9 + 6 ≤ L9) : 32 + 2 * j9 ≤ room_1.cells ∧ 17271 + 1007 * j9 ≤ room_1.slots := ⟨by show 32 + 2 * j9 ≤ 600000; omega, by show 17271 + 1007 * j9 ≤ 7302250; omega⟩
