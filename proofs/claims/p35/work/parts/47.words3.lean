theorem kw_566 : Cond.constant RL 7 1170713075 ∈ WG := WG_of (List.mem_append_right _ (List.mem_append_right _ (List.mem_append_left _ (List.mem_of_getElem? (i := 23) (by rfl))))) (by rfl)
theorem kw_567 : Cond.classLink RL 9 RX9 ∈ WG := WG_of (List.mem_append_right _ (List.mem_append_left _ (List.mem_of_getElem? (i := 17) (by rfl)))) (by rfl)
theorem kw_568 : Cond.instantiable RX9 10 ∈ WG := WG_of (List.mem_append_right _ (List.mem_append_left _ (List.mem_of_getElem? (i := 18) (by rfl)))) (by rfl)
theorem kw_569 : Cond.code yX9_init cX9_init 1 none ∈ WG := WG_of (List.mem_append_right _ (List.mem_append_left _ (List.mem_of_getElem? (i := 21) (by rfl)))) (by rfl)
theorem kw_570 : Cond.methodLink RL 218 yX9_init ∈ WG := WG_of (List.mem_append_right _ (List.mem_append_left _ (List.mem_of_getElem? (i := 19) (by rfl)))) (by rfl)
theorem kw_571 : Cond.instanceMethod yX9_init ∈ WG := WG_of (List.mem_append_right _ (List.mem_append_left _ (List.mem_of_getElem? (i := 20) (by rfl)))) (by rfl)
theorem kw_572 : Cond.arrayClass .long ∈ WG := WG_of (List.mem_append_right _ (List.mem_append_right _ (List.mem_append_right _ (List.mem_append_right _ (List.mem_of_getElem? (i := 99) (by rfl)))))) (by rfl)
theorem kw_573 : Cond.code yL_isTold cL_isTold 21 (some .boolean) ∈ WG := WG_of (List.mem_append_right _ (List.mem_append_right _ (List.mem_append_right _ (List.mem_append_left _ (List.mem_of_getElem? (i := 164) (by rfl)))))) (by rfl)
theorem kw_574 : Cond.methodLink RL 219 yL_isTold ∈ WG := WG_of (List.mem_append_right _ (List.mem_append_right _ (List.mem_append_right _ (List.mem_append_left _ (List.mem_of_getElem? (i := 162) (by rfl)))))) (by rfl)
theorem kw_575 : Cond.static yL_isTold ∈ WG := WG_of (List.mem_append_right _ (List.mem_append_right _ (List.mem_append_right _ (List.mem_append_left _ (List.mem_of_getElem? (i := 163) (by rfl)))))) (by rfl)
theorem kw_576 : Cond.methodLink RL 223 yL_cell ∈ WG := WG_of (List.mem_append_right _ (List.mem_append_right _ (List.mem_append_left _ (List.mem_of_getElem? (i := 20) (by rfl))))) (by rfl)
theorem kw_577 : Cond.static yL_cell ∈ WG := WG_of (List.mem_append_right _ (List.mem_append_right _ (List.mem_append_left _ (List.mem_of_getElem? (i := 21) (by rfl))))) (by rfl)
theorem kw_578 : Cond.code yL_cell cL_cell 2 (some .int) ∈ WG := WG_of (List.mem_append_right _ (List.mem_append_right _ (List.mem_append_left _ (List.mem_of_getElem? (i := 22) (by rfl))))) (by rfl)
theorem kw_579 : Cond.code yL_product cL_product 20 (some .boolean) ∈ WG := WG_of (List.mem_append_right _ (List.mem_append_right _ (List.mem_append_left _ (List.mem_of_getElem? (i := 26) (by rfl))))) (by rfl)
theorem kw_580 : Cond.methodLink RL 227 yL_product ∈ WG := WG_of (List.mem_append_right _ (List.mem_append_right _ (List.mem_append_left _ (List.mem_of_getElem? (i := 24) (by rfl))))) (by rfl)
theorem kw_581 : Cond.static yL_product ∈ WG := WG_of (List.mem_append_right _ (List.mem_append_right _ (List.mem_append_left _ (List.mem_of_getElem? (i := 25) (by rfl))))) (by rfl)
theorem kw_582 : Cond.code yL_choices cL_choices 15 (some .boolean) ∈ WG := WG_of (List.mem_append_right _ (List.mem_append_right _ (List.mem_append_right _ (List.mem_append_left _ (List.mem_of_getElem? (i := 51) (by rfl)))))) (by rfl)
theorem kw_583 : Cond.methodLink RL 231 yL_choices ∈ WG := WG_of (List.mem_append_right _ (List.mem_append_right _ (List.mem_append_right _ (List.mem_append_left _ (List.mem_of_getElem? (i := 49) (by rfl)))))) (by rfl)
theorem kw_584 : Cond.static yL_choices ∈ WG := WG_of (List.mem_append_right _ (List.mem_append_right _ (List.mem_append_right _ (List.mem_append_left _ (List.mem_of_getElem? (i := 50) (by rfl)))))) (by rfl)
theorem zKeqL {D : va_G} {cl : List vw_C} {U : State} {cI : ClassId × ClassId} {cA : ClassId} (h : va_K D cl (zT cI ++ [(cA, .long)]) U) : cA = cI.2 := by
  have h1 := (h.2 1 _ rfl).2
  have h2 := (h.2 2 _ rfl).2
  exact Option.some.inj (h2.symm.trans h1)
def R_law : String := "ProductConfiguratorLaw"
def lw_P (b : Addr) (xs : List Int32) (args : Array Value) (s : State) : Prop := args = #[.ref b] ∧ s.IntsAt b xs ∧ xs.length ≤ 260 ∧ (Jvm.Cond.and given_1 narrow_1).before args s = true
def lw_Q (_ : Array Value) (s : State) (o : Outcome) (t : State) : Prop := o = .returned (some (.int 1)) ∧ Framed s o t [] 600086 7301442
def lw_Z (below : List Frame) (a : Array Value) (s : State) : State → Prop := fun t => ∃ o, t.status = .running ∧ Ended t below o ∧ lw_Q a s o t
/-- the law's own end, with 1 on the stack, nothing written that was there before, its room as the claim has it -/
theorem lw_ret {p : Program} {l : Launch} {e : Env} {s : State} {m : MethodId} {below : List Frame} {meth : Method} {c : Code} {b : Nat} (hx : p.tables.exec = Jvm.exec) (hb : c.code = code) (hr : meth.sig.returnType = ret) (hlocks : meth.locks = false) {pc : Nat} {H : Heap} {ls : Array Slot} (hdg : decode code pc = .ok (.ireturn, 1)) : W p l e room_1 s m #[Value.ref b] below meth c H [] 600086 7301442 (lw_Z below #[Value.ref b] s) (F0 m pc ls [.int 1]) := by
  intro T hT X
  obtain ⟨fs, hret, hrun, hended, hW, hframe⟩ := X.leave (v := some (.int 1)) (hlocks := hlocks) (fun h => by rw [hr] at h; cases h)
  have hmeth' : T.vm.method? m = some meth := X.method'
  refine ⟨T.setFrames fs, ?_, .returned (some (.int 1)), hrun, hended, rfl, ⟨_, rfl⟩, hW, hframe⟩
  jvm_step X.here [X.here.top, hx, hb, hdg, hmeth', hr, ret, narrow_b1]
  (try refine ⟨rfl, ?_⟩); (try refine ⟨rfl, ?_⟩)
  first | (intro acts; rw [hret _ acts rfl rfl rfl]) | rw [hret _ _ rfl rfl rfl]
  exact Steps.refl _
/-- what holds at the law's entry: the machine, the code, the tables' words (any of lw_tbl by 'hts w (by decide +kernel)'), the script of L ints xs at the cell b, what the Statement gives of the start (any of its parts by flat_of_before) -/
def lw_At (p : Program) (s : State) (m : MethodId) (meth : Method) (c : Code) (b L : Nat) (xs : Nat → Int32) : Prop :=
  p.tables.exec = Jvm.exec ∧ c.code = code ∧ meth.sig.returnType = ret ∧ c.maxLocals = 15 ∧ s.vm.findClass R_law = some m.cls ∧ (∀ w ∈ lw_tbl, w.before #[Value.ref b] s = true) ∧ va_X b L xs s s.heap ∧ b < s.heap.size ∧ meth.locks = false ∧ (Jvm.Cond.and given_1 narrow_1).before #[Value.ref b] s = true
