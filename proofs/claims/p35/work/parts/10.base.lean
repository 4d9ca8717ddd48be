/-! the words of every method: all good words of the tables behind the method's own code -/
def WG : List Cond := lw_tbl.filter goodWord
theorem WG_of {w : Cond} (h : w ∈ lw_tbl) (g : goodWord w = true) : w ∈ WG := List.mem_filter.mpr ⟨h, g⟩
theorem WG_good {w : Cond} (h : w ∈ WG) : (w.onTables && w.keeps) = true ∨ ∃ ty, w = .arrayClass ty := good_of_word (List.mem_filter.mp h).2
def zw (y : Cond) : List Cond := y :: WG
theorem zw_in {y w : Cond} (h : w ∈ WG) : w ∈ zw y := List.mem_cons_of_mem _ h
theorem zG_B {cx cy : Cond} (h : cy ∈ WG) : GoodIn (zw cx) (zw cy) := fun w hw => by
  rcases List.mem_cons.mp hw with rfl | hw
  · exact ⟨zw_in h, WG_good h⟩
  · exact ⟨zw_in hw, WG_good hw⟩
theorem zG_S {cx cy : Cond} {own : String} {idx : Nat} {y : MethodName} (h1 : Cond.methodLink own idx y ∈ WG) (h2 : Cond.static y ∈ WG) (h3 : Cond.initialized y.cls ∈ WG) (h4 : cy ∈ WG) : GoodIn (zw cx) (va_wsS own idx y (zw cy)) := fun w hw => by
  rcases List.mem_append.mp hw with hw | hw
  · simp only [List.mem_cons, List.mem_nil_iff, or_false] at hw
    rcases hw with rfl | rfl | rfl
    · exact ⟨zw_in h1, WG_good h1⟩
    · exact ⟨zw_in h2, WG_good h2⟩
    · exact ⟨zw_in h3, WG_good h3⟩
  · exact zG_B h4 w hw
theorem zG_V {cx cy : Cond} {own C : String} {idx : Nat} {y : MethodName} (h1 : Cond.methodLink own idx y ∈ WG) (h2 : Cond.instanceMethod y ∈ WG) (h3 : Cond.selects C y y ∈ WG) (h5 : Cond.initialized C ∈ WG) (h4 : cy ∈ WG) : GoodIn (zw cx) (wsV own idx C y (zw cy)) := fun w hw => by
  rcases List.mem_append.mp hw with hw | hw
  · simp only [List.mem_cons, List.mem_nil_iff, or_false] at hw
    rcases hw with rfl | rfl | rfl | rfl
    · exact ⟨zw_in h1, WG_good h1⟩
    · exact ⟨zw_in h2, WG_good h2⟩
    · exact ⟨zw_in h3, WG_good h3⟩
    · exact ⟨zw_in h5, WG_good h5⟩
  · exact zG_B h4 w hw
/-! what a method needs of the tables beside good words -/
def evK : Cond → Bool
  | .methodLinkNest .. => true
  | .castable .. => true
  | .declares .. => true
  | _ => false
theorem evK_warm {w : Cond} (h : evK w = true) {s U : State} (hW : s.WarmedH U.vm) (hz : va_Nw w s) : va_Nw w U := by
  cases w <;> first | exact va_Nw.warmM hW hz | exact va_Nw.warmC hW hz | exact va_Nw.warmD hW hz | exact absurd h (by simp [evK])
theorem evK_same {w : Cond} (h : evK w = true) {u U : State} (hv : u.vm = U.vm) (hz : va_Nw w u) : va_Nw w U := by
  cases w <;> first | exact va_Nw.same rfl hv hz | exact absurd h (by simp [evK])
def evL : List Cond := tables_1.filter evK
def evS : List (Nat × String) := tables_1.filterMap (fun w => match w with
  | .stringRef o k tx => if o = "ProductConfigurator" then some (k, tx) else none
  | _ => none)
def Ev (U : State) : Prop := (∀ w ∈ evL, va_Nw w U) ∧ ∀ q ∈ evS, ∃ a, vk_R RX9 q.1 q.2 a U
theorem Ev.warm {s U : State} (hW : s.WarmedH U.vm) (h : Ev s) : Ev U := ⟨fun w hw => evK_warm (List.mem_filter.mp hw).2 hW (h.1 w hw), fun q hq => by
  obtain ⟨a, ha⟩ := h.2 q hq
  exact ⟨a, ha.warm hW⟩⟩
theorem Ev.same {u U : State} (hv : u.vm = U.vm) (h : Ev u) : Ev U := ⟨fun w hw => evK_same (List.mem_filter.mp hw).2 hv (h.1 w hw), fun q hq => by
  obtain ⟨a, ha⟩ := h.2 q hq
  exact ⟨a, ha.same hv.symm⟩⟩
/-! a method's start and end -/
abbrev zT (cI : ClassId × ClassId) : List (ClassId × FieldType) := [(cI.1, .int), (cI.2, .long)]
theorem zKeq {D : va_G} {cl : List vw_C} {U : State} {cI : ClassId × ClassId} {cA : ClassId} (h : va_K D cl (zT cI ++ [(cA, .int)]) U) : cA = cI.1 := by
  have h1 := (h.2 0 _ rfl).2
  have h2 := (h.2 2 _ rfl).2
  exact Option.some.inj (h2.symm.trans h1)
def zA (D : va_G) (cI : ClassId × ClassId) (ws : va_W) (sz : Nat) (U : State) : Prop := U.heap.size = sz ∧ va_P D vwCl ws U.heap ∧ va_K D vwCl (zT cI) U ∧ va_D (fun _ => True) ws ∧ Ev U
def zB (D : va_G) (A : Nat → Prop) (ws : va_W) (t : State) : Prop := va_P D vwCl ws t.heap ∧ va_D A ws
def zQi {S : Type} (D : va_G) (A : Nat → Prop) (X : Int32 → Prop) (W1 : S → va_W) : Array Value → State → Outcome → State → Prop := va_Qi (fun r (_ : S) => X r) (fun u t => zB D A (W1 u) t) A
def zQv {S : Type} (D : va_G) (A : Nat → Prop) (X : Prop) (W1 : S → va_W) : Array Value → State → Outcome → State → Prop := va_Qv (fun (_ : S) => X) (fun u t => zB D A (W1 u) t) A
theorem zblind {D : va_G} {cI : ClassId × ClassId} {av : List Value} {ws : va_W} {sz : Nat} : FrameBlind (va_Pc av (zA D cI ws sz)) := fun a U g mk h => by
  obtain ⟨h0, h1, h2, h3, h4, h5⟩ := h
  exact ⟨h0, h1, h2, va_K.moved (u := U) (U := U.calling g mk a) (Vm.Alike.refl U.vm) h3, h4, Ev.same (u := U) (U := U.calling g mk a) rfl h5⟩
theorem zpre {D : va_G} {cI : ClassId × ClassId} {av : List Value} {ws wc : va_W} {H : Heap} {s : State} {A : Nat → Prop} (hP : va_P D vwCl ws H) (hD : va_D A ws) (hK : va_K D vwCl (zT cI) s) (hE : Ev s) (isC : List Nat) (h1 : isC.map (fun i => ws[i]?) = wc.map some) (h2 : va_nd isC = true) : ∀ U : State, U.heap = H → s.WarmedH U.vm → va_Pc av (zA D cI wc H.size) av.toArray U := fun U hU hW => by
  refine ⟨rfl, by rw [hU], ?_, va_K.moved hW.alike hK, (hD.sub isC h2 h1).weaken (fun _ _ _ _ => trivial), hE.warm hW⟩
  rw [hU]
  refine hP.sub isC ?_
  have h3 : ∀ (is : List Nat) (w : va_W), is.map (fun i => ws[i]?) = w.map some → is.filterMap (fun i => ws[i]?) = w := by
    intro is
    induction is with
    | nil => intro w h; cases w with
      | nil => rfl
      | cons a w => cases h
    | cons i is ih => intro w h; cases w with
      | nil => cases h
      | cons a w =>
        have h' : ws[i]? = some a ∧ is.map (fun i => ws[i]?) = w.map some := by
          simpa using h
        simp only [List.filterMap_cons, h'.1]
        rw [ih w h'.2]
  exact h3 isC wc h1
section ZH
variable {l : Launch} {y : MethodName} {rm : Room} {D : va_G} {cI : ClassId × ClassId} {sz : Nat} {av : List Value} {W0 : va_W} {Qc : Array Value → State → Outcome → State → Prop} {mc ms : Nat} {cc : ByteArray} {maxL : Nat} {ret : Option FieldType} {C : String}
theorem zhead (hy : plainName y.cls = true) (hyc : y.cls = C)
    (body : ∀ (p : Program) (e : Env) (s : State) (m : MethodId) (below : List Frame) (meth : Method) (c : Code), p.tables.exec = Jvm.exec → c.code = cc → meth.sig.returnType = ret → meth.locks = false → c.maxLocals = maxL → s.vm.findClass C = some m.cls → meth.name = y.name →
      (∀ w ∈ zw (Cond.code y cc maxL ret), w.before av.toArray s = true) → Ev s → va_K D vwCl (zT cI) s → ∀ (H : Heap), va_P D vwCl W0 H → va_S (va_A W0 sz) s.heap H [] → va_D (va_A W0 sz) W0 → (∀ q : Nat, s.heap.size ≤ q → va_A W0 sz q) →
      W p l e rm s m av.toArray below meth c H [] 0 0 (MQ below Qc av.toArray s mc ms (va_A W0 sz)) (entryFrame m av.toArray maxL)) : Met l y (zw (Cond.code y cc maxL ret)) rm (va_Pc av (zA D cI W0 sz)) Qc mc ms (va_A W0 sz) := by
  refine Met.ofW (cc := cc) (maxL := maxL) (ret := ret) hy rfl ?_
  intro p e s m args below meth c s₁ B hml hv
  obtain ⟨rfl, hsz, hP, hK, hD0, hE⟩ := hv
  subst hsz
  exact body p e s m below meth c B.exec B.bytes B.returns B.notSynchronized hml (hyc ▸ findClass_of_methodNamed B.named) (name_of_methodNamed B.named B.method).1 (atoms_spec (ws := zw (Cond.code y cc maxL ret)) B.pre) hE hK s.heap hP va_S.rf hD0.self (fun q h => Or.inr h)
end ZH
section ZR
variable {p : Program} {l : Launch} {e : Env} {R : Room} {s : State} {m : MethodId} {args : Array Value} {below : List Frame} {meth : Method} {c : Code} {H : Heap} {locs : List Loc} {cells slots : Nat} {Q : State → Prop}
variable {cc : ByteArray} {pc : Nat} {ls : Array Slot} {D : va_G} {A : Nat → Prop}
theorem zmapf {α : Type} {ws : List α} : ∀ (is : List Nat) (w : List α), is.map (fun i => ws[i]?) = w.map some → is.filterMap (fun i => ws[i]?) = w := by
  intro is
  induction is with
  | nil => intro w h; cases w with
    | nil => rfl
    | cons a w => cases h
  | cons i is ih => intro w h; cases w with
    | nil => cases h
    | cons a w =>
      have h' : ws[i]? = some a ∧ is.map (fun i => ws[i]?) = w.map some := by
        simpa using h
      simp only [List.filterMap_cons, h'.1]
      rw [ih w h'.2]
theorem zret_i {S : Type} {W1 : S → va_W} {X : Int32 → Prop} {ws : va_W} {V : Int32} {ty : FieldType} (hx : p.tables.exec = Jvm.exec) (hb : c.code = cc) (hr : meth.sig.returnType = some ty) (hn : narrow ty (.int V) = .int V) (hV : X V) (u : S) (hP : va_P D vwCl ws H) (hD : va_D A ws) (hS : va_S A s.heap H locs) (pm : List Nat) (hp : pm.map (fun i => ws[i]?) = (W1 u).map some) (hnd : va_nd pm = true) (hdg : decode cc pc = .ok (.ireturn, 1)) (hlocks : meth.locks = false) : W p l e R s m args below meth c H locs cells slots (MQ below (zQi D A X W1) args s cells slots A) (F0 m pc ls [.int V]) :=
  W.zret hx hb hr hn (fun t ht hW => ⟨⟨V, u, rfl, hV, by rw [ht]; exact hP.sub pm (zmapf pm (W1 u) hp), hD.sub pm hnd hp⟩, hS.F ht⟩) hS.2.2 hdg hlocks
theorem zret_v {S : Type} {W1 : S → va_W} {X : Prop} {ws : va_W} (hx : p.tables.exec = Jvm.exec) (hb : c.code = cc) (hr : meth.sig.returnType = none) (hV : X) (u : S) (hP : va_P D vwCl ws H) (hD : va_D A ws) (hS : va_S A s.heap H locs) (pm : List Nat) (hp : pm.map (fun i => ws[i]?) = (W1 u).map some) (hnd : va_nd pm = true) (hdg : decode cc pc = .ok (.return_, 1)) (hlocks : meth.locks = false) : W p l e R s m args below meth c H locs cells slots (MQ below (zQv D A X W1) args s cells slots A) (F0 m pc ls []) :=
  W.vret hx hb hr (fun t ht hW => ⟨⟨u, rfl, hV, by rw [ht]; exact hP.sub pm (zmapf pm (W1 u) hp), hD.sub pm hnd hp⟩, hS.F ht⟩) hS.2.2 hdg hlocks
variable {mc ms : Nat} {st0 rest : List Value} {a : Array Value}
theorem zcall_i {S : Type} {W1 : S → va_W} {X : Int32 → Prop} {W0 ws wr : va_W} (hr : va_Run p l e R s m args below meth c H locs cells slots mc ms (F0 m pc ls st0) rest (zQi D (va_A W0 H.size) X W1 a) (va_A W0 H.size)) (hP : va_P D vwCl ws H) (hD : va_D A ws) (hS : va_S A s.heap H locs) (hA : ∀ q, s.heap.size ≤ q → A q) (isC isR : List Nat) (hC : isC.map (fun i => ws[i]?) = W0.map some) (hR : isR.map (fun i => ws[i]?) = wr.map some) (hn : va_nd isR = true) (hdis : ∀ i ∈ isR, i ∉ isC)
    (kk : ∀ (r : Int32) (u : S) (H1 : Heap) (locs1 : List Loc), X r → va_P D vwCl (wr ++ W1 u) H1 → va_D A (wr ++ W1 u) → va_S A s.heap H1 locs1 → W p l e R s m args below meth c H1 locs1 (cells + mc) (slots + ms) Q (F0 m (pc + 3) ls (.int r :: rest))) : W p l e R s m args below meth c H locs cells slots Q (F0 m pc ls st0) := by
  have hF := va_free (wc := W0) hD hS hA isC hC
  refine va_calli hr hS (fun q _ h => hF q h) hF (fun r u t H1 locs1 ht hvm hX hB hz1 hk1 hS1 => ?_)
  obtain ⟨hP1, hD1⟩ := hB
  rw [ht] at hP1
  obtain ⟨hP2, hD2⟩ := va_join hP hD isC isR hC hR hn hdis hk1 hF hP1 hD1
  exact kk r u H1 locs1 hX hP2 hD2 hS1
theorem zcall_v {S : Type} {W1 : S → va_W} {X : Prop} {W0 ws wr : va_W} (hr : va_Run p l e R s m args below meth c H locs cells slots mc ms (F0 m pc ls st0) rest (zQv D (va_A W0 H.size) X W1 a) (va_A W0 H.size)) (hP : va_P D vwCl ws H) (hD : va_D A ws) (hS : va_S A s.heap H locs) (hA : ∀ q, s.heap.size ≤ q → A q) (isC isR : List Nat) (hC : isC.map (fun i => ws[i]?) = W0.map some) (hR : isR.map (fun i => ws[i]?) = wr.map some) (hn : va_nd isR = true) (hdis : ∀ i ∈ isR, i ∉ isC)
    (kk : ∀ (u : S) (H1 : Heap) (locs1 : List Loc), X → va_P D vwCl (wr ++ W1 u) H1 → va_D A (wr ++ W1 u) → va_S A s.heap H1 locs1 → W p l e R s m args below meth c H1 locs1 (cells + mc) (slots + ms) Q (F0 m (pc + 3) ls rest)) : W p l e R s m args below meth c H locs cells slots Q (F0 m pc ls st0) := by
  have hF := va_free (wc := W0) hD hS hA isC hC
  refine va_callv hr hS (fun q _ h => hF q h) hF (fun u t H1 locs1 ht hvm hX hB hz1 hk1 hS1 => ?_)
  obtain ⟨hP1, hD1⟩ := hB
  rw [ht] at hP1
  obtain ⟨hP2, hD2⟩ := va_join hP hD isC isR hC hR hn hdis hk1 hF hP1 hD1
  exact kk u H1 locs1 hX hP2 hD2 hS1
end ZR
/-! pure steps -/
theorem zit {c : Prop} [Decidable c] {α : Type} {a b r : α} (h : (if c then a else b) = r) (hc : c) : a = r := by rw [if_pos hc] at h; exact h
theorem zif {c : Prop} [Decidable c] {α : Type} {a b r : α} (h : (if c then a else b) = r) (hc : ¬ c) : b = r := by rw [if_neg hc] at h; exact h
theorem zib {c : Prop} [Decidable c] {α : Type} {a : Option α} {r : α} (h : (if c then none else a) = some r) : ¬ c ∧ a = some r := by
  by_cases hc : c
  · rw [if_pos hc] at h; cases h
  · rw [if_neg hc] at h; exact ⟨hc, h⟩
theorem zbd {α β : Type} {x : Option α} {f : α → Option β} {r : β} (h : x.bind f = some r) : ∃ v, x = some v ∧ f v = some r := by
  cases x with
  | none => cases h
  | some v => exact ⟨v, rfl, h⟩
theorem zlook2 {x : Int32} {o0 o1 d : Int} (h0 : ¬ x = 0) (h1 : ¬ x = 1) : Op.lookupswitch.offset [(0, o0), (1, o1)] d x.toInt = d := by
  rw [lv_osw (k := 0) (a := 0) h0 (by decide), lv_osw (k := 1) (a := 1) h1 (by decide)]
  rfl
