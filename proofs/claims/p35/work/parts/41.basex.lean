/-! methods that may throw -/
theorem evK_use {w : Cond} (h : evK w = true) {U : State} {a : Array Value} (hz : va_Nw w U) : w.before a U = true := by
  cases w <;> first | exact va_Nw.use rfl hz | exact absurd h (by simp [evK])
theorem zat {args : Array Value} {s : State} {cy : Cond} (hts : ∀ w ∈ zw cy, w.before args s = true) (hE : Ev s) {L : List Cond} (h1 : ∀ w ∈ L.filter goodWord, w ∈ lw_tbl) (h2 : ∀ w ∈ L.filter (fun w => !goodWord w), w ∈ evL) : ∀ w ∈ L, w.before args s = true :=
  vx_hat (B := evL) (fun w hw => hts w (zw_in (WG_of (h1 w hw) (List.mem_filter.mp hw).2))) h2 (fun w hw => evK_use (List.mem_filter.mp hw).2 (hE.1 w hw))
def zZ (A : Nat → Prop) (U : State) (H : Heap) : Prop := vx_Zq Bundle.tN "UNASSIGNED_STACK" Bundle.steD A U H ∧ vx_Zq Bundle.tN "SUPPRESSED_SENTINEL" Bundle.listD A U H
def zAx (D : va_G) (cI : ClassId × ClassId) (ws : va_W) (sz : Nat) (U : State) : Prop := zA D cI ws sz U ∧ zZ (va_A ws sz) U U.heap
def zX {S : Type} (D : va_G) (A : Nat → Prop) (ex : Option String) (W1 : S → va_W) : String → State → State → Prop := vx_X (fun (_ : S) => True) (fun E u t => ex = some E ∧ zB D A (W1 u) t) A
theorem zblindx {D : va_G} {cI : ClassId × ClassId} {av : List Value} {ws : va_W} {sz : Nat} : FrameBlind (va_Pc av (zAx D cI ws sz)) := fun a U g mk h => by
  obtain ⟨h0, h1, h2, h3⟩ := h
  exact ⟨h0, (zblind (av := av) a U g mk ⟨h0, h1⟩).2, vx_Zq.moved (u := U) (U := U.calling g mk a) (Vm.Alike.refl U.vm) h2, vx_Zq.moved (u := U) (U := U.calling g mk a) (Vm.Alike.refl U.vm) h3⟩
theorem zprex {D : va_G} {cI : ClassId × ClassId} {av : List Value} {ws wc : va_W} {H : Heap} {locs : List Loc} {s : State} {A : Nat → Prop} (hP : va_P D vwCl ws H) (hD : va_D A ws) (hK : va_K D vwCl (zT cI) s) (hE : Ev s) (hZ : zZ A s s.heap) (hS : va_S A s.heap H locs) (hA : ∀ q, s.heap.size ≤ q → A q) (isC : List Nat) (h1 : isC.map (fun i => ws[i]?) = wc.map some) (h2 : va_nd isC = true) : ∀ U : State, U.heap = H → s.WarmedH U.vm → va_Pc av (zAx D cI wc H.size) av.toArray U := fun U hU hW => by
  have hF := va_free (wc := wc) hD hS hA isC h1
  refine ⟨rfl, (zpre (av := av) hP hD hK hE isC h1 h2 U hU hW).2, ?_⟩
  rw [hU]
  exact ⟨((hZ.1.kept hS.2.1).narrow hF).moved hW.alike, ((hZ.2.kept hS.2.1).narrow hF).moved hW.alike⟩
/-- which exceptions no row for another takes -/
def ncL : List (String × String) := [("java/lang/IllegalArgumentException", "java/lang/IllegalStateException"), ("java/lang/IllegalArgumentException", "java/lang/IndexOutOfBoundsException"), ("java/lang/IllegalStateException", "java/lang/IllegalArgumentException"), ("java/lang/IllegalStateException", "java/lang/IndexOutOfBoundsException"), ("java/lang/IndexOutOfBoundsException", "java/lang/IllegalArgumentException"), ("java/lang/IndexOutOfBoundsException", "java/lang/IllegalStateException")]
def Nn (U : State) : Prop := ∀ q ∈ ncL, va_Nc q.1 q.2 U
def zAw (D : va_G) (cI : ClassId × ClassId) (ws : va_W) (sz : Nat) (U : State) : Prop := zAx D cI ws sz U ∧ Nn U
theorem zblindw {D : va_G} {cI : ClassId × ClassId} {av : List Value} {ws : va_W} {sz : Nat} : FrameBlind (va_Pc av (zAw D cI ws sz)) := fun a U g mk h => by
  obtain ⟨h0, h1, h2⟩ := h
  exact ⟨h0, (zblindx (av := av) a U g mk ⟨h0, h1⟩).2, fun q hq => va_Nc.moved (u := U) (U := U.calling g mk a) (Vm.Alike.refl U.vm) (h2 q hq)⟩
theorem zprew {D : va_G} {cI : ClassId × ClassId} {av : List Value} {ws wc : va_W} {H : Heap} {locs : List Loc} {s : State} {A : Nat → Prop} (hP : va_P D vwCl ws H) (hD : va_D A ws) (hK : va_K D vwCl (zT cI) s) (hE : Ev s) (hZ : zZ A s s.heap) (hN : Nn s) (hS : va_S A s.heap H locs) (hA : ∀ q, s.heap.size ≤ q → A q) (isC : List Nat) (h1 : isC.map (fun i => ws[i]?) = wc.map some) (h2 : va_nd isC = true) : ∀ U : State, U.heap = H → s.WarmedH U.vm → va_Pc av (zAw D cI wc H.size) av.toArray U := fun U hU hW =>
  ⟨rfl, (zprex (av := av) hP hD hK hE hZ hS hA isC h1 h2 U hU hW).2, fun q hq => va_Nc.moved hW.alike (hN q hq)⟩
section ZHX
variable {l : Launch} {y : MethodName} {rm : Room} {D : va_G} {cI : ClassId × ClassId} {sz : Nat} {av : List Value} {W0 : va_W} {Qc : Array Value → State → Outcome → State → Prop} {XC : String → State → State → Prop} {mc ms : Nat} {cc : ByteArray} {maxL : Nat} {ret : Option FieldType} {C : String}
theorem zheadx (hy : plainName y.cls = true) (hyc : y.cls = C)
    (body : ∀ (p : Program) (e : Env) (s : State) (m : MethodId) (below : List Frame) (meth : Method) (c : Code), p.tables.exec = Jvm.exec → c.code = cc → meth.sig.returnType = ret → meth.locks = false → c.maxLocals = maxL → s.vm.findClass C = some m.cls → meth.name = y.name →
      (∀ w ∈ zw (Cond.code y cc maxL ret), w.before av.toArray s = true) → Ev s → va_K D vwCl (zT cI) s → (∀ z ∈ c.exceptionTable.toList, False) → zZ (va_A W0 sz) s s.heap → ∀ (H : Heap), va_P D vwCl W0 H → va_S (va_A W0 sz) s.heap H [] → va_D (va_A W0 sz) W0 → (∀ q : Nat, s.heap.size ≤ q → va_A W0 sz q) →
      W p l e rm s m av.toArray below meth c H [] 0 0 (vx_MQ below Qc XC av.toArray s mc ms (va_A W0 sz)) (entryFrame m av.toArray maxL)) : vx_Met l y (zw (Cond.code y cc maxL ret)) rm (va_Pc av (zAx D cI W0 sz)) Qc XC mc ms (va_A W0 sz) := by
  refine vx_ofW (cc := cc) (maxL := maxL) (ret := ret) hy rfl ?_
  intro p e s m args below meth c s₁ B hml hT hv
  obtain ⟨rfl, ⟨hsz, hP, hK, hD0, hE⟩, hZ⟩ := hv
  subst hsz
  exact body p e s m below meth c B.exec B.bytes B.returns B.notSynchronized hml (hyc ▸ findClass_of_methodNamed B.named) (name_of_methodNamed B.named B.method).1 (atoms_spec (ws := zw (Cond.code y cc maxL ret)) B.pre) hE hK hT hZ s.heap hP va_S.rf hD0.self (fun q h => Or.inr h)
theorem zheadh {hh : List (Nat × Nat × Nat × Nat)} (hy : plainName y.cls = true) (hyc : y.cls = C)
    (body : ∀ (p : Program) (e : Env) (s : State) (m : MethodId) (below : List Frame) (meth : Method) (c : Code), p.tables.exec = Jvm.exec → c.code = cc → meth.sig.returnType = ret → meth.locks = false → c.maxLocals = maxL → s.vm.findClass C = some m.cls → meth.name = y.name →
      (∀ w ∈ zw (Cond.codeWith y cc maxL ret hh), w.before av.toArray s = true) → Ev s → va_K D vwCl (zT cI) s → c.exceptionTable.toList = tableOf hh → zZ (va_A W0 sz) s s.heap → Nn s → ∀ (H : Heap), va_P D vwCl W0 H → va_S (va_A W0 sz) s.heap H [] → va_D (va_A W0 sz) W0 → (∀ q : Nat, s.heap.size ≤ q → va_A W0 sz q) →
      W p l e rm s m av.toArray below meth c H [] 0 0 (vx_MQ below Qc XC av.toArray s mc ms (va_A W0 sz)) (entryFrame m av.toArray maxL)) : vx_Met l y (zw (Cond.codeWith y cc maxL ret hh)) rm (va_Pc av (zAw D cI W0 sz)) Qc XC mc ms (va_A W0 sz) := by
  refine vx_ofWH (cc := cc) (maxL := maxL) (ret := ret) (hh := hh) hy rfl ?_
  intro p e s m args below meth c s₁ B hml hv
  obtain ⟨rfl, ⟨⟨hsz, hP, hK, hD0, hE⟩, hZ⟩, hN⟩ := hv
  subst hsz
  have hts := atoms_spec (ws := zw (Cond.codeWith y cc maxL ret hh)) B.pre
  exact body p e s m below meth c B.exec B.bytes B.returns B.notSynchronized hml (hyc ▸ findClass_of_methodNamed B.named) (name_of_methodNamed B.named B.method).1 hts hE hK (vx_table (x := y) B (hts _ List.mem_cons_self)) hZ hN s.heap hP va_S.rf hD0.self (fun q h => Or.inr h)
end ZHX
section ZRX
variable {p : Program} {l : Launch} {e : Env} {R : Room} {s : State} {m : MethodId} {args : Array Value} {below : List Frame} {meth : Method} {c : Code} {H : Heap} {locs : List Loc} {cells slots : Nat} {Q : State → Prop}
variable {cc : ByteArray} {pc : Nat} {ls : Array Slot} {D : va_G} {A : Nat → Prop} {Qc : Array Value → State → Outcome → State → Prop}
variable {mc ms : Nat} {st0 rest : List Value} {a : Array Value}
theorem zxcall_i {S : Type} {W1 : S → va_W} {X : Int32 → Prop} {ex : Option String} {W0 ws wr : va_W} (hr : vx_Run p l e R s m args below meth c H locs cells slots mc ms (F0 m pc ls st0) rest (zQi D (va_A W0 H.size) X W1 a) (zX D (va_A W0 H.size) ex W1) (va_A W0 H.size)) (hP : va_P D vwCl ws H) (hD : va_D A ws) (hS : va_S A s.heap H locs) (hA : ∀ q, s.heap.size ≤ q → A q) (isC isR : List Nat) (hC : isC.map (fun i => ws[i]?) = W0.map some) (hR : isR.map (fun i => ws[i]?) = wr.map some) (hn : va_nd isR = true) (hdis : ∀ i ∈ isR, i ∉ isC)
    (kx : ∀ (E : String) (ce : Cell) (q9 : Addr) (u : S) (H1 : Heap) (locs1 : List Loc), ex = some E → va_P D vwCl (wr ++ W1 u) H1 → va_D A (wr ++ W1 u) → va_S A s.heap H1 locs1 → H1[q9]? = some ce → ce.vm = .none → s.vm.findClass E = some ce.cls → vx_W p l e R s m args below meth c H1 locs1 (cells + mc) (slots + ms) Q (F0 m pc ls rest) q9)
    (kk : ∀ (r : Int32) (u : S) (H1 : Heap) (locs1 : List Loc), X r → va_P D vwCl (wr ++ W1 u) H1 → va_D A (wr ++ W1 u) → va_S A s.heap H1 locs1 → W p l e R s m args below meth c H1 locs1 (cells + mc) (slots + ms) Q (F0 m (pc + 3) ls (.int r :: rest))) : W p l e R s m args below meth c H locs cells slots Q (F0 m pc ls st0) := by
  have hF := va_free (wc := W0) hD hS hA isC hC
  refine vx_calli hr hS (fun q _ h => hF q h) hF (fun q _ h => hF q h) (fun E ce q9 u t H1 locs1 ht hvm hpx hB hz1 hk1 hS1 hce hcv hcl => ?_) (fun r u t H1 locs1 ht hvm hX hB hz1 hk1 hS1 => ?_)
  · obtain ⟨hex, hP1, hD1⟩ := hB
    rw [ht] at hP1
    obtain ⟨hP2, hD2⟩ := va_join hP hD isC isR hC hR hn hdis hk1 hF hP1 hD1
    exact kx E ce q9 u H1 locs1 hex hP2 hD2 hS1 hce hcv hcl
  · obtain ⟨hP1, hD1⟩ := hB
    rw [ht] at hP1
    obtain ⟨hP2, hD2⟩ := va_join hP hD isC isR hC hR hn hdis hk1 hF hP1 hD1
    exact kk r u H1 locs1 hX hP2 hD2 hS1
theorem zxcall_v {S : Type} {W1 : S → va_W} {X : Prop} {ex : Option String} {W0 ws wr : va_W} (hr : vx_Run p l e R s m args below meth c H locs cells slots mc ms (F0 m pc ls st0) rest (zQv D (va_A W0 H.size) X W1 a) (zX D (va_A W0 H.size) ex W1) (va_A W0 H.size)) (hP : va_P D vwCl ws H) (hD : va_D A ws) (hS : va_S A s.heap H locs) (hA : ∀ q, s.heap.size ≤ q → A q) (isC isR : List Nat) (hC : isC.map (fun i => ws[i]?) = W0.map some) (hR : isR.map (fun i => ws[i]?) = wr.map some) (hn : va_nd isR = true) (hdis : ∀ i ∈ isR, i ∉ isC)
    (kx : ∀ (E : String) (ce : Cell) (q9 : Addr) (u : S) (H1 : Heap) (locs1 : List Loc), ex = some E → va_P D vwCl (wr ++ W1 u) H1 → va_D A (wr ++ W1 u) → va_S A s.heap H1 locs1 → H1[q9]? = some ce → ce.vm = .none → s.vm.findClass E = some ce.cls → vx_W p l e R s m args below meth c H1 locs1 (cells + mc) (slots + ms) Q (F0 m pc ls rest) q9)
    (kk : ∀ (u : S) (H1 : Heap) (locs1 : List Loc), X → va_P D vwCl (wr ++ W1 u) H1 → va_D A (wr ++ W1 u) → va_S A s.heap H1 locs1 → W p l e R s m args below meth c H1 locs1 (cells + mc) (slots + ms) Q (F0 m (pc + 3) ls rest)) : W p l e R s m args below meth c H locs cells slots Q (F0 m pc ls st0) := by
  have hF := va_free (wc := W0) hD hS hA isC hC
  refine vx_callv hr hS (fun q _ h => hF q h) hF (fun q _ h => hF q h) (fun E ce q9 u t H1 locs1 ht hvm hpx hB hz1 hk1 hS1 hce hcv hcl => ?_) (fun u t H1 locs1 ht hvm hX hB hz1 hk1 hS1 => ?_)
  · obtain ⟨hex, hP1, hD1⟩ := hB
    rw [ht] at hP1
    obtain ⟨hP2, hD2⟩ := va_join hP hD isC isR hC hR hn hdis hk1 hF hP1 hD1
    exact kx E ce q9 u H1 locs1 hex hP2 hD2 hS1 hce hcv hcl
  · obtain ⟨hP1, hD1⟩ := hB
    rw [ht] at hP1
    obtain ⟨hP2, hD2⟩ := va_join hP hD isC isR hC hR hn hdis hk1 hF hP1 hD1
    exact kk u H1 locs1 hX hP2 hD2 hS1
theorem zxout {S : Type} {W1 : S → va_W} {ex : Option String} {ws : va_W} {E : String} {ce : Cell} {q9 : Addr} (hT : ∀ z ∈ c.exceptionTable.toList, False) (hlocks : meth.locks = false) (hce : H[q9]? = some ce) (hcv : ce.vm = .none) (hcl : s.vm.findClass E = some ce.cls) (hex : ex = some E) (u : S) (hP : va_P D vwCl ws H) (hD : va_D A ws) (hS : va_S A s.heap H locs) (pm : List Nat) (hp : pm.map (fun i => ws[i]?) = (W1 u).map some) (hnd : va_nd pm = true) (hc : cells ≤ mc) (hs : slots ≤ ms) :
    vx_W p l e R s m args below meth c H locs cells slots (vx_MQ below Qc (zX D A ex W1) args s mc ms A) (F0 m pc ls rest) q9 :=
  vx_out (fun z hz => (hT z hz).elim) hlocks hce hcv hcl (fun t ht hvm => ⟨u, trivial, ⟨hex, by rw [ht]; exact hP.sub pm (zmapf pm (W1 u) hp), hD.sub pm hnd hp⟩, hS.F ht⟩) hS.2.2 hc hs
theorem zxc {S : Type} {W1 : S → va_W} {ex : Option String} {ws : va_W} {E : String} (hex : ex = some E) (u : S) (hP : va_P D vwCl ws H) (hD : va_D A ws) (hS : va_S A s.heap H locs) (pm : List Nat) (hp : pm.map (fun i => ws[i]?) = (W1 u).map some) (hnd : va_nd pm = true) : ∀ t : State, s.vm.Alike t.vm → H.size ≤ t.heap.size → (∀ q : Nat, q < H.size → t.heap[q]? = H[q]?) → zX D A ex W1 E s t := fun t hvm hz hk =>
  ⟨u, trivial, ⟨hex, (hP.sub pm (zmapf pm (W1 u) hp)).kept (fun k q h => hk _ (va_at.lt (hP.sub pm (zmapf pm (W1 u) hp) k q h))), hD.sub pm hnd hp⟩, Nat.le_trans hS.1 hz, fun q hq hA => (hk q (Nat.lt_of_lt_of_le hq hS.1)).trans (hS.2.1 q hq hA)⟩
end ZRX
/-! the law's own methods: calls of methods that may throw, no table of their own -/
section ZHN
variable {l : Launch} {y : MethodName} {rm : Room} {D : va_G} {cI : ClassId × ClassId} {sz : Nat} {av : List Value} {W0 : va_W} {Qc : Array Value → State → Outcome → State → Prop} {mc ms : Nat} {cc : ByteArray} {maxL : Nat} {ret : Option FieldType} {C : String}
theorem zheadn (hy : plainName y.cls = true) (hyc : y.cls = C)
    (body : ∀ (p : Program) (e : Env) (s : State) (m : MethodId) (below : List Frame) (meth : Method) (c : Code), p.tables.exec = Jvm.exec → c.code = cc → meth.sig.returnType = ret → meth.locks = false → c.maxLocals = maxL → s.vm.findClass C = some m.cls → meth.name = y.name →
      (∀ w ∈ zw (Cond.code y cc maxL ret), w.before av.toArray s = true) → Ev s → va_K D vwCl (zT cI) s → zZ (va_A W0 sz) s s.heap → Nn s → ∀ (H : Heap), va_P D vwCl W0 H → va_S (va_A W0 sz) s.heap H [] → va_D (va_A W0 sz) W0 → (∀ q : Nat, s.heap.size ≤ q → va_A W0 sz q) →
      W p l e rm s m av.toArray below meth c H [] 0 0 (MQ below Qc av.toArray s mc ms (va_A W0 sz)) (entryFrame m av.toArray maxL)) : Met l y (zw (Cond.code y cc maxL ret)) rm (va_Pc av (zAw D cI W0 sz)) Qc mc ms (va_A W0 sz) := by
  refine Met.ofW (cc := cc) (maxL := maxL) (ret := ret) hy rfl ?_
  intro p e s m args below meth c s₁ B hml hv
  obtain ⟨rfl, ⟨⟨hsz, hP, hK, hD0, hE⟩, hZ⟩, hN⟩ := hv
  subst hsz
  exact body p e s m below meth c B.exec B.bytes B.returns B.notSynchronized hml (hyc ▸ findClass_of_methodNamed B.named) (name_of_methodNamed B.named B.method).1 (atoms_spec (ws := zw (Cond.code y cc maxL ret)) B.pre) hE hK hZ hN s.heap hP va_S.rf hD0.self (fun q h => Or.inr h)
end ZHN
/-! a method that reads the script -/
def zAc (b L : Nat) (xs : Nat → Int32) (sz : Nat) (U : State) : Prop := U.heap.size = sz ∧ va_X b L xs U U.heap ∧ b < sz
theorem zblindc {av : List Value} {b L : Nat} {xs : Nat → Int32} {sz : Nat} : FrameBlind (va_Pc av (zAc b L xs sz)) := fun a U g mk h => by
  obtain ⟨h0, h1, h2, h3⟩ := h
  exact ⟨h0, h1, va_X.moved (u := U) (U := U.calling g mk a) (Vm.Alike.refl U.vm) h2, h3⟩
theorem zprec {av : List Value} {b L : Nat} {xs : Nat → Int32} {s : State} {H : Heap} {locs : List Loc} {A : Nat → Prop} (hX : va_X b L xs s s.heap) (hbl : b < s.heap.size) (hbA : ¬ A b) (hS : va_S A s.heap H locs) : ∀ U : State, U.heap = H → s.WarmedH U.vm → va_Pc av (zAc b L xs H.size) av.toArray U := fun U hU hW => by
  refine ⟨rfl, by rw [hU], ?_, Nat.lt_of_lt_of_le hbl hS.1⟩
  rw [hU]
  exact (hX.kept (hS.2.1 b hbl hbA)).moved hW.alike
theorem ztout {x : Int32} {lo hi : Int} (h : ∀ k : Int, lo ≤ k → k ≤ hi → ¬ x = Int32.ofInt k) : x.toInt < lo ∨ hi < x.toInt := by
  by_cases h1 : x.toInt < lo
  · exact Or.inl h1
  · by_cases h2 : hi < x.toInt
    · exact Or.inr h2
    · exact absurd (Int32.ofInt_toInt x).symm (h x.toInt (by omega) (by omega))
