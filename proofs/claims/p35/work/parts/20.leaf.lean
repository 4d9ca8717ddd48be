noncomputable def m_X9_holds  (x0 : Int32) (x1 : Int32) : Option (Int32) :=
  if (x0 >>> (x1 &&& 31)) &&& (1 : Int32) = (0 : Int32) then some (0 : Int32) else some (1 : Int32)
def rm_X9_holds : Room := { frames := 0, cells := 0, slots := 0, locals := 0 }
theorem hd_X9_holds : yX9_holds.cls ≠ "java/lang/invoke/MethodHandle" ∧ yX9_holds.cls ≠ "java/lang/invoke/VarHandle" ∧ (parseMethodDescriptor yX9_holds.desc).map (fun d => d.parameters.length) = some 2 := by decide +kernel
set_option maxHeartbeats 4000000 in
set_option maxRecDepth 100000 in
theorem c_X9_holds (l : Launch) (D : va_G) (cI : ClassId × ClassId) (sz : Nat)   (x0 : Int32) (x1 : Int32) (r : Int32) (hf : m_X9_holds  x0 x1 = some r) : Met l yX9_holds (zw (Cond.code yX9_holds cX9_holds 2 (some .boolean))) rm_X9_holds (va_Pc [.int x0, .int x1] (zA D cI [] sz)) (zQi D (va_A [] sz) (fun v => v = r ∧ narrow .boolean (.int v) = .int v) (fun (u : Unit) => ([] : va_W))) 0 0 (va_A [] sz) := by
  unfold m_X9_holds at hf
  refine zhead (C := RX9) (by decide +kernel) rfl ?_
  intro p e s m below meth c hx hb hr hlocks hml hown hnm hts hE hK H hP hS hD hA
  generalize va_A [] sz = A at hS hD hA ⊢
  have hl := lv_entry ([.int x0, .int x1]) (n := 2) (Nat.le_of_ble_eq_true rfl)
  rw [lg_entry_eq]
  generalize (lg_sl ([.int x0, .int x1]) ++ List.replicate (2 - (lg_sl ([.int x0, .int x1])).length) Slot.unset).toArray = ls at hl ⊢
  have hl : lv_has ls 2 [(0, .int x0), (1, .int x1)] := hl

  refine lv_iload_n hx hb dX9_holds_0 rfl (lv_at hl 0 rfl) ?_
  refine lv_iload_n hx hb dX9_holds_1 rfl (lv_at hl 1 rfl) ?_
  refine lv_ishr hx hb dX9_holds_2 ?_
  refine lv_iconst (v := 1) hx hb dX9_holds_3 (by decide) ?_
  refine lv_iand hx hb dX9_holds_4 ?_
  refine lv_if_eq (tgt := 12) hx hb dX9_holds_5 (by decide) (fun c_1 => ?_) (fun c_1 => ?_)
  · replace hf := zit hf c_1
    refine lv_iconst (v := 0) hx hb dX9_holds_12 (by decide) ?_
    obtain rfl := Option.some.inj hf
    exact zret_i hx hb hr rfl ⟨rfl, rfl⟩ () hP hD hS [] rfl (by decide) dX9_holds_13 hlocks
  · replace hf := zif hf c_1
    refine lv_iconst (v := 1) hx hb dX9_holds_8 (by decide) ?_
    refine lv_goto (tgt := 13) hx hb dX9_holds_9 (by decide) ?_
    obtain rfl := Option.some.inj hf
    exact zret_i hx hb hr rfl ⟨rfl, rfl⟩ () hP hD hS [] rfl (by decide) dX9_holds_13 hlocks
noncomputable def m_X9_slotOf  (x0 : Int32) (x1 : Int32) : Option (Int32) :=
  some ((x0 * (5 : Int32)) + x1)
def rm_X9_slotOf : Room := { frames := 0, cells := 0, slots := 0, locals := 0 }
theorem hd_X9_slotOf : yX9_slotOf.cls ≠ "java/lang/invoke/MethodHandle" ∧ yX9_slotOf.cls ≠ "java/lang/invoke/VarHandle" ∧ (parseMethodDescriptor yX9_slotOf.desc).map (fun d => d.parameters.length) = some 2 := by decide +kernel
set_option maxHeartbeats 4000000 in
set_option maxRecDepth 100000 in
theorem c_X9_slotOf (l : Launch) (D : va_G) (cI : ClassId × ClassId) (sz : Nat)   (x0 : Int32) (x1 : Int32) (r : Int32) (hf : m_X9_slotOf  x0 x1 = some r) : Met l yX9_slotOf (zw (Cond.code yX9_slotOf cX9_slotOf 2 (some .int))) rm_X9_slotOf (va_Pc [.int x0, .int x1] (zA D cI [] sz)) (zQi D (va_A [] sz) (fun v => v = r) (fun (u : Unit) => ([] : va_W))) 0 0 (va_A [] sz) := by
  unfold m_X9_slotOf at hf
  refine zhead (C := RX9) (by decide +kernel) rfl ?_
  intro p e s m below meth c hx hb hr hlocks hml hown hnm hts hE hK H hP hS hD hA
  generalize va_A [] sz = A at hS hD hA ⊢
  have hl := lv_entry ([.int x0, .int x1]) (n := 2) (Nat.le_of_ble_eq_true rfl)
  rw [lg_entry_eq]
  generalize (lg_sl ([.int x0, .int x1]) ++ List.replicate (2 - (lg_sl ([.int x0, .int x1])).length) Slot.unset).toArray = ls at hl ⊢
  have hl : lv_has ls 2 [(0, .int x0), (1, .int x1)] := hl

  refine lv_iload_n hx hb dX9_slotOf_0 rfl (lv_at hl 0 rfl) ?_
  refine lv_iconst (v := 5) hx hb dX9_slotOf_1 (by decide) ?_
  refine lv_imul hx hb dX9_slotOf_2 ?_
  refine lv_iload_n hx hb dX9_slotOf_3 rfl (lv_at hl 1 rfl) ?_
  refine lv_iadd hx hb dX9_slotOf_4 ?_
  obtain rfl := Option.some.inj hf
  exact zret_i hx hb hr rfl rfl () hP hD hS [] rfl (by decide) dX9_slotOf_5 hlocks
noncomputable def m_X9_setOf  (x0 : Int32) (x1 : Int32) : Option (Int32) :=
  some ((x0 >>> ((x1 * (5 : Int32)) &&& 31)) &&& (31 : Int32))
def rm_X9_setOf : Room := { frames := 0, cells := 0, slots := 0, locals := 0 }
theorem hd_X9_setOf : yX9_setOf.cls ≠ "java/lang/invoke/MethodHandle" ∧ yX9_setOf.cls ≠ "java/lang/invoke/VarHandle" ∧ (parseMethodDescriptor yX9_setOf.desc).map (fun d => d.parameters.length) = some 2 := by decide +kernel
set_option maxHeartbeats 4000000 in
set_option maxRecDepth 100000 in
theorem c_X9_setOf (l : Launch) (D : va_G) (cI : ClassId × ClassId) (sz : Nat)   (x0 : Int32) (x1 : Int32) (r : Int32) (hf : m_X9_setOf  x0 x1 = some r) : Met l yX9_setOf (zw (Cond.code yX9_setOf cX9_setOf 2 (some .int))) rm_X9_setOf (va_Pc [.int x0, .int x1] (zA D cI [] sz)) (zQi D (va_A [] sz) (fun v => v = r) (fun (u : Unit) => ([] : va_W))) 0 0 (va_A [] sz) := by
  unfold m_X9_setOf at hf
  refine zhead (C := RX9) (by decide +kernel) rfl ?_
  intro p e s m below meth c hx hb hr hlocks hml hown hnm hts hE hK H hP hS hD hA
  generalize va_A [] sz = A at hS hD hA ⊢
  have hl := lv_entry ([.int x0, .int x1]) (n := 2) (Nat.le_of_ble_eq_true rfl)
  rw [lg_entry_eq]
  generalize (lg_sl ([.int x0, .int x1]) ++ List.replicate (2 - (lg_sl ([.int x0, .int x1])).length) Slot.unset).toArray = ls at hl ⊢
  have hl : lv_has ls 2 [(0, .int x0), (1, .int x1)] := hl

  refine lv_iload_n hx hb dX9_setOf_0 rfl (lv_at hl 0 rfl) ?_
  refine lv_iload_n hx hb dX9_setOf_1 rfl (lv_at hl 1 rfl) ?_
  refine lv_iconst (v := 5) hx hb dX9_setOf_2 (by decide) ?_
  refine lv_imul hx hb dX9_setOf_3 ?_
  refine lv_ishr hx hb dX9_setOf_4 ?_
  refine lv_bipush (v := 31) hx hb dX9_setOf_5 (by decide) ?_
  refine lv_iand hx hb dX9_setOf_7 ?_
  obtain rfl := Option.some.inj hf
  exact zret_i hx hb hr rfl rfl () hP hD hS [] rfl (by decide) dX9_setOf_8 hlocks
noncomputable def m_X9_only  (x0 : Int32) (x1 : Int32) (x2 : Int32) : Option (Int32) :=
  (m_X9_slotOf x1 x2).bind fun u_1 => some ((x0 &&& (((31 : Int32) <<< ((x1 * (5 : Int32)) &&& 31)) ^^^ (-1 : Int32))) ||| ((1 : Int32) <<< (u_1 &&& 31)))
def rm_X9_only : Room := { frames := 1, cells := 0, slots := 0, locals := 21 }
theorem hd_X9_only : yX9_only.cls ≠ "java/lang/invoke/MethodHandle" ∧ yX9_only.cls ≠ "java/lang/invoke/VarHandle" ∧ (parseMethodDescriptor yX9_only.desc).map (fun d => d.parameters.length) = some 3 := by decide +kernel
set_option maxHeartbeats 4000000 in
set_option maxRecDepth 100000 in
theorem c_X9_only (l : Launch) (D : va_G) (cI : ClassId × ClassId) (sz : Nat)   (x0 : Int32) (x1 : Int32) (x2 : Int32) (r : Int32) (hf : m_X9_only  x0 x1 x2 = some r) : Met l yX9_only (zw (Cond.code yX9_only cX9_only 3 (some .int))) rm_X9_only (va_Pc [.int x0, .int x1, .int x2] (zA D cI [] sz)) (zQi D (va_A [] sz) (fun v => v = r) (fun (u : Unit) => ([] : va_W))) 0 0 (va_A [] sz) := by
  unfold m_X9_only at hf
  refine zhead (C := RX9) (by decide +kernel) rfl ?_
  intro p e s m below meth c hx hb hr hlocks hml hown hnm hts hE hK H hP hS hD hA
  generalize va_A [] sz = A at hS hD hA ⊢
  have hl := lv_entry ([.int x0, .int x1, .int x2]) (n := 3) (Nat.le_of_ble_eq_true rfl)
  rw [lg_entry_eq]
  generalize (lg_sl ([.int x0, .int x1, .int x2]) ++ List.replicate (3 - (lg_sl ([.int x0, .int x1, .int x2])).length) Slot.unset).toArray = ls at hl ⊢
  have hl : lv_has ls 3 [(0, .int x0), (1, .int x1), (2, .int x2)] := hl

  refine lv_iload_n hx hb dX9_only_0 rfl (lv_at hl 0 rfl) ?_
  refine lv_bipush (v := 31) hx hb dX9_only_1 (by decide) ?_
  refine lv_iload_n hx hb dX9_only_3 rfl (lv_at hl 1 rfl) ?_
  refine lv_iconst (v := 5) hx hb dX9_only_4 (by decide) ?_
  refine lv_imul hx hb dX9_only_5 ?_
  refine lv_ishl hx hb dX9_only_6 ?_
  refine lv_iconst (v := -1) hx hb dX9_only_7 (by decide) ?_
  refine lv_ixor hx hb dX9_only_8 ?_
  refine lv_iand hx hb dX9_only_9 ?_
  refine lv_iconst (v := 1) hx hb dX9_only_10 (by decide) ?_
  refine lv_iload_n hx hb dX9_only_11 rfl (lv_at hl 1 rfl) ?_
  refine lv_iload_n hx hb dX9_only_12 rfl (lv_at hl 2 rfl) ?_
  obtain ⟨u_1, e_1, hf⟩ := zbd hf
  refine zcall_i (wr := []) (va_runS (As := [.int x1, .int x2]) (rest := [.int 1, .int (x0 &&& (((31 : Int32) <<< ((x1 * (5 : Int32)) &&& 31)) ^^^ (-1 : Int32)))]) ⟨hx, hb, hml, hown, hts⟩ (c_X9_slotOf l D cI H.size x1 x2 u_1 e_1) (va_cwS 2 hts (zG_S kw_1 kw_2 kw_3 kw_0) rfl rfl rfl hd_X9_slotOf ⟨Nat.le_of_ble_eq_true rfl, Nat.le_of_ble_eq_true rfl⟩) ⟨zblind, zpre hP hD hK hE [] rfl (by decide)⟩ rfl rfl hl.1 rfl (lv_room (Nat.le_of_ble_eq_true rfl)) dX9_only_13 ⟨Nat.le_of_ble_eq_true rfl, Nat.le_of_ble_eq_true rfl⟩) hP hD hS hA [] [] rfl rfl (by decide) (by decide) (fun r9 uu H locs hX9 hP hD hS => ?_)
  obtain rfl := hX9.symm
  have hP : va_P D vwCl [] H := hP
  have hD : va_D A [] := hD
  refine lv_ishl hx hb dX9_only_16 ?_
  refine lv_ior hx hb dX9_only_17 ?_
  obtain rfl := Option.some.inj hf
  exact zret_i hx hb hr rfl rfl () hP hD hS [] rfl (by decide) dX9_only_18 hlocks
noncomputable def m_X9_isSomeLeftFrom_L2_b (fu : Nat) (x0 : Int32) (x1 : Int32) (x2 : Int32)  (k2 : Int32 → Option (Int32)) (x3 : Int32) : Option (Int32) :=
  if x1 ≤ x3 then some (1 : Int32) else (m_X9_setOf x2 x3).bind fun u_2 => if u_2 = (0 : Int32) then some (0 : Int32) else k2 (x3 + 1)
noncomputable def m_X9_isSomeLeftFrom_L2 (fu : Nat) (x0 : Int32) (x1 : Int32) (x2 : Int32)  (n : Nat) : Int32 → Option (Int32) :=
  Nat.rec (motive := fun _ => Int32 → Option (Int32)) (fun _ => none) (fun _ ih => m_X9_isSomeLeftFrom_L2_b fu x0 x1 x2  ih) n
noncomputable def m_X9_isSomeLeftFrom (fu : Nat)  (x0 : Int32) (x1 : Int32) (x2 : Int32) : Option (Int32) :=
  m_X9_isSomeLeftFrom_L2 fu x0 x1 x2 fu x0
def rm_X9_isSomeLeftFrom : Room := { frames := 1, cells := 0, slots := 0, locals := 21 }
theorem hd_X9_isSomeLeftFrom : yX9_isSomeLeftFrom.cls ≠ "java/lang/invoke/MethodHandle" ∧ yX9_isSomeLeftFrom.cls ≠ "java/lang/invoke/VarHandle" ∧ (parseMethodDescriptor yX9_isSomeLeftFrom.desc).map (fun d => d.parameters.length) = some 3 := by decide +kernel
set_option maxHeartbeats 4000000 in
set_option maxRecDepth 100000 in
theorem c_X9_isSomeLeftFrom (l : Launch) (D : va_G) (cI : ClassId × ClassId) (sz : Nat)  (fu : Nat)  (x0 : Int32) (x1 : Int32) (x2 : Int32) (r : Int32) (hf : m_X9_isSomeLeftFrom fu  x0 x1 x2 = some r) : Met l yX9_isSomeLeftFrom (zw (Cond.code yX9_isSomeLeftFrom cX9_isSomeLeftFrom 4 (some .boolean))) rm_X9_isSomeLeftFrom (va_Pc [.int x0, .int x1, .int x2] (zA D cI [] sz)) (zQi D (va_A [] sz) (fun v => v = r ∧ narrow .boolean (.int v) = .int v) (fun (u : Unit) => ([] : va_W))) 0 0 (va_A [] sz) := by
  unfold m_X9_isSomeLeftFrom at hf
  refine zhead (C := RX9) (by decide +kernel) rfl ?_
  intro p e s m below meth c hx hb hr hlocks hml hown hnm hts hE hK H hP hS hD hA
  generalize va_A [] sz = A at hS hD hA ⊢
  have hl := lv_entry ([.int x0, .int x1, .int x2]) (n := 4) (Nat.le_of_ble_eq_true rfl)
  rw [lg_entry_eq]
  generalize (lg_sl ([.int x0, .int x1, .int x2]) ++ List.replicate (4 - (lg_sl ([.int x0, .int x1, .int x2])).length) Slot.unset).toArray = ls at hl ⊢
  have hl : lv_has ls 4 [(0, .int x0), (1, .int x1), (2, .int x2)] := hl

  have w_L2 : ∀ (n : Nat) (x3 : Int32), m_X9_isSomeLeftFrom_L2 fu x0 x1 x2 n x3 = some r → ∀ (H : Heap) (locs : List Loc), va_P D vwCl [] H → va_D A [] → va_S A s.heap H locs → ∀ ls : Array Slot, lv_has ls 4 [(0, .int x0), (1, .int x1), (2, .int x2), (3, .int x3)] → W p l e rm_X9_isSomeLeftFrom s m ([.int x0, .int x1, .int x2] : List Value).toArray below meth c H locs 0 0 (MQ below (zQi D A (fun v => v = r ∧ narrow .boolean (.int v) = .int v) (fun (u : Unit) => ([] : va_W))) ([.int x0, .int x1, .int x2] : List Value).toArray s 0 0 A) (F0 m 2 ls []) := by
    intro n_2
    induction n_2 with
    | zero => intro x3  hf; exact absurd hf (fun h => by cases h)
    | succ n_2 ih_2 =>
      intro x3  hf H locs hP hD hS ls hl
      replace hf : m_X9_isSomeLeftFrom_L2_b fu x0 x1 x2  (m_X9_isSomeLeftFrom_L2 fu x0 x1 x2 n_2) x3 = some r := hf
      unfold m_X9_isSomeLeftFrom_L2_b at hf
      refine lv_iload_n hx hb dX9_isSomeLeftFrom_2 rfl (lv_at hl 3 rfl) ?_
      refine lv_iload_n hx hb dX9_isSomeLeftFrom_3 rfl (lv_at hl 1 rfl) ?_
      refine lv_icmp_ge (tgt := 23) hx hb dX9_isSomeLeftFrom_4 (by decide) (fun c_1 => ?_) (fun c_1 => ?_)
      · replace hf := zit hf c_1
        refine lv_iconst (v := 1) hx hb dX9_isSomeLeftFrom_23 (by decide) ?_
        obtain rfl := Option.some.inj hf
        exact zret_i hx hb hr rfl ⟨rfl, rfl⟩ () hP hD hS [] rfl (by decide) dX9_isSomeLeftFrom_24 hlocks
      · replace hf := zif hf c_1
        refine lv_iload_n hx hb dX9_isSomeLeftFrom_7 rfl (lv_at hl 2 rfl) ?_
        refine lv_iload_n hx hb dX9_isSomeLeftFrom_8 rfl (lv_at hl 3 rfl) ?_
        obtain ⟨u_2, e_2, hf⟩ := zbd hf
        refine zcall_i (wr := []) (va_runS (As := [.int x2, .int x3]) (rest := []) ⟨hx, hb, hml, hown, hts⟩ (c_X9_setOf l D cI H.size x2 x3 u_2 e_2) (va_cwS 2 hts (zG_S kw_5 kw_6 kw_3 kw_4) rfl rfl rfl hd_X9_setOf ⟨Nat.le_of_ble_eq_true rfl, Nat.le_of_ble_eq_true rfl⟩) ⟨zblind, zpre hP hD hK hE [] rfl (by decide)⟩ rfl rfl hl.1 rfl (lv_room (Nat.le_of_ble_eq_true rfl)) dX9_isSomeLeftFrom_9 ⟨Nat.le_of_ble_eq_true rfl, Nat.le_of_ble_eq_true rfl⟩) hP hD hS hA [] [] rfl rfl (by decide) (by decide) (fun r9 uu H locs hX9 hP hD hS => ?_)
        obtain rfl := hX9.symm
        have hP : va_P D vwCl [] H := hP
        have hD : va_D A [] := hD
        refine lv_if_ne (tgt := 17) hx hb dX9_isSomeLeftFrom_12 (by decide) (fun c_3 => ?_) (fun c_3 => ?_)
        · replace hf := zif hf c_3
          refine lv_iinc (v := x3 + 1) (lv' := [(3, .int (x3 + 1)), (0, .int x0), (1, .int x1), (2, .int x2)]) hx hb dX9_isSomeLeftFrom_17 hl (k := 3) rfl rfl (by decide) rfl (fun ls hl => ?_)
          refine lv_goto (tgt := 2) hx hb dX9_isSomeLeftFrom_20 (by decide) ?_
          exact ih_2 (x3 + 1)  hf _ _ (hP.sub [] rfl) (hD.sub [] (by decide) rfl) hS _ (lv_sub hl [1, 2, 3, 0] rfl)
        · replace hf := zit hf c_3
          refine lv_iconst (v := 0) hx hb dX9_isSomeLeftFrom_15 (by decide) ?_
          obtain rfl := Option.some.inj hf
          exact zret_i hx hb hr rfl ⟨rfl, rfl⟩ () hP hD hS [] rfl (by decide) dX9_isSomeLeftFrom_16 hlocks
  refine lv_iload_n hx hb dX9_isSomeLeftFrom_0 rfl (lv_at hl 0 rfl) ?_
  refine lv_istore_n (lv' := [(3, .int x0), (0, .int x0), (1, .int x1), (2, .int x2)]) hx hb dX9_isSomeLeftFrom_1 rfl hl (by decide) rfl (fun ls hl => ?_)
  exact w_L2 fu x0  hf _ _ (hP.sub [] rfl) (hD.sub [] (by decide) rfl) hS _ (lv_sub hl [1, 2, 3, 0] rfl)
noncomputable def m_X9_lowestOf_L2_b (fu : Nat) (x0 : Int32)  (k2 : Int32 → Option (Int32)) (x1 : Int32) : Option (Int32) :=
  if (5 : Int32) ≤ x1 then some (-1 : Int32) else (m_X9_holds x0 x1).bind fun u_2 => if u_2 = (0 : Int32) then k2 (x1 + 1) else some x1
noncomputable def m_X9_lowestOf_L2 (fu : Nat) (x0 : Int32)  (n : Nat) : Int32 → Option (Int32) :=
  Nat.rec (motive := fun _ => Int32 → Option (Int32)) (fun _ => none) (fun _ ih => m_X9_lowestOf_L2_b fu x0  ih) n
noncomputable def m_X9_lowestOf (fu : Nat)  (x0 : Int32) : Option (Int32) :=
  m_X9_lowestOf_L2 fu x0 fu (0 : Int32)
def rm_X9_lowestOf : Room := { frames := 1, cells := 0, slots := 0, locals := 21 }
theorem hd_X9_lowestOf : yX9_lowestOf.cls ≠ "java/lang/invoke/MethodHandle" ∧ yX9_lowestOf.cls ≠ "java/lang/invoke/VarHandle" ∧ (parseMethodDescriptor yX9_lowestOf.desc).map (fun d => d.parameters.length) = some 1 := by decide +kernel
set_option maxHeartbeats 4000000 in
set_option maxRecDepth 100000 in
theorem c_X9_lowestOf (l : Launch) (D : va_G) (cI : ClassId × ClassId) (sz : Nat)  (fu : Nat)  (x0 : Int32) (r : Int32) (hf : m_X9_lowestOf fu  x0 = some r) : Met l yX9_lowestOf (zw (Cond.code yX9_lowestOf cX9_lowestOf 2 (some .int))) rm_X9_lowestOf (va_Pc [.int x0] (zA D cI [] sz)) (zQi D (va_A [] sz) (fun v => v = r) (fun (u : Unit) => ([] : va_W))) 0 0 (va_A [] sz) := by
  unfold m_X9_lowestOf at hf
  refine zhead (C := RX9) (by decide +kernel) rfl ?_
  intro p e s m below meth c hx hb hr hlocks hml hown hnm hts hE hK H hP hS hD hA
  generalize va_A [] sz = A at hS hD hA ⊢
  have hl := lv_entry ([.int x0]) (n := 2) (Nat.le_of_ble_eq_true rfl)
  rw [lg_entry_eq]
  generalize (lg_sl ([.int x0]) ++ List.replicate (2 - (lg_sl ([.int x0])).length) Slot.unset).toArray = ls at hl ⊢
  have hl : lv_has ls 2 [(0, .int x0)] := hl

  have w_L2 : ∀ (n : Nat) (x1 : Int32), m_X9_lowestOf_L2 fu x0 n x1 = some r → ∀ (H : Heap) (locs : List Loc), va_P D vwCl [] H → va_D A [] → va_S A s.heap H locs → ∀ ls : Array Slot, lv_has ls 2 [(0, .int x0), (1, .int x1)] → W p l e rm_X9_lowestOf s m ([.int x0] : List Value).toArray below meth c H locs 0 0 (MQ below (zQi D A (fun v => v = r) (fun (u : Unit) => ([] : va_W))) ([.int x0] : List Value).toArray s 0 0 A) (F0 m 2 ls []) := by
    intro n_2
    induction n_2 with
    | zero => intro x1  hf; exact absurd hf (fun h => by cases h)
    | succ n_2 ih_2 =>
      intro x1  hf H locs hP hD hS ls hl
      replace hf : m_X9_lowestOf_L2_b fu x0  (m_X9_lowestOf_L2 fu x0 n_2) x1 = some r := hf
      unfold m_X9_lowestOf_L2_b at hf
      refine lv_iload_n hx hb dX9_lowestOf_2 rfl (lv_at hl 1 rfl) ?_
      refine lv_iconst (v := 5) hx hb dX9_lowestOf_3 (by decide) ?_
      refine lv_icmp_ge (tgt := 23) hx hb dX9_lowestOf_4 (by decide) (fun c_1 => ?_) (fun c_1 => ?_)
      · replace hf := zit hf c_1
        refine lv_iconst (v := -1) hx hb dX9_lowestOf_23 (by decide) ?_
        obtain rfl := Option.some.inj hf
        exact zret_i hx hb hr rfl rfl () hP hD hS [] rfl (by decide) dX9_lowestOf_24 hlocks
      · replace hf := zif hf c_1
        refine lv_iload_n hx hb dX9_lowestOf_7 rfl (lv_at hl 0 rfl) ?_
        refine lv_iload_n hx hb dX9_lowestOf_8 rfl (lv_at hl 1 rfl) ?_
        obtain ⟨u_2, e_2, hf⟩ := zbd hf
        refine zcall_i (wr := []) (va_runS (As := [.int x0, .int x1]) (rest := []) ⟨hx, hb, hml, hown, hts⟩ (c_X9_holds l D cI H.size x0 x1 u_2 e_2) (va_cwS 2 hts (zG_S kw_8 kw_9 kw_3 kw_7) rfl rfl rfl hd_X9_holds ⟨Nat.le_of_ble_eq_true rfl, Nat.le_of_ble_eq_true rfl⟩) ⟨zblind, zpre hP hD hK hE [] rfl (by decide)⟩ rfl rfl hl.1 rfl (lv_room (Nat.le_of_ble_eq_true rfl)) dX9_lowestOf_9 ⟨Nat.le_of_ble_eq_true rfl, Nat.le_of_ble_eq_true rfl⟩) hP hD hS hA [] [] rfl rfl (by decide) (by decide) (fun r9 uu H locs hX9 hP hD hS => ?_)
        obtain ⟨hX8, hb_2⟩ := hX9
        obtain rfl := hX8.symm
        have hP : va_P D vwCl [] H := hP
        have hD : va_D A [] := hD
        refine lv_if_eq (tgt := 17) hx hb dX9_lowestOf_12 (by decide) (fun c_3 => ?_) (fun c_3 => ?_)
        · replace hf := zit hf c_3
          refine lv_iinc (v := x1 + 1) (lv' := [(1, .int (x1 + 1)), (0, .int x0)]) hx hb dX9_lowestOf_17 hl (k := 1) rfl rfl (by decide) rfl (fun ls hl => ?_)
          refine lv_goto (tgt := 2) hx hb dX9_lowestOf_20 (by decide) ?_
          exact ih_2 (x1 + 1)  hf _ _ (hP.sub [] rfl) (hD.sub [] (by decide) rfl) hS _ (lv_sub hl [1, 0] rfl)
        · replace hf := zif hf c_3
          refine lv_iload_n hx hb dX9_lowestOf_15 rfl (lv_at hl 1 rfl) ?_
          obtain rfl := Option.some.inj hf
          exact zret_i hx hb hr rfl rfl () hP hD hS [] rfl (by decide) dX9_lowestOf_16 hlocks
  refine lv_iconst (v := 0) hx hb dX9_lowestOf_0 (by decide) ?_
  refine lv_istore_n (lv' := [(1, .int 0), (0, .int x0)]) hx hb dX9_lowestOf_1 rfl hl (by decide) rfl (fun ls hl => ?_)
  exact w_L2 fu (0 : Int32)  hf _ _ (hP.sub [] rfl) (hD.sub [] (by decide) rfl) hS _ (lv_sub hl [1, 0] rfl)
noncomputable def m_X0_init   : Option (Int32 × Int32 × Int32 × (Nat → Int32) × (Nat → Int32)) :=
  some ((0 : Int32), (0 : Int32), (0 : Int32), fun _ => 0, fun _ => 0)
def rm_X0_init : Room := { frames := 1, cells := 2, slots := 12, locals := 20 }
theorem hd_X0_init : yX0_init.cls ≠ "java/lang/invoke/MethodHandle" ∧ yX0_init.cls ≠ "java/lang/invoke/VarHandle" ∧ (parseMethodDescriptor yX0_init.desc).map (fun d => d.parameters.length) = some 0 := by decide +kernel
set_option maxHeartbeats 4000000 in
set_option maxRecDepth 100000 in
theorem c_X0_init (l : Launch) (D : va_G) (cI : ClassId × ClassId) (sz : Nat) (a_t : Nat)   (r : Int32 × Int32 × Int32 × (Nat → Int32) × (Nat → Int32)) (hf : m_X0_init   = some r) : Met l yX0_init (zw (Cond.code yX0_init cX0_init 1 none)) rm_X0_init (va_Pc [.ref a_t] (zA D cI [(a_t, .inr (0, [.int 0, .int 0, .null, .null]))] sz)) (zQv D (va_A [(a_t, .inr (0, [.int 0, .int 0, .null, .null]))] sz) (True) (fun (u : Nat × Nat) => ([(a_t, .inr (0, [.int r.2.1, .int r.2.2.1, .ref u.1, .ref u.2])), (u.1, .inl (cI.1, 6, .inl r.2.2.2.1)), (u.2, .inl (cI.1, 6, .inl r.2.2.2.2))] : va_W))) 2 12 (va_A [(a_t, .inr (0, [.int 0, .int 0, .null, .null]))] sz) := by
  unfold m_X0_init at hf
  refine zhead (C := RX0) (by decide +kernel) rfl ?_
  intro p e s m below meth c hx hb hr hlocks hml hown hnm hts hE hK H hP hS hD hA
  generalize va_A [(a_t, .inr (0, [.int 0, .int 0, .null, .null]))] sz = A at hS hD hA ⊢
  have hl := lv_entry ([.ref a_t]) (n := 1) (Nat.le_of_ble_eq_true rfl)
  rw [lg_entry_eq]
  generalize (lg_sl ([.ref a_t]) ++ List.replicate (1 - (lg_sl ([.ref a_t])).length) Slot.unset).toArray = ls at hl ⊢
  have hl : lv_has ls 1 [(0, .ref a_t)] := hl

  refine lv_aload_n hx hb dX0_init_0 rfl (lv_at hl 0 rfl) ?_
  refine W.objInit hx hb hown (hts _ (zw_in kw_10)) (hts _ (zw_in kw_11)) (hts _ (zw_in kw_12)) rfl (by rw [hml]; exact hl.1) rfl dX0_init_1 (Nat.le_of_ble_eq_true rfl) (Nat.le_of_ble_eq_true rfl) ?_
  refine W.eq (g2 := F0 m 4 ls []) rfl ?_
  refine lv_aload_n hx hb dX0_init_4 rfl (lv_at hl 0 rfl) ?_
  refine lv_bipush (v := 6) hx hb dX0_init_5 (by decide) ?_
  refine va_newa (atype := .int) (ty := .int) (N' := 6) (a0 := (6, .inl (fun _ => 0))) hx hb (hts _ (zw_in kw_13)) rfl hK hP hD hS hA (fun _ => rfl) (by decide) (by decide) (Nat.le_of_ble_eq_true rfl) (Nat.le_of_ble_eq_true rfl) (Nat.le_of_ble_eq_true rfl) dX0_init_7 (fun q7 cA H hK9 hP hD hS => ?_)
  obtain rfl := zKeq hK9
  have hP : va_P D vwCl [(a_t, .inr (0, [.int 0, .int 0, .null, .null])), (q7, .inl (cI.1, 6, .inl (fun _ => 0)))] H := hP
  have hD : va_D A [(a_t, .inr (0, [.int 0, .int 0, .null, .null])), (q7, .inl (cI.1, 6, .inl (fun _ => 0)))] := hD
  refine W.widen (k := 1) (n := 6) (Nat.le_of_ble_eq_true rfl) (Nat.le_of_ble_eq_true rfl) ?_
  refine va_putF (D := D) (ci := 0) (v := .ref q7) (ty := (.array .int)) (C := RX0) (T := TX0) (N := 4) hx hb hts (fun w h => zw_in (inX0 w h)) tyX0 tyX0_ok nmX0 hown hK hP hD hS 0 rfl rfl 2 (by decide) (hts _ (zw_in kw_14)) (fun _ h9 => h9) rfl hnm rfl (by decide +kernel) rfl rfl (Nat.le_of_ble_eq_true rfl) dX0_init_9 (fun H locs hP hD hS => ?_)
  have hP : va_P D vwCl [(a_t, .inr (0, [.int 0, .int 0, .ref q7, .null])), (q7, .inl (cI.1, 6, .inl (fun _ => 0)))] H := hP
  have hD : va_D A [(a_t, .inr (0, [.int 0, .int 0, .ref q7, .null])), (q7, .inl (cI.1, 6, .inl (fun _ => 0)))] := hD
  refine lv_aload_n hx hb dX0_init_12 rfl (lv_at hl 0 rfl) ?_
  refine lv_bipush (v := 6) hx hb dX0_init_13 (by decide) ?_
  refine va_newa (atype := .int) (ty := .int) (N' := 6) (a0 := (6, .inl (fun _ => 0))) hx hb (hts _ (zw_in kw_13)) rfl hK hP hD hS hA (fun _ => rfl) (by decide) (by decide) (Nat.le_of_ble_eq_true rfl) (Nat.le_of_ble_eq_true rfl) (Nat.le_of_ble_eq_true rfl) dX0_init_15 (fun q15 cA H hK9 hP hD hS => ?_)
  obtain rfl := zKeq hK9
  have hP : va_P D vwCl [(a_t, .inr (0, [.int 0, .int 0, .ref q7, .null])), (q7, .inl (cI.1, 6, .inl (fun _ => 0))), (q15, .inl (cI.1, 6, .inl (fun _ => 0)))] H := hP
  have hD : va_D A [(a_t, .inr (0, [.int 0, .int 0, .ref q7, .null])), (q7, .inl (cI.1, 6, .inl (fun _ => 0))), (q15, .inl (cI.1, 6, .inl (fun _ => 0)))] := hD
  refine W.widen (k := 2) (n := 12) (Nat.le_of_ble_eq_true rfl) (Nat.le_of_ble_eq_true rfl) ?_
  refine va_putF (D := D) (ci := 0) (v := .ref q15) (ty := (.array .int)) (C := RX0) (T := TX0) (N := 4) hx hb hts (fun w h => zw_in (inX0 w h)) tyX0 tyX0_ok nmX0 hown hK hP hD hS 0 rfl rfl 3 (by decide) (hts _ (zw_in kw_15)) (fun _ h9 => h9) rfl hnm rfl (by decide +kernel) rfl rfl (Nat.le_of_ble_eq_true rfl) dX0_init_17 (fun H locs hP hD hS => ?_)
  have hP : va_P D vwCl [(a_t, .inr (0, [.int 0, .int 0, .ref q7, .ref q15])), (q7, .inl (cI.1, 6, .inl (fun _ => 0))), (q15, .inl (cI.1, 6, .inl (fun _ => 0)))] H := hP
  have hD : va_D A [(a_t, .inr (0, [.int 0, .int 0, .ref q7, .ref q15])), (q7, .inl (cI.1, 6, .inl (fun _ => 0))), (q15, .inl (cI.1, 6, .inl (fun _ => 0)))] := hD
  obtain rfl := Option.some.inj hf
  exact zret_v hx hb hr trivial (q7, q15) hP hD hS [0, 1, 2] rfl (by decide) dX0_init_20 hlocks
noncomputable def m_X0_has (f_t_features : Int32) (x1 : Int32) : Option (Int32) :=
  if x1 < (0 : Int32) then some (0 : Int32) else if (6 : Int32) ≤ x1 then some (0 : Int32) else (m_X9_holds f_t_features x1).bind fun u_3 => if u_3 = (0 : Int32) then some (0 : Int32) else some (1 : Int32)
def rm_X0_has : Room := { frames := 1, cells := 0, slots := 0, locals := 21 }
theorem hd_X0_has : yX0_has.cls ≠ "java/lang/invoke/MethodHandle" ∧ yX0_has.cls ≠ "java/lang/invoke/VarHandle" ∧ (parseMethodDescriptor yX0_has.desc).map (fun d => d.parameters.length) = some 1 := by decide +kernel
set_option maxHeartbeats 4000000 in
set_option maxRecDepth 100000 in
theorem c_X0_has (l : Launch) (D : va_G) (cI : ClassId × ClassId) (sz : Nat) (a_t : Nat) (a_t_order : Nat) (a_t_options : Nat) (f_t_size : Int32) (f_t_features : Int32) (x1 : Int32) (r : Int32) (hf : m_X0_has f_t_features x1 = some r) : Met l yX0_has (zw (Cond.code yX0_has cX0_has 2 (some .boolean))) rm_X0_has (va_Pc [.ref a_t, .int x1] (zA D cI [(a_t, .inr (0, [.int f_t_size, .int f_t_features, .ref a_t_order, .ref a_t_options]))] sz)) (zQi D (va_A [(a_t, .inr (0, [.int f_t_size, .int f_t_features, .ref a_t_order, .ref a_t_options]))] sz) (fun v => v = r ∧ narrow .boolean (.int v) = .int v) (fun (u : Unit) => ([(a_t, .inr (0, [.int f_t_size, .int f_t_features, .ref a_t_order, .ref a_t_options]))] : va_W))) 0 0 (va_A [(a_t, .inr (0, [.int f_t_size, .int f_t_features, .ref a_t_order, .ref a_t_options]))] sz) := by
  unfold m_X0_has at hf
  refine zhead (C := RX0) (by decide +kernel) rfl ?_
  intro p e s m below meth c hx hb hr hlocks hml hown hnm hts hE hK H hP hS hD hA
  generalize va_A [(a_t, .inr (0, [.int f_t_size, .int f_t_features, .ref a_t_order, .ref a_t_options]))] sz = A at hS hD hA ⊢
  have hl := lv_entry ([.ref a_t, .int x1]) (n := 2) (Nat.le_of_ble_eq_true rfl)
  rw [lg_entry_eq]
  generalize (lg_sl ([.ref a_t, .int x1]) ++ List.replicate (2 - (lg_sl ([.ref a_t, .int x1])).length) Slot.unset).toArray = ls at hl ⊢
  have hl : lv_has ls 2 [(0, .ref a_t), (1, .int x1)] := hl

  refine lv_iload_n hx hb dX0_has_0 rfl (lv_at hl 1 rfl) ?_
  refine lv_if_lt (tgt := 25) hx hb dX0_has_1 (by decide) (fun c_1 => ?_) (fun c_1 => ?_)
  · replace hf := zit hf c_1
    refine lv_iconst (v := 0) hx hb dX0_has_25 (by decide) ?_
    obtain rfl := Option.some.inj hf
    exact zret_i hx hb hr rfl ⟨rfl, rfl⟩ () hP hD hS [0] rfl (by decide) dX0_has_26 hlocks
  · replace hf := zif hf c_1
    refine lv_iload_n hx hb dX0_has_4 rfl (lv_at hl 1 rfl) ?_
    refine lv_bipush (v := 6) hx hb dX0_has_5 (by decide) ?_
    refine lv_icmp_ge (tgt := 25) hx hb dX0_has_7 (by decide) (fun c_2 => ?_) (fun c_2 => ?_)
    · replace hf := zit hf c_2
      refine lv_iconst (v := 0) hx hb dX0_has_25 (by decide) ?_
      obtain rfl := Option.some.inj hf
      exact zret_i hx hb hr rfl ⟨rfl, rfl⟩ () hP hD hS [0] rfl (by decide) dX0_has_26 hlocks
    · replace hf := zif hf c_2
      refine lv_aload_n hx hb dX0_has_10 rfl (lv_at hl 0 rfl) ?_
      refine va_get (D := D) (ci := 0) (v := .int f_t_features) (C := RX0) (T := TX0) (N := 4) hx hb hts (fun w h => zw_in (inX0 w h)) hown hK hP 0 rfl rfl 1 (by decide) (hts _ (zw_in kw_16)) (fun _ h9 => h9) rfl dX0_has_11 ?_
      refine lv_iload_n hx hb dX0_has_14 rfl (lv_at hl 1 rfl) ?_
      obtain ⟨u_3, e_3, hf⟩ := zbd hf
      refine zcall_i (wr := [(a_t, .inr (0, [.int f_t_size, .int f_t_features, .ref a_t_order, .ref a_t_options]))]) (va_runSN (As := [.int f_t_features, .int x1]) (rest := []) ⟨hx, hb, hml, hown, hts⟩ (c_X9_holds l D cI H.size f_t_features x1 u_3 e_3) ⟨va_cnB 2 hts (zG_B kw_7) rfl rfl rfl (hE.1 _ kn_0) (hts _ (zw_in kw_3)) hd_X9_holds ⟨Nat.le_of_ble_eq_true rfl, Nat.le_of_ble_eq_true rfl⟩, hts _ (zw_in kw_9), trivial⟩ ⟨zblind, zpre hP hD hK hE [] rfl (by decide)⟩ rfl rfl hl.1 rfl (lv_room (Nat.le_of_ble_eq_true rfl)) dX0_has_15 ⟨Nat.le_of_ble_eq_true rfl, Nat.le_of_ble_eq_true rfl⟩) hP hD hS hA [] [0] rfl rfl (by decide) (by decide) (fun r9 uu H locs hX9 hP hD hS => ?_)
      obtain ⟨hX8, hb_3⟩ := hX9
      obtain rfl := hX8.symm
      have hP : va_P D vwCl [(a_t, .inr (0, [.int f_t_size, .int f_t_features, .ref a_t_order, .ref a_t_options]))] H := hP
      have hD : va_D A [(a_t, .inr (0, [.int f_t_size, .int f_t_features, .ref a_t_order, .ref a_t_options]))] := hD
      refine lv_if_eq (tgt := 25) hx hb dX0_has_18 (by decide) (fun c_4 => ?_) (fun c_4 => ?_)
      · replace hf := zit hf c_4
        refine lv_iconst (v := 0) hx hb dX0_has_25 (by decide) ?_
        obtain rfl := Option.some.inj hf
        exact zret_i hx hb hr rfl ⟨rfl, rfl⟩ () hP hD hS [0] rfl (by decide) dX0_has_26 hlocks
      · replace hf := zif hf c_4
        refine lv_iconst (v := 1) hx hb dX0_has_21 (by decide) ?_
        refine lv_goto (tgt := 26) hx hb dX0_has_22 (by decide) ?_
        obtain rfl := Option.some.inj hf
        exact zret_i hx hb hr rfl ⟨rfl, rfl⟩ () hP hD hS [0] rfl (by decide) dX0_has_26 hlocks
noncomputable def m_X0_optionOf (f_t_features : Int32) (c_t_options : Nat → Int32) (x1 : Int32) : Option (Int32) :=
  (m_X0_has f_t_features x1).bind fun u_1 => if u_1 = (0 : Int32) then some (-1 : Int32) else if x1 < 0 ∨ 6 ≤ (x1).toNatClampNeg then none else some (c_t_options (x1).toNatClampNeg)
def rm_X0_optionOf : Room := { frames := 2, cells := 0, slots := 0, locals := 42 }
theorem hd_X0_optionOf : yX0_optionOf.cls ≠ "java/lang/invoke/MethodHandle" ∧ yX0_optionOf.cls ≠ "java/lang/invoke/VarHandle" ∧ (parseMethodDescriptor yX0_optionOf.desc).map (fun d => d.parameters.length) = some 1 := by decide +kernel
set_option maxHeartbeats 4000000 in
set_option maxRecDepth 100000 in
theorem c_X0_optionOf (l : Launch) (D : va_G) (cI : ClassId × ClassId) (sz : Nat) (a_t : Nat) (a_t_order : Nat) (a_t_options : Nat) (f_t_size : Int32) (f_t_features : Int32) (c_t_options : Nat → Int32) (x1 : Int32) (r : Int32) (hf : m_X0_optionOf f_t_features c_t_options x1 = some r) : Met l yX0_optionOf (zw (Cond.code yX0_optionOf cX0_optionOf 2 (some .int))) rm_X0_optionOf (va_Pc [.ref a_t, .int x1] (zA D cI [(a_t, .inr (0, [.int f_t_size, .int f_t_features, .ref a_t_order, .ref a_t_options])), (a_t_options, .inl (cI.1, 6, .inl c_t_options))] sz)) (zQi D (va_A [(a_t, .inr (0, [.int f_t_size, .int f_t_features, .ref a_t_order, .ref a_t_options])), (a_t_options, .inl (cI.1, 6, .inl c_t_options))] sz) (fun v => v = r) (fun (u : Unit) => ([(a_t, .inr (0, [.int f_t_size, .int f_t_features, .ref a_t_order, .ref a_t_options])), (a_t_options, .inl (cI.1, 6, .inl c_t_options))] : va_W))) 0 0 (va_A [(a_t, .inr (0, [.int f_t_size, .int f_t_features, .ref a_t_order, .ref a_t_options])), (a_t_options, .inl (cI.1, 6, .inl c_t_options))] sz) := by
  unfold m_X0_optionOf at hf
  refine zhead (C := RX0) (by decide +kernel) rfl ?_
  intro p e s m below meth c hx hb hr hlocks hml hown hnm hts hE hK H hP hS hD hA
  generalize va_A [(a_t, .inr (0, [.int f_t_size, .int f_t_features, .ref a_t_order, .ref a_t_options])), (a_t_options, .inl (cI.1, 6, .inl c_t_options))] sz = A at hS hD hA ⊢
  have hl := lv_entry ([.ref a_t, .int x1]) (n := 2) (Nat.le_of_ble_eq_true rfl)
  rw [lg_entry_eq]
  generalize (lg_sl ([.ref a_t, .int x1]) ++ List.replicate (2 - (lg_sl ([.ref a_t, .int x1])).length) Slot.unset).toArray = ls at hl ⊢
  have hl : lv_has ls 2 [(0, .ref a_t), (1, .int x1)] := hl

  refine lv_aload_n hx hb dX0_optionOf_0 rfl (lv_at hl 0 rfl) ?_
  refine lv_iload_n hx hb dX0_optionOf_1 rfl (lv_at hl 1 rfl) ?_
  obtain ⟨u_1, e_1, hf⟩ := zbd hf
  refine zcall_i (wr := [(a_t_options, .inl (cI.1, 6, .inl c_t_options))]) (va_runV (As := [.int x1]) (rest := []) ⟨hx, hb, hml, hown, hts⟩ (c_X0_has l D cI H.size a_t a_t_order a_t_options f_t_size f_t_features x1 u_1 e_1) (cwV 1 hts (zG_V kw_18 kw_19 kw_20 kw_21 kw_17) rfl rfl rfl ⟨rfl, hd_X0_has⟩ ⟨Nat.le_of_ble_eq_true rfl, Nat.le_of_ble_eq_true rfl⟩) ⟨zblind, va_recv hK hP (ci := 0) (q0 := 0) rfl rfl, zpre hP hD hK hE [0] rfl (by decide)⟩ rfl rfl hl.1 rfl (lv_room (Nat.le_of_ble_eq_true rfl)) dX0_optionOf_2 ⟨Nat.le_of_ble_eq_true rfl, Nat.le_of_ble_eq_true rfl⟩) hP hD hS hA [0] [1] rfl rfl (by decide) (by decide) (fun r9 uu H locs hX9 hP hD hS => ?_)
  obtain ⟨hX8, hb_1⟩ := hX9
  obtain rfl := hX8.symm
  have hP : va_P D vwCl [(a_t_options, .inl (cI.1, 6, .inl c_t_options)), (a_t, .inr (0, [.int f_t_size, .int f_t_features, .ref a_t_order, .ref a_t_options]))] H := hP
  have hD : va_D A [(a_t_options, .inl (cI.1, 6, .inl c_t_options)), (a_t, .inr (0, [.int f_t_size, .int f_t_features, .ref a_t_order, .ref a_t_options]))] := hD
  refine lv_if_eq (tgt := 17) hx hb dX0_optionOf_5 (by decide) (fun c_2 => ?_) (fun c_2 => ?_)
  · replace hf := zit hf c_2
    refine lv_iconst (v := -1) hx hb dX0_optionOf_17 (by decide) ?_
    obtain rfl := Option.some.inj hf
    exact zret_i hx hb hr rfl rfl () hP hD hS [1, 0] rfl (by decide) dX0_optionOf_18 hlocks
  · replace hf := zif hf c_2
    refine lv_aload_n hx hb dX0_optionOf_8 rfl (lv_at hl 0 rfl) ?_
    refine va_get (D := D) (ci := 0) (v := .ref a_t_options) (C := RX0) (T := TX0) (N := 4) hx hb hts (fun w h => zw_in (inX0 w h)) hown hK hP 1 rfl rfl 3 (by decide) (hts _ (zw_in kw_15)) (fun _ h9 => h9) rfl dX0_optionOf_9 ?_
    refine lv_iload_n hx hb dX0_optionOf_12 rfl (lv_at hl 1 rfl) ?_
    obtain ⟨b_3, hf⟩ := zib hf
    refine va_iald hx hb hK hP 0 0 (cA := cI.1) rfl rfl b_3 dX0_optionOf_13 ?_
    refine lv_goto (tgt := 18) hx hb dX0_optionOf_14 (by decide) ?_
    obtain rfl := Option.some.inj hf
    exact zret_i hx hb hr rfl rfl () hP hD hS [1, 0] rfl (by decide) dX0_optionOf_18 hlocks
noncomputable def m_X0_add (f_t_size : Int32) (f_t_features : Int32) (c_t_order : Nat → Int32) (c_t_options : Nat → Int32) (x1 : Int32) (x2 : Int32) : Option (Int32 × Int32 × Int32 × (Nat → Int32) × (Nat → Int32)) :=
  if (6 : Int32) ≤ f_t_size then some ((0 : Int32), f_t_size, f_t_features, c_t_order, c_t_options) else (m_X0_has f_t_features x1).bind fun u_2 => if u_2 = (0 : Int32) then if f_t_size < 0 ∨ 6 ≤ (f_t_size).toNatClampNeg then none else if x1 < 0 ∨ 6 ≤ (x1).toNatClampNeg then none else some ((0 : Int32), f_t_size + (1 : Int32), f_t_features ||| ((1 : Int32) <<< (x1 &&& 31)), upd c_t_order (f_t_size).toNatClampNeg x1, upd c_t_options (x1).toNatClampNeg x2) else some ((0 : Int32), f_t_size, f_t_features, c_t_order, c_t_options)
def rm_X0_add : Room := { frames := 2, cells := 0, slots := 0, locals := 42 }
theorem hd_X0_add : yX0_add.cls ≠ "java/lang/invoke/MethodHandle" ∧ yX0_add.cls ≠ "java/lang/invoke/VarHandle" ∧ (parseMethodDescriptor yX0_add.desc).map (fun d => d.parameters.length) = some 2 := by decide +kernel
set_option maxHeartbeats 4000000 in
set_option maxRecDepth 100000 in
theorem c_X0_add (l : Launch) (D : va_G) (cI : ClassId × ClassId) (sz : Nat) (a_t : Nat) (a_t_order : Nat) (a_t_options : Nat) (f_t_size : Int32) (f_t_features : Int32) (c_t_order : Nat → Int32) (c_t_options : Nat → Int32) (x1 : Int32) (x2 : Int32) (r : Int32 × Int32 × Int32 × (Nat → Int32) × (Nat → Int32)) (hf : m_X0_add f_t_size f_t_features c_t_order c_t_options x1 x2 = some r) : Met l yX0_add (zw (Cond.code yX0_add cX0_add 3 none)) rm_X0_add (va_Pc [.ref a_t, .int x1, .int x2] (zA D cI [(a_t, .inr (0, [.int f_t_size, .int f_t_features, .ref a_t_order, .ref a_t_options])), (a_t_order, .inl (cI.1, 6, .inl c_t_order)), (a_t_options, .inl (cI.1, 6, .inl c_t_options))] sz)) (zQv D (va_A [(a_t, .inr (0, [.int f_t_size, .int f_t_features, .ref a_t_order, .ref a_t_options])), (a_t_order, .inl (cI.1, 6, .inl c_t_order)), (a_t_options, .inl (cI.1, 6, .inl c_t_options))] sz) (True) (fun (u : Unit) => ([(a_t, .inr (0, [.int r.2.1, .int r.2.2.1, .ref a_t_order, .ref a_t_options])), (a_t_order, .inl (cI.1, 6, .inl r.2.2.2.1)), (a_t_options, .inl (cI.1, 6, .inl r.2.2.2.2))] : va_W))) 0 0 (va_A [(a_t, .inr (0, [.int f_t_size, .int f_t_features, .ref a_t_order, .ref a_t_options])), (a_t_order, .inl (cI.1, 6, .inl c_t_order)), (a_t_options, .inl (cI.1, 6, .inl c_t_options))] sz) := by
  unfold m_X0_add at hf
  refine zhead (C := RX0) (by decide +kernel) rfl ?_
  intro p e s m below meth c hx hb hr hlocks hml hown hnm hts hE hK H hP hS hD hA
  generalize va_A [(a_t, .inr (0, [.int f_t_size, .int f_t_features, .ref a_t_order, .ref a_t_options])), (a_t_order, .inl (cI.1, 6, .inl c_t_order)), (a_t_options, .inl (cI.1, 6, .inl c_t_options))] sz = A at hS hD hA ⊢
  have hl := lv_entry ([.ref a_t, .int x1, .int x2]) (n := 3) (Nat.le_of_ble_eq_true rfl)
  rw [lg_entry_eq]
  generalize (lg_sl ([.ref a_t, .int x1, .int x2]) ++ List.replicate (3 - (lg_sl ([.ref a_t, .int x1, .int x2])).length) Slot.unset).toArray = ls at hl ⊢
  have hl : lv_has ls 3 [(0, .ref a_t), (1, .int x1), (2, .int x2)] := hl

  refine lv_aload_n hx hb dX0_add_0 rfl (lv_at hl 0 rfl) ?_
  refine va_get (D := D) (ci := 0) (v := .int f_t_size) (C := RX0) (T := TX0) (N := 4) hx hb hts (fun w h => zw_in (inX0 w h)) hown hK hP 0 rfl rfl 0 (by decide) (hts _ (zw_in kw_22)) (fun _ h9 => h9) rfl dX0_add_1 ?_
  refine lv_bipush (v := 6) hx hb dX0_add_4 (by decide) ?_
  refine lv_icmp_ge (tgt := 17) hx hb dX0_add_6 (by decide) (fun c_1 => ?_) (fun c_1 => ?_)
  · replace hf := zit hf c_1
    obtain rfl := Option.some.inj hf
    exact zret_v hx hb hr trivial () hP hD hS [0, 1, 2] rfl (by decide) dX0_add_17 hlocks
  · replace hf := zif hf c_1
    refine lv_aload_n hx hb dX0_add_9 rfl (lv_at hl 0 rfl) ?_
    refine lv_iload_n hx hb dX0_add_10 rfl (lv_at hl 1 rfl) ?_
    obtain ⟨u_2, e_2, hf⟩ := zbd hf
    refine zcall_i (wr := [(a_t_order, .inl (cI.1, 6, .inl c_t_order)), (a_t_options, .inl (cI.1, 6, .inl c_t_options))]) (va_runV (As := [.int x1]) (rest := []) ⟨hx, hb, hml, hown, hts⟩ (c_X0_has l D cI H.size a_t a_t_order a_t_options f_t_size f_t_features x1 u_2 e_2) (cwV 1 hts (zG_V kw_18 kw_19 kw_20 kw_21 kw_17) rfl rfl rfl ⟨rfl, hd_X0_has⟩ ⟨Nat.le_of_ble_eq_true rfl, Nat.le_of_ble_eq_true rfl⟩) ⟨zblind, va_recv hK hP (ci := 0) (q0 := 0) rfl rfl, zpre hP hD hK hE [0] rfl (by decide)⟩ rfl rfl hl.1 rfl (lv_room (Nat.le_of_ble_eq_true rfl)) dX0_add_11 ⟨Nat.le_of_ble_eq_true rfl, Nat.le_of_ble_eq_true rfl⟩) hP hD hS hA [0] [1, 2] rfl rfl (by decide) (by decide) (fun r9 uu H locs hX9 hP hD hS => ?_)
    obtain ⟨hX8, hb_2⟩ := hX9
    obtain rfl := hX8.symm
    have hP : va_P D vwCl [(a_t_order, .inl (cI.1, 6, .inl c_t_order)), (a_t_options, .inl (cI.1, 6, .inl c_t_options)), (a_t, .inr (0, [.int f_t_size, .int f_t_features, .ref a_t_order, .ref a_t_options]))] H := hP
    have hD : va_D A [(a_t_order, .inl (cI.1, 6, .inl c_t_order)), (a_t_options, .inl (cI.1, 6, .inl c_t_options)), (a_t, .inr (0, [.int f_t_size, .int f_t_features, .ref a_t_order, .ref a_t_options]))] := hD
    refine lv_if_eq (tgt := 18) hx hb dX0_add_14 (by decide) (fun c_3 => ?_) (fun c_3 => ?_)
    · replace hf := zit hf c_3
      refine lv_aload_n hx hb dX0_add_18 rfl (lv_at hl 0 rfl) ?_
      refine va_get (D := D) (ci := 0) (v := .ref a_t_order) (C := RX0) (T := TX0) (N := 4) hx hb hts (fun w h => zw_in (inX0 w h)) hown hK hP 2 rfl rfl 2 (by decide) (hts _ (zw_in kw_14)) (fun _ h9 => h9) rfl dX0_add_19 ?_
      refine lv_aload_n hx hb dX0_add_22 rfl (lv_at hl 0 rfl) ?_
      refine va_get (D := D) (ci := 0) (v := .int f_t_size) (C := RX0) (T := TX0) (N := 4) hx hb hts (fun w h => zw_in (inX0 w h)) hown hK hP 2 rfl rfl 0 (by decide) (hts _ (zw_in kw_22)) (fun _ h9 => h9) rfl dX0_add_23 ?_
      refine lv_iload_n hx hb dX0_add_26 rfl (lv_at hl 1 rfl) ?_
      obtain ⟨b_4, hf⟩ := zib hf
      refine va_iast hx hb hK hP hD hS 0 0 (cA := cI.1) rfl rfl b_4 dX0_add_27 (fun H locs hP hD hS => ?_)
      have hP : va_P D vwCl [(a_t_order, .inl (cI.1, 6, .inl (upd c_t_order (f_t_size).toNatClampNeg x1))), (a_t_options, .inl (cI.1, 6, .inl c_t_options)), (a_t, .inr (0, [.int f_t_size, .int f_t_features, .ref a_t_order, .ref a_t_options]))] H := hP
      have hD : va_D A [(a_t_order, .inl (cI.1, 6, .inl (upd c_t_order (f_t_size).toNatClampNeg x1))), (a_t_options, .inl (cI.1, 6, .inl c_t_options)), (a_t, .inr (0, [.int f_t_size, .int f_t_features, .ref a_t_order, .ref a_t_options]))] := hD
      refine lv_aload_n hx hb dX0_add_28 rfl (lv_at hl 0 rfl) ?_
      refine va_get (D := D) (ci := 0) (v := .ref a_t_options) (C := RX0) (T := TX0) (N := 4) hx hb hts (fun w h => zw_in (inX0 w h)) hown hK hP 2 rfl rfl 3 (by decide) (hts _ (zw_in kw_15)) (fun _ h9 => h9) rfl dX0_add_29 ?_
      refine lv_iload_n hx hb dX0_add_32 rfl (lv_at hl 1 rfl) ?_
      refine lv_iload_n hx hb dX0_add_33 rfl (lv_at hl 2 rfl) ?_
      obtain ⟨b_5, hf⟩ := zib hf
      refine va_iast hx hb hK hP hD hS 1 0 (cA := cI.1) rfl rfl b_5 dX0_add_34 (fun H locs hP hD hS => ?_)
      have hP : va_P D vwCl [(a_t_order, .inl (cI.1, 6, .inl (upd c_t_order (f_t_size).toNatClampNeg x1))), (a_t_options, .inl (cI.1, 6, .inl (upd c_t_options (x1).toNatClampNeg x2))), (a_t, .inr (0, [.int f_t_size, .int f_t_features, .ref a_t_order, .ref a_t_options]))] H := hP
      have hD : va_D A [(a_t_order, .inl (cI.1, 6, .inl (upd c_t_order (f_t_size).toNatClampNeg x1))), (a_t_options, .inl (cI.1, 6, .inl (upd c_t_options (x1).toNatClampNeg x2))), (a_t, .inr (0, [.int f_t_size, .int f_t_features, .ref a_t_order, .ref a_t_options]))] := hD
      refine lv_aload_n hx hb dX0_add_35 rfl (lv_at hl 0 rfl) ?_
      refine lv_dup hx hb dX0_add_36 rfl ?_
      refine va_get (D := D) (ci := 0) (v := .int f_t_features) (C := RX0) (T := TX0) (N := 4) hx hb hts (fun w h => zw_in (inX0 w h)) hown hK hP 2 rfl rfl 1 (by decide) (hts _ (zw_in kw_16)) (fun _ h9 => h9) rfl dX0_add_37 ?_
      refine lv_iconst (v := 1) hx hb dX0_add_40 (by decide) ?_
      refine lv_iload_n hx hb dX0_add_41 rfl (lv_at hl 1 rfl) ?_
      refine lv_ishl hx hb dX0_add_42 ?_
      refine lv_ior hx hb dX0_add_43 ?_
      refine va_put (D := D) (ci := 0) (v := .int (f_t_features ||| ((1 : Int32) <<< (x1 &&& 31)))) (ty := .int) (C := RX0) (T := TX0) (N := 4) hx hb hts (fun w h => zw_in (inX0 w h)) tyX0 tyX0_ok nmX0 hown hK hP hD hS 2 rfl rfl 1 (by decide) (hts _ (zw_in kw_16)) (fun _ h9 => h9) rfl (by decide +kernel) rfl rfl (Nat.le_of_ble_eq_true rfl) dX0_add_44 (fun H locs hP hD hS => ?_)
      have hP : va_P D vwCl [(a_t_order, .inl (cI.1, 6, .inl (upd c_t_order (f_t_size).toNatClampNeg x1))), (a_t_options, .inl (cI.1, 6, .inl (upd c_t_options (x1).toNatClampNeg x2))), (a_t, .inr (0, [.int f_t_size, .int (f_t_features ||| ((1 : Int32) <<< (x1 &&& 31))), .ref a_t_order, .ref a_t_options]))] H := hP
      have hD : va_D A [(a_t_order, .inl (cI.1, 6, .inl (upd c_t_order (f_t_size).toNatClampNeg x1))), (a_t_options, .inl (cI.1, 6, .inl (upd c_t_options (x1).toNatClampNeg x2))), (a_t, .inr (0, [.int f_t_size, .int (f_t_features ||| ((1 : Int32) <<< (x1 &&& 31))), .ref a_t_order, .ref a_t_options]))] := hD
      refine lv_aload_n hx hb dX0_add_47 rfl (lv_at hl 0 rfl) ?_
      refine lv_dup hx hb dX0_add_48 rfl ?_
      refine va_get (D := D) (ci := 0) (v := .int f_t_size) (C := RX0) (T := TX0) (N := 4) hx hb hts (fun w h => zw_in (inX0 w h)) hown hK hP 2 rfl rfl 0 (by decide) (hts _ (zw_in kw_22)) (fun _ h9 => h9) rfl dX0_add_49 ?_
      refine lv_iconst (v := 1) hx hb dX0_add_52 (by decide) ?_
      refine lv_iadd hx hb dX0_add_53 ?_
      refine va_put (D := D) (ci := 0) (v := .int (f_t_size + (1 : Int32))) (ty := .int) (C := RX0) (T := TX0) (N := 4) hx hb hts (fun w h => zw_in (inX0 w h)) tyX0 tyX0_ok nmX0 hown hK hP hD hS 2 rfl rfl 0 (by decide) (hts _ (zw_in kw_22)) (fun _ h9 => h9) rfl (by decide +kernel) rfl rfl (Nat.le_of_ble_eq_true rfl) dX0_add_54 (fun H locs hP hD hS => ?_)
      have hP : va_P D vwCl [(a_t_order, .inl (cI.1, 6, .inl (upd c_t_order (f_t_size).toNatClampNeg x1))), (a_t_options, .inl (cI.1, 6, .inl (upd c_t_options (x1).toNatClampNeg x2))), (a_t, .inr (0, [.int (f_t_size + (1 : Int32)), .int (f_t_features ||| ((1 : Int32) <<< (x1 &&& 31))), .ref a_t_order, .ref a_t_options]))] H := hP
      have hD : va_D A [(a_t_order, .inl (cI.1, 6, .inl (upd c_t_order (f_t_size).toNatClampNeg x1))), (a_t_options, .inl (cI.1, 6, .inl (upd c_t_options (x1).toNatClampNeg x2))), (a_t, .inr (0, [.int (f_t_size + (1 : Int32)), .int (f_t_features ||| ((1 : Int32) <<< (x1 &&& 31))), .ref a_t_order, .ref a_t_options]))] := hD
      obtain rfl := Option.some.inj hf
      exact zret_v hx hb hr trivial () hP hD hS [2, 0, 1] rfl (by decide) dX0_add_57 hlocks
    · replace hf := zif hf c_3
      obtain rfl := Option.some.inj hf
      exact zret_v hx hb hr trivial () hP hD hS [2, 0, 1] rfl (by decide) dX0_add_17 hlocks
noncomputable def m_X0_remove_L13_b (fu : Nat) (x1 : Int32)  (k13 : Int32 → Int32 → Int32 → Int32 → (Nat → Int32) → Option (Int32 × Int32 × Int32 × (Nat → Int32))) (x2 : Int32) (x3 : Int32) (f_t_size : Int32) (f_t_features : Int32) (c_t_order : Nat → Int32) : Option (Int32 × Int32 × Int32 × (Nat → Int32)) :=
  if f_t_size ≤ x3 then some ((0 : Int32), x2, f_t_features &&& (((1 : Int32) <<< (x1 &&& 31)) ^^^ (-1 : Int32)), c_t_order) else if x3 < 0 ∨ 6 ≤ (x3).toNatClampNeg then none else if c_t_order (x3).toNatClampNeg = x1 then k13 x2 (x3 + 1) f_t_size f_t_features c_t_order else if x2 < 0 ∨ 6 ≤ (x2).toNatClampNeg then none else k13 (x2 + 1) (x3 + 1) f_t_size f_t_features (upd c_t_order (x2).toNatClampNeg (c_t_order (x3).toNatClampNeg))
noncomputable def m_X0_remove_L13 (fu : Nat) (x1 : Int32)  (n : Nat) : Int32 → Int32 → Int32 → Int32 → (Nat → Int32) → Option (Int32 × Int32 × Int32 × (Nat → Int32)) :=
  Nat.rec (motive := fun _ => Int32 → Int32 → Int32 → Int32 → (Nat → Int32) → Option (Int32 × Int32 × Int32 × (Nat → Int32))) (fun _ _ _ _ _ => none) (fun _ ih => m_X0_remove_L13_b fu x1  ih) n
noncomputable def m_X0_remove (fu : Nat) (f_t_size : Int32) (f_t_features : Int32) (c_t_order : Nat → Int32) (x1 : Int32) : Option (Int32 × Int32 × Int32 × (Nat → Int32)) :=
  (m_X0_has f_t_features x1).bind fun u_1 => if u_1 = (0 : Int32) then some ((0 : Int32), f_t_size, f_t_features, c_t_order) else m_X0_remove_L13 fu x1 fu (0 : Int32) (0 : Int32) f_t_size f_t_features c_t_order
def rm_X0_remove : Room := { frames := 2, cells := 0, slots := 0, locals := 42 }
theorem hd_X0_remove : yX0_remove.cls ≠ "java/lang/invoke/MethodHandle" ∧ yX0_remove.cls ≠ "java/lang/invoke/VarHandle" ∧ (parseMethodDescriptor yX0_remove.desc).map (fun d => d.parameters.length) = some 1 := by decide +kernel
set_option maxHeartbeats 4000000 in
set_option maxRecDepth 100000 in
theorem c_X0_remove (l : Launch) (D : va_G) (cI : ClassId × ClassId) (sz : Nat) (a_t : Nat) (a_t_order : Nat) (a_t_options : Nat) (fu : Nat) (f_t_size : Int32) (f_t_features : Int32) (c_t_order : Nat → Int32) (x1 : Int32) (r : Int32 × Int32 × Int32 × (Nat → Int32)) (hf : m_X0_remove fu f_t_size f_t_features c_t_order x1 = some r) : Met l yX0_remove (zw (Cond.code yX0_remove cX0_remove 4 none)) rm_X0_remove (va_Pc [.ref a_t, .int x1] (zA D cI [(a_t, .inr (0, [.int f_t_size, .int f_t_features, .ref a_t_order, .ref a_t_options])), (a_t_order, .inl (cI.1, 6, .inl c_t_order))] sz)) (zQv D (va_A [(a_t, .inr (0, [.int f_t_size, .int f_t_features, .ref a_t_order, .ref a_t_options])), (a_t_order, .inl (cI.1, 6, .inl c_t_order))] sz) (True) (fun (u : Unit) => ([(a_t, .inr (0, [.int r.2.1, .int r.2.2.1, .ref a_t_order, .ref a_t_options])), (a_t_order, .inl (cI.1, 6, .inl r.2.2.2))] : va_W))) 0 0 (va_A [(a_t, .inr (0, [.int f_t_size, .int f_t_features, .ref a_t_order, .ref a_t_options])), (a_t_order, .inl (cI.1, 6, .inl c_t_order))] sz) := by
  unfold m_X0_remove at hf
  refine zhead (C := RX0) (by decide +kernel) rfl ?_
  intro p e s m below meth c hx hb hr hlocks hml hown hnm hts hE hK H hP hS hD hA
  generalize va_A [(a_t, .inr (0, [.int f_t_size, .int f_t_features, .ref a_t_order, .ref a_t_options])), (a_t_order, .inl (cI.1, 6, .inl c_t_order))] sz = A at hS hD hA ⊢
  have hl := lv_entry ([.ref a_t, .int x1]) (n := 4) (Nat.le_of_ble_eq_true rfl)
  rw [lg_entry_eq]
  generalize (lg_sl ([.ref a_t, .int x1]) ++ List.replicate (4 - (lg_sl ([.ref a_t, .int x1])).length) Slot.unset).toArray = ls at hl ⊢
  have hl : lv_has ls 4 [(0, .ref a_t), (1, .int x1)] := hl

  have w_L13 : ∀ (n : Nat) (x2 : Int32) (x3 : Int32) (f_t_size : Int32) (f_t_features : Int32) (c_t_order : Nat → Int32), m_X0_remove_L13 fu x1 n x2 x3 f_t_size f_t_features c_t_order = some r → ∀ (H : Heap) (locs : List Loc), va_P D vwCl [(a_t, .inr (0, [.int f_t_size, .int f_t_features, .ref a_t_order, .ref a_t_options])), (a_t_order, .inl (cI.1, 6, .inl c_t_order))] H → va_D A [(a_t, .inr (0, [.int f_t_size, .int f_t_features, .ref a_t_order, .ref a_t_options])), (a_t_order, .inl (cI.1, 6, .inl c_t_order))] → va_S A s.heap H locs → ∀ ls : Array Slot, lv_has ls 4 [(0, .ref a_t), (1, .int x1), (2, .int x2), (3, .int x3)] → W p l e rm_X0_remove s m ([.ref a_t, .int x1] : List Value).toArray below meth c H locs 0 0 (MQ below (zQv D A (True) (fun (u : Unit) => ([(a_t, .inr (0, [.int r.2.1, .int r.2.2.1, .ref a_t_order, .ref a_t_options])), (a_t_order, .inl (cI.1, 6, .inl r.2.2.2))] : va_W))) ([.ref a_t, .int x1] : List Value).toArray s 0 0 A) (F0 m 13 ls []) := by
    intro n_13
    induction n_13 with
    | zero => intro x2 x3 f_t_size f_t_features c_t_order  hf; exact absurd hf (fun h => by cases h)
    | succ n_13 ih_13 =>
      intro x2 x3 f_t_size f_t_features c_t_order  hf H locs hP hD hS ls hl
      replace hf : m_X0_remove_L13_b fu x1  (m_X0_remove_L13 fu x1 n_13) x2 x3 f_t_size f_t_features c_t_order = some r := hf
      unfold m_X0_remove_L13_b at hf
      refine lv_iload_n hx hb dX0_remove_13 rfl (lv_at hl 3 rfl) ?_
      refine lv_aload_n hx hb dX0_remove_14 rfl (lv_at hl 0 rfl) ?_
      refine va_get (D := D) (ci := 0) (v := .int f_t_size) (C := RX0) (T := TX0) (N := 4) hx hb hts (fun w h => zw_in (inX0 w h)) hown hK hP 0 rfl rfl 0 (by decide) (hts _ (zw_in kw_22)) (fun _ h9 => h9) rfl dX0_remove_15 ?_
      refine lv_icmp_ge (tgt := 52) hx hb dX0_remove_18 (by decide) (fun c_3 => ?_) (fun c_3 => ?_)
      · replace hf := zit hf c_3
        refine lv_aload_n hx hb dX0_remove_52 rfl (lv_at hl 0 rfl) ?_
        refine lv_iload_n hx hb dX0_remove_53 rfl (lv_at hl 2 rfl) ?_
        refine va_put (D := D) (ci := 0) (v := .int x2) (ty := .int) (C := RX0) (T := TX0) (N := 4) hx hb hts (fun w h => zw_in (inX0 w h)) tyX0 tyX0_ok nmX0 hown hK hP hD hS 0 rfl rfl 0 (by decide) (hts _ (zw_in kw_22)) (fun _ h9 => h9) rfl (by decide +kernel) rfl rfl (Nat.le_of_ble_eq_true rfl) dX0_remove_54 (fun H locs hP hD hS => ?_)
        have hP : va_P D vwCl [(a_t, .inr (0, [.int x2, .int f_t_features, .ref a_t_order, .ref a_t_options])), (a_t_order, .inl (cI.1, 6, .inl c_t_order))] H := hP
        have hD : va_D A [(a_t, .inr (0, [.int x2, .int f_t_features, .ref a_t_order, .ref a_t_options])), (a_t_order, .inl (cI.1, 6, .inl c_t_order))] := hD
        refine lv_aload_n hx hb dX0_remove_57 rfl (lv_at hl 0 rfl) ?_
        refine lv_dup hx hb dX0_remove_58 rfl ?_
        refine va_get (D := D) (ci := 0) (v := .int f_t_features) (C := RX0) (T := TX0) (N := 4) hx hb hts (fun w h => zw_in (inX0 w h)) hown hK hP 0 rfl rfl 1 (by decide) (hts _ (zw_in kw_16)) (fun _ h9 => h9) rfl dX0_remove_59 ?_
        refine lv_iconst (v := 1) hx hb dX0_remove_62 (by decide) ?_
        refine lv_iload_n hx hb dX0_remove_63 rfl (lv_at hl 1 rfl) ?_
        refine lv_ishl hx hb dX0_remove_64 ?_
        refine lv_iconst (v := -1) hx hb dX0_remove_65 (by decide) ?_
        refine lv_ixor hx hb dX0_remove_66 ?_
        refine lv_iand hx hb dX0_remove_67 ?_
        refine va_put (D := D) (ci := 0) (v := .int (f_t_features &&& (((1 : Int32) <<< (x1 &&& 31)) ^^^ (-1 : Int32)))) (ty := .int) (C := RX0) (T := TX0) (N := 4) hx hb hts (fun w h => zw_in (inX0 w h)) tyX0 tyX0_ok nmX0 hown hK hP hD hS 0 rfl rfl 1 (by decide) (hts _ (zw_in kw_16)) (fun _ h9 => h9) rfl (by decide +kernel) rfl rfl (Nat.le_of_ble_eq_true rfl) dX0_remove_68 (fun H locs hP hD hS => ?_)
        have hP : va_P D vwCl [(a_t, .inr (0, [.int x2, .int (f_t_features &&& (((1 : Int32) <<< (x1 &&& 31)) ^^^ (-1 : Int32))), .ref a_t_order, .ref a_t_options])), (a_t_order, .inl (cI.1, 6, .inl c_t_order))] H := hP
        have hD : va_D A [(a_t, .inr (0, [.int x2, .int (f_t_features &&& (((1 : Int32) <<< (x1 &&& 31)) ^^^ (-1 : Int32))), .ref a_t_order, .ref a_t_options])), (a_t_order, .inl (cI.1, 6, .inl c_t_order))] := hD
        obtain rfl := Option.some.inj hf
        exact zret_v hx hb hr trivial () hP hD hS [0, 1] rfl (by decide) dX0_remove_71 hlocks
      · replace hf := zif hf c_3
        refine lv_aload_n hx hb dX0_remove_21 rfl (lv_at hl 0 rfl) ?_
        refine va_get (D := D) (ci := 0) (v := .ref a_t_order) (C := RX0) (T := TX0) (N := 4) hx hb hts (fun w h => zw_in (inX0 w h)) hown hK hP 0 rfl rfl 2 (by decide) (hts _ (zw_in kw_14)) (fun _ h9 => h9) rfl dX0_remove_22 ?_
        refine lv_iload_n hx hb dX0_remove_25 rfl (lv_at hl 3 rfl) ?_
        obtain ⟨b_4, hf⟩ := zib hf
        refine va_iald hx hb hK hP 1 0 (cA := cI.1) rfl rfl b_4 dX0_remove_26 ?_
        refine lv_iload_n hx hb dX0_remove_27 rfl (lv_at hl 1 rfl) ?_
        refine lv_icmp_eq (tgt := 46) hx hb dX0_remove_28 (by decide) (fun c_5 => ?_) (fun c_5 => ?_)
        · replace hf := zit hf c_5
          refine lv_iinc (v := x3 + 1) (lv' := [(3, .int (x3 + 1)), (0, .ref a_t), (1, .int x1), (2, .int x2)]) hx hb dX0_remove_46 hl (k := 3) rfl rfl (by decide) rfl (fun ls hl => ?_)
          refine lv_goto (tgt := 13) hx hb dX0_remove_49 (by decide) ?_
          exact ih_13 x2 (x3 + 1) f_t_size f_t_features c_t_order  hf _ _ (hP.sub [0, 1] rfl) (hD.sub [0, 1] (by decide) rfl) hS _ (lv_sub hl [1, 2, 3, 0] rfl)
        · replace hf := zif hf c_5
          refine lv_aload_n hx hb dX0_remove_31 rfl (lv_at hl 0 rfl) ?_
          refine va_get (D := D) (ci := 0) (v := .ref a_t_order) (C := RX0) (T := TX0) (N := 4) hx hb hts (fun w h => zw_in (inX0 w h)) hown hK hP 0 rfl rfl 2 (by decide) (hts _ (zw_in kw_14)) (fun _ h9 => h9) rfl dX0_remove_32 ?_
          refine lv_iload_n hx hb dX0_remove_35 rfl (lv_at hl 2 rfl) ?_
          refine lv_aload_n hx hb dX0_remove_36 rfl (lv_at hl 0 rfl) ?_
          refine va_get (D := D) (ci := 0) (v := .ref a_t_order) (C := RX0) (T := TX0) (N := 4) hx hb hts (fun w h => zw_in (inX0 w h)) hown hK hP 0 rfl rfl 2 (by decide) (hts _ (zw_in kw_14)) (fun _ h9 => h9) rfl dX0_remove_37 ?_
          refine lv_iload_n hx hb dX0_remove_40 rfl (lv_at hl 3 rfl) ?_
          refine va_iald hx hb hK hP 1 0 (cA := cI.1) rfl rfl b_4 dX0_remove_41 ?_
          obtain ⟨b_6, hf⟩ := zib hf
          refine va_iast hx hb hK hP hD hS 1 0 (cA := cI.1) rfl rfl b_6 dX0_remove_42 (fun H locs hP hD hS => ?_)
          have hP : va_P D vwCl [(a_t, .inr (0, [.int f_t_size, .int f_t_features, .ref a_t_order, .ref a_t_options])), (a_t_order, .inl (cI.1, 6, .inl (upd c_t_order (x2).toNatClampNeg (c_t_order (x3).toNatClampNeg))))] H := hP
          have hD : va_D A [(a_t, .inr (0, [.int f_t_size, .int f_t_features, .ref a_t_order, .ref a_t_options])), (a_t_order, .inl (cI.1, 6, .inl (upd c_t_order (x2).toNatClampNeg (c_t_order (x3).toNatClampNeg))))] := hD
          refine lv_iinc (v := x2 + 1) (lv' := [(2, .int (x2 + 1)), (0, .ref a_t), (1, .int x1), (3, .int x3)]) hx hb dX0_remove_43 hl (k := 2) rfl rfl (by decide) rfl (fun ls hl => ?_)
          refine lv_iinc (v := x3 + 1) (lv' := [(3, .int (x3 + 1)), (2, .int (x2 + 1)), (0, .ref a_t), (1, .int x1)]) hx hb dX0_remove_46 hl (k := 3) rfl rfl (by decide) rfl (fun ls hl => ?_)
          refine lv_goto (tgt := 13) hx hb dX0_remove_49 (by decide) ?_
          exact ih_13 (x2 + 1) (x3 + 1) f_t_size f_t_features (upd c_t_order (x2).toNatClampNeg (c_t_order (x3).toNatClampNeg))  hf _ _ (hP.sub [0, 1] rfl) (hD.sub [0, 1] (by decide) rfl) hS _ (lv_sub hl [2, 3, 1, 0] rfl)
  refine lv_aload_n hx hb dX0_remove_0 rfl (lv_at hl 0 rfl) ?_
  refine lv_iload_n hx hb dX0_remove_1 rfl (lv_at hl 1 rfl) ?_
  obtain ⟨u_1, e_1, hf⟩ := zbd hf
  refine zcall_i (wr := [(a_t_order, .inl (cI.1, 6, .inl c_t_order))]) (va_runV (As := [.int x1]) (rest := []) ⟨hx, hb, hml, hown, hts⟩ (c_X0_has l D cI H.size a_t a_t_order a_t_options f_t_size f_t_features x1 u_1 e_1) (cwV 1 hts (zG_V kw_18 kw_19 kw_20 kw_21 kw_17) rfl rfl rfl ⟨rfl, hd_X0_has⟩ ⟨Nat.le_of_ble_eq_true rfl, Nat.le_of_ble_eq_true rfl⟩) ⟨zblind, va_recv hK hP (ci := 0) (q0 := 0) rfl rfl, zpre hP hD hK hE [0] rfl (by decide)⟩ rfl rfl hl.1 rfl (lv_room (Nat.le_of_ble_eq_true rfl)) dX0_remove_2 ⟨Nat.le_of_ble_eq_true rfl, Nat.le_of_ble_eq_true rfl⟩) hP hD hS hA [0] [1] rfl rfl (by decide) (by decide) (fun r9 uu H locs hX9 hP hD hS => ?_)
  obtain ⟨hX8, hb_1⟩ := hX9
  obtain rfl := hX8.symm
  have hP : va_P D vwCl [(a_t_order, .inl (cI.1, 6, .inl c_t_order)), (a_t, .inr (0, [.int f_t_size, .int f_t_features, .ref a_t_order, .ref a_t_options]))] H := hP
  have hD : va_D A [(a_t_order, .inl (cI.1, 6, .inl c_t_order)), (a_t, .inr (0, [.int f_t_size, .int f_t_features, .ref a_t_order, .ref a_t_options]))] := hD
  refine lv_if_ne (tgt := 9) hx hb dX0_remove_5 (by decide) (fun c_2 => ?_) (fun c_2 => ?_)
  · replace hf := zif hf c_2
    refine lv_iconst (v := 0) hx hb dX0_remove_9 (by decide) ?_
    refine lv_istore_n (lv' := [(2, .int 0), (0, .ref a_t), (1, .int x1)]) hx hb dX0_remove_10 rfl hl (by decide) rfl (fun ls hl => ?_)
    refine lv_iconst (v := 0) hx hb dX0_remove_11 (by decide) ?_
    refine lv_istore_n (lv' := [(3, .int 0), (2, .int 0), (0, .ref a_t), (1, .int x1)]) hx hb dX0_remove_12 rfl hl (by decide) rfl (fun ls hl => ?_)
    exact w_L13 fu (0 : Int32) (0 : Int32) f_t_size f_t_features c_t_order  hf _ _ (hP.sub [1, 0] rfl) (hD.sub [1, 0] (by decide) rfl) hS _ (lv_sub hl [2, 3, 1, 0] rfl)
  · replace hf := zit hf c_2
    obtain rfl := Option.some.inj hf
    exact zret_v hx hb hr trivial () hP hD hS [1, 0] rfl (by decide) dX0_remove_8 hlocks
noncomputable def m_X0_clear (f_t_size : Int32) (f_t_features : Int32)  : Option (Int32 × Int32 × Int32) :=
  some ((0 : Int32), (0 : Int32), (0 : Int32))
def rm_X0_clear : Room := { frames := 0, cells := 0, slots := 0, locals := 0 }
theorem hd_X0_clear : yX0_clear.cls ≠ "java/lang/invoke/MethodHandle" ∧ yX0_clear.cls ≠ "java/lang/invoke/VarHandle" ∧ (parseMethodDescriptor yX0_clear.desc).map (fun d => d.parameters.length) = some 0 := by decide +kernel
set_option maxHeartbeats 4000000 in
set_option maxRecDepth 100000 in
theorem c_X0_clear (l : Launch) (D : va_G) (cI : ClassId × ClassId) (sz : Nat) (a_t : Nat) (a_t_order : Nat) (a_t_options : Nat) (f_t_size : Int32) (f_t_features : Int32)  (r : Int32 × Int32 × Int32) (hf : m_X0_clear f_t_size f_t_features  = some r) : Met l yX0_clear (zw (Cond.code yX0_clear cX0_clear 1 none)) rm_X0_clear (va_Pc [.ref a_t] (zA D cI [(a_t, .inr (0, [.int f_t_size, .int f_t_features, .ref a_t_order, .ref a_t_options]))] sz)) (zQv D (va_A [(a_t, .inr (0, [.int f_t_size, .int f_t_features, .ref a_t_order, .ref a_t_options]))] sz) (True) (fun (u : Unit) => ([(a_t, .inr (0, [.int r.2.1, .int r.2.2, .ref a_t_order, .ref a_t_options]))] : va_W))) 0 0 (va_A [(a_t, .inr (0, [.int f_t_size, .int f_t_features, .ref a_t_order, .ref a_t_options]))] sz) := by
  unfold m_X0_clear at hf
  refine zhead (C := RX0) (by decide +kernel) rfl ?_
  intro p e s m below meth c hx hb hr hlocks hml hown hnm hts hE hK H hP hS hD hA
  generalize va_A [(a_t, .inr (0, [.int f_t_size, .int f_t_features, .ref a_t_order, .ref a_t_options]))] sz = A at hS hD hA ⊢
  have hl := lv_entry ([.ref a_t]) (n := 1) (Nat.le_of_ble_eq_true rfl)
  rw [lg_entry_eq]
  generalize (lg_sl ([.ref a_t]) ++ List.replicate (1 - (lg_sl ([.ref a_t])).length) Slot.unset).toArray = ls at hl ⊢
  have hl : lv_has ls 1 [(0, .ref a_t)] := hl

  refine lv_aload_n hx hb dX0_clear_0 rfl (lv_at hl 0 rfl) ?_
  refine lv_iconst (v := 0) hx hb dX0_clear_1 (by decide) ?_
  refine va_put (D := D) (ci := 0) (v := .int 0) (ty := .int) (C := RX0) (T := TX0) (N := 4) hx hb hts (fun w h => zw_in (inX0 w h)) tyX0 tyX0_ok nmX0 hown hK hP hD hS 0 rfl rfl 0 (by decide) (hts _ (zw_in kw_22)) (fun _ h9 => h9) rfl (by decide +kernel) rfl rfl (Nat.le_of_ble_eq_true rfl) dX0_clear_2 (fun H locs hP hD hS => ?_)
  have hP : va_P D vwCl [(a_t, .inr (0, [.int 0, .int f_t_features, .ref a_t_order, .ref a_t_options]))] H := hP
  have hD : va_D A [(a_t, .inr (0, [.int 0, .int f_t_features, .ref a_t_order, .ref a_t_options]))] := hD
  refine lv_aload_n hx hb dX0_clear_5 rfl (lv_at hl 0 rfl) ?_
  refine lv_iconst (v := 0) hx hb dX0_clear_6 (by decide) ?_
  refine va_put (D := D) (ci := 0) (v := .int 0) (ty := .int) (C := RX0) (T := TX0) (N := 4) hx hb hts (fun w h => zw_in (inX0 w h)) tyX0 tyX0_ok nmX0 hown hK hP hD hS 0 rfl rfl 1 (by decide) (hts _ (zw_in kw_16)) (fun _ h9 => h9) rfl (by decide +kernel) rfl rfl (Nat.le_of_ble_eq_true rfl) dX0_clear_7 (fun H locs hP hD hS => ?_)
  have hP : va_P D vwCl [(a_t, .inr (0, [.int 0, .int 0, .ref a_t_order, .ref a_t_options]))] H := hP
  have hD : va_D A [(a_t, .inr (0, [.int 0, .int 0, .ref a_t_order, .ref a_t_options]))] := hD
  obtain rfl := Option.some.inj hf
  exact zret_v hx hb hr trivial () hP hD hS [0] rfl (by decide) dX0_clear_10 hlocks
noncomputable def m_X0_latestOf_L7_b (fu : Nat) (x1 : Int32) (f_t_size : Int32) (c_t_order : Nat → Int32)  (k7 : Int32 → Option (Int32)) (x2 : Int32) : Option (Int32) :=
  if x2 < (0 : Int32) then some (-1 : Int32) else if x2 < 0 ∨ 6 ≤ (x2).toNatClampNeg then none else (m_X9_holds x1 (c_t_order (x2).toNatClampNeg)).bind fun u_3 => if u_3 = (0 : Int32) then k7 (x2 + (-1)) else some (c_t_order (x2).toNatClampNeg)
noncomputable def m_X0_latestOf_L7 (fu : Nat) (x1 : Int32) (f_t_size : Int32) (c_t_order : Nat → Int32)  (n : Nat) : Int32 → Option (Int32) :=
  Nat.rec (motive := fun _ => Int32 → Option (Int32)) (fun _ => none) (fun _ ih => m_X0_latestOf_L7_b fu x1 f_t_size c_t_order  ih) n
noncomputable def m_X0_latestOf (fu : Nat) (f_t_size : Int32) (c_t_order : Nat → Int32) (x1 : Int32) : Option (Int32) :=
  m_X0_latestOf_L7 fu x1 f_t_size c_t_order fu (f_t_size - (1 : Int32))
def rm_X0_latestOf : Room := { frames := 1, cells := 0, slots := 0, locals := 21 }
theorem hd_X0_latestOf : yX0_latestOf.cls ≠ "java/lang/invoke/MethodHandle" ∧ yX0_latestOf.cls ≠ "java/lang/invoke/VarHandle" ∧ (parseMethodDescriptor yX0_latestOf.desc).map (fun d => d.parameters.length) = some 1 := by decide +kernel
set_option maxHeartbeats 4000000 in
set_option maxRecDepth 100000 in
theorem c_X0_latestOf (l : Launch) (D : va_G) (cI : ClassId × ClassId) (sz : Nat) (a_t : Nat) (a_t_order : Nat) (a_t_options : Nat) (fu : Nat) (f_t_size : Int32) (f_t_features : Int32) (c_t_order : Nat → Int32) (x1 : Int32) (r : Int32) (hf : m_X0_latestOf fu f_t_size c_t_order x1 = some r) : Met l yX0_latestOf (zw (Cond.code yX0_latestOf cX0_latestOf 3 (some .int))) rm_X0_latestOf (va_Pc [.ref a_t, .int x1] (zA D cI [(a_t, .inr (0, [.int f_t_size, .int f_t_features, .ref a_t_order, .ref a_t_options])), (a_t_order, .inl (cI.1, 6, .inl c_t_order))] sz)) (zQi D (va_A [(a_t, .inr (0, [.int f_t_size, .int f_t_features, .ref a_t_order, .ref a_t_options])), (a_t_order, .inl (cI.1, 6, .inl c_t_order))] sz) (fun v => v = r) (fun (u : Unit) => ([(a_t, .inr (0, [.int f_t_size, .int f_t_features, .ref a_t_order, .ref a_t_options])), (a_t_order, .inl (cI.1, 6, .inl c_t_order))] : va_W))) 0 0 (va_A [(a_t, .inr (0, [.int f_t_size, .int f_t_features, .ref a_t_order, .ref a_t_options])), (a_t_order, .inl (cI.1, 6, .inl c_t_order))] sz) := by
  unfold m_X0_latestOf at hf
  refine zhead (C := RX0) (by decide +kernel) rfl ?_
  intro p e s m below meth c hx hb hr hlocks hml hown hnm hts hE hK H hP hS hD hA
  generalize va_A [(a_t, .inr (0, [.int f_t_size, .int f_t_features, .ref a_t_order, .ref a_t_options])), (a_t_order, .inl (cI.1, 6, .inl c_t_order))] sz = A at hS hD hA ⊢
  have hl := lv_entry ([.ref a_t, .int x1]) (n := 3) (Nat.le_of_ble_eq_true rfl)
  rw [lg_entry_eq]
  generalize (lg_sl ([.ref a_t, .int x1]) ++ List.replicate (3 - (lg_sl ([.ref a_t, .int x1])).length) Slot.unset).toArray = ls at hl ⊢
  have hl : lv_has ls 3 [(0, .ref a_t), (1, .int x1)] := hl

  have w_L7 : ∀ (n : Nat) (x2 : Int32), m_X0_latestOf_L7 fu x1 f_t_size c_t_order n x2 = some r → ∀ (H : Heap) (locs : List Loc), va_P D vwCl [(a_t, .inr (0, [.int f_t_size, .int f_t_features, .ref a_t_order, .ref a_t_options])), (a_t_order, .inl (cI.1, 6, .inl c_t_order))] H → va_D A [(a_t, .inr (0, [.int f_t_size, .int f_t_features, .ref a_t_order, .ref a_t_options])), (a_t_order, .inl (cI.1, 6, .inl c_t_order))] → va_S A s.heap H locs → ∀ ls : Array Slot, lv_has ls 3 [(0, .ref a_t), (1, .int x1), (2, .int x2)] → W p l e rm_X0_latestOf s m ([.ref a_t, .int x1] : List Value).toArray below meth c H locs 0 0 (MQ below (zQi D A (fun v => v = r) (fun (u : Unit) => ([(a_t, .inr (0, [.int f_t_size, .int f_t_features, .ref a_t_order, .ref a_t_options])), (a_t_order, .inl (cI.1, 6, .inl c_t_order))] : va_W))) ([.ref a_t, .int x1] : List Value).toArray s 0 0 A) (F0 m 7 ls []) := by
    intro n_7
    induction n_7 with
    | zero => intro x2  hf; exact absurd hf (fun h => by cases h)
    | succ n_7 ih_7 =>
      intro x2  hf H locs hP hD hS ls hl
      replace hf : m_X0_latestOf_L7_b fu x1 f_t_size c_t_order  (m_X0_latestOf_L7 fu x1 f_t_size c_t_order n_7) x2 = some r := hf
      unfold m_X0_latestOf_L7_b at hf
      refine lv_iload_n hx hb dX0_latestOf_7 rfl (lv_at hl 2 rfl) ?_
      refine lv_if_lt (tgt := 37) hx hb dX0_latestOf_8 (by decide) (fun c_1 => ?_) (fun c_1 => ?_)
      · replace hf := zit hf c_1
        refine lv_iconst (v := -1) hx hb dX0_latestOf_37 (by decide) ?_
        obtain rfl := Option.some.inj hf
        exact zret_i hx hb hr rfl rfl () hP hD hS [0, 1] rfl (by decide) dX0_latestOf_38 hlocks
      · replace hf := zif hf c_1
        refine lv_iload_n hx hb dX0_latestOf_11 rfl (lv_at hl 1 rfl) ?_
        refine lv_aload_n hx hb dX0_latestOf_12 rfl (lv_at hl 0 rfl) ?_
        refine va_get (D := D) (ci := 0) (v := .ref a_t_order) (C := RX0) (T := TX0) (N := 4) hx hb hts (fun w h => zw_in (inX0 w h)) hown hK hP 0 rfl rfl 2 (by decide) (hts _ (zw_in kw_14)) (fun _ h9 => h9) rfl dX0_latestOf_13 ?_
        refine lv_iload_n hx hb dX0_latestOf_16 rfl (lv_at hl 2 rfl) ?_
        obtain ⟨b_2, hf⟩ := zib hf
        refine va_iald hx hb hK hP 1 0 (cA := cI.1) rfl rfl b_2 dX0_latestOf_17 ?_
        obtain ⟨u_3, e_3, hf⟩ := zbd hf
        refine zcall_i (wr := [(a_t, .inr (0, [.int f_t_size, .int f_t_features, .ref a_t_order, .ref a_t_options])), (a_t_order, .inl (cI.1, 6, .inl c_t_order))]) (va_runSN (As := [.int x1, .int (c_t_order (x2).toNatClampNeg)]) (rest := []) ⟨hx, hb, hml, hown, hts⟩ (c_X9_holds l D cI H.size x1 (c_t_order (x2).toNatClampNeg) u_3 e_3) ⟨va_cnB 2 hts (zG_B kw_7) rfl rfl rfl (hE.1 _ kn_0) (hts _ (zw_in kw_3)) hd_X9_holds ⟨Nat.le_of_ble_eq_true rfl, Nat.le_of_ble_eq_true rfl⟩, hts _ (zw_in kw_9), trivial⟩ ⟨zblind, zpre hP hD hK hE [] rfl (by decide)⟩ rfl rfl hl.1 rfl (lv_room (Nat.le_of_ble_eq_true rfl)) dX0_latestOf_18 ⟨Nat.le_of_ble_eq_true rfl, Nat.le_of_ble_eq_true rfl⟩) hP hD hS hA [] [0, 1] rfl rfl (by decide) (by decide) (fun r9 uu H locs hX9 hP hD hS => ?_)
        obtain ⟨hX8, hb_3⟩ := hX9
        obtain rfl := hX8.symm
        have hP : va_P D vwCl [(a_t, .inr (0, [.int f_t_size, .int f_t_features, .ref a_t_order, .ref a_t_options])), (a_t_order, .inl (cI.1, 6, .inl c_t_order))] H := hP
        have hD : va_D A [(a_t, .inr (0, [.int f_t_size, .int f_t_features, .ref a_t_order, .ref a_t_options])), (a_t_order, .inl (cI.1, 6, .inl c_t_order))] := hD
        refine lv_if_eq (tgt := 31) hx hb dX0_latestOf_21 (by decide) (fun c_4 => ?_) (fun c_4 => ?_)
        · replace hf := zit hf c_4
          refine lv_iinc (v := x2 + (-1)) (lv' := [(2, .int (x2 + (-1))), (0, .ref a_t), (1, .int x1)]) hx hb dX0_latestOf_31 hl (k := 2) rfl rfl (by decide) rfl (fun ls hl => ?_)
          refine lv_goto (tgt := 7) hx hb dX0_latestOf_34 (by decide) ?_
          exact ih_7 (x2 + (-1))  hf _ _ (hP.sub [0, 1] rfl) (hD.sub [0, 1] (by decide) rfl) hS _ (lv_sub hl [1, 2, 0] rfl)
        · replace hf := zif hf c_4
          refine lv_aload_n hx hb dX0_latestOf_24 rfl (lv_at hl 0 rfl) ?_
          refine va_get (D := D) (ci := 0) (v := .ref a_t_order) (C := RX0) (T := TX0) (N := 4) hx hb hts (fun w h => zw_in (inX0 w h)) hown hK hP 0 rfl rfl 2 (by decide) (hts _ (zw_in kw_14)) (fun _ h9 => h9) rfl dX0_latestOf_25 ?_
          refine lv_iload_n hx hb dX0_latestOf_28 rfl (lv_at hl 2 rfl) ?_
          refine va_iald hx hb hK hP 1 0 (cA := cI.1) rfl rfl b_2 dX0_latestOf_29 ?_
          obtain rfl := Option.some.inj hf
          exact zret_i hx hb hr rfl rfl () hP hD hS [0, 1] rfl (by decide) dX0_latestOf_30 hlocks
  refine lv_aload_n hx hb dX0_latestOf_0 rfl (lv_at hl 0 rfl) ?_
  refine va_get (D := D) (ci := 0) (v := .int f_t_size) (C := RX0) (T := TX0) (N := 4) hx hb hts (fun w h => zw_in (inX0 w h)) hown hK hP 0 rfl rfl 0 (by decide) (hts _ (zw_in kw_22)) (fun _ h9 => h9) rfl dX0_latestOf_1 ?_
  refine lv_iconst (v := 1) hx hb dX0_latestOf_4 (by decide) ?_
  refine lv_isub hx hb dX0_latestOf_5 ?_
  refine lv_istore_n (lv' := [(2, .int (f_t_size - (1 : Int32))), (0, .ref a_t), (1, .int x1)]) hx hb dX0_latestOf_6 rfl hl (by decide) rfl (fun ls hl => ?_)
  exact w_L7 fu (f_t_size - (1 : Int32))  hf _ _ (hP.sub [0, 1] rfl) (hD.sub [0, 1] (by decide) rfl) hS _ (lv_sub hl [1, 2, 0] rfl)
noncomputable def m_X0_narrow_L5_b (fu : Nat) (x1 : Int32) (x2 : Int32) (f_t_size : Int32) (c_t_order : Nat → Int32) (c_t_options : Nat → Int32)  (k5 : Int32 → Int32 → Option (Int32)) (x3 : Int32) (x4 : Int32) : Option (Int32) :=
  if f_t_size ≤ x4 then some x3 else if x4 < 0 ∨ 6 ≤ (x4).toNatClampNeg then none else (m_X9_holds x2 (c_t_order (x4).toNatClampNeg)).bind fun u_3 => if u_3 = (0 : Int32) then k5 x3 (x4 + 1) else if c_t_order (x4).toNatClampNeg < 0 ∨ 6 ≤ (c_t_order (x4).toNatClampNeg).toNatClampNeg then none else (m_X9_only x3 (c_t_order (x4).toNatClampNeg) (c_t_options (c_t_order (x4).toNatClampNeg).toNatClampNeg)).bind fun u_6 => k5 u_6 (x4 + 1)
noncomputable def m_X0_narrow_L5 (fu : Nat) (x1 : Int32) (x2 : Int32) (f_t_size : Int32) (c_t_order : Nat → Int32) (c_t_options : Nat → Int32)  (n : Nat) : Int32 → Int32 → Option (Int32) :=
  Nat.rec (motive := fun _ => Int32 → Int32 → Option (Int32)) (fun _ _ => none) (fun _ ih => m_X0_narrow_L5_b fu x1 x2 f_t_size c_t_order c_t_options  ih) n
noncomputable def m_X0_narrow (fu : Nat) (f_t_size : Int32) (c_t_order : Nat → Int32) (c_t_options : Nat → Int32) (x1 : Int32) (x2 : Int32) : Option (Int32) :=
  m_X0_narrow_L5 fu x1 x2 f_t_size c_t_order c_t_options fu x1 (0 : Int32)
def rm_X0_narrow : Room := { frames := 2, cells := 0, slots := 0, locals := 43 }
theorem hd_X0_narrow : yX0_narrow.cls ≠ "java/lang/invoke/MethodHandle" ∧ yX0_narrow.cls ≠ "java/lang/invoke/VarHandle" ∧ (parseMethodDescriptor yX0_narrow.desc).map (fun d => d.parameters.length) = some 2 := by decide +kernel
set_option maxHeartbeats 4000000 in
set_option maxRecDepth 100000 in
theorem c_X0_narrow (l : Launch) (D : va_G) (cI : ClassId × ClassId) (sz : Nat) (a_t : Nat) (a_t_order : Nat) (a_t_options : Nat) (fu : Nat) (f_t_size : Int32) (f_t_features : Int32) (c_t_order : Nat → Int32) (c_t_options : Nat → Int32) (x1 : Int32) (x2 : Int32) (r : Int32) (hf : m_X0_narrow fu f_t_size c_t_order c_t_options x1 x2 = some r) : Met l yX0_narrow (zw (Cond.code yX0_narrow cX0_narrow 5 (some .int))) rm_X0_narrow (va_Pc [.ref a_t, .int x1, .int x2] (zA D cI [(a_t, .inr (0, [.int f_t_size, .int f_t_features, .ref a_t_order, .ref a_t_options])), (a_t_order, .inl (cI.1, 6, .inl c_t_order)), (a_t_options, .inl (cI.1, 6, .inl c_t_options))] sz)) (zQi D (va_A [(a_t, .inr (0, [.int f_t_size, .int f_t_features, .ref a_t_order, .ref a_t_options])), (a_t_order, .inl (cI.1, 6, .inl c_t_order)), (a_t_options, .inl (cI.1, 6, .inl c_t_options))] sz) (fun v => v = r) (fun (u : Unit) => ([(a_t, .inr (0, [.int f_t_size, .int f_t_features, .ref a_t_order, .ref a_t_options])), (a_t_order, .inl (cI.1, 6, .inl c_t_order)), (a_t_options, .inl (cI.1, 6, .inl c_t_options))] : va_W))) 0 0 (va_A [(a_t, .inr (0, [.int f_t_size, .int f_t_features, .ref a_t_order, .ref a_t_options])), (a_t_order, .inl (cI.1, 6, .inl c_t_order)), (a_t_options, .inl (cI.1, 6, .inl c_t_options))] sz) := by
  unfold m_X0_narrow at hf
  refine zhead (C := RX0) (by decide +kernel) rfl ?_
  intro p e s m below meth c hx hb hr hlocks hml hown hnm hts hE hK H hP hS hD hA
  generalize va_A [(a_t, .inr (0, [.int f_t_size, .int f_t_features, .ref a_t_order, .ref a_t_options])), (a_t_order, .inl (cI.1, 6, .inl c_t_order)), (a_t_options, .inl (cI.1, 6, .inl c_t_options))] sz = A at hS hD hA ⊢
  have hl := lv_entry ([.ref a_t, .int x1, .int x2]) (n := 5) (Nat.le_of_ble_eq_true rfl)
  rw [lg_entry_eq]
  generalize (lg_sl ([.ref a_t, .int x1, .int x2]) ++ List.replicate (5 - (lg_sl ([.ref a_t, .int x1, .int x2])).length) Slot.unset).toArray = ls at hl ⊢
  have hl : lv_has ls 5 [(0, .ref a_t), (1, .int x1), (2, .int x2)] := hl

  have w_L5 : ∀ (n : Nat) (x3 : Int32) (x4 : Int32), m_X0_narrow_L5 fu x1 x2 f_t_size c_t_order c_t_options n x3 x4 = some r → ∀ (H : Heap) (locs : List Loc), va_P D vwCl [(a_t, .inr (0, [.int f_t_size, .int f_t_features, .ref a_t_order, .ref a_t_options])), (a_t_order, .inl (cI.1, 6, .inl c_t_order)), (a_t_options, .inl (cI.1, 6, .inl c_t_options))] H → va_D A [(a_t, .inr (0, [.int f_t_size, .int f_t_features, .ref a_t_order, .ref a_t_options])), (a_t_order, .inl (cI.1, 6, .inl c_t_order)), (a_t_options, .inl (cI.1, 6, .inl c_t_options))] → va_S A s.heap H locs → ∀ ls : Array Slot, lv_has ls 5 [(0, .ref a_t), (1, .int x1), (2, .int x2), (3, .int x3), (4, .int x4)] → W p l e rm_X0_narrow s m ([.ref a_t, .int x1, .int x2] : List Value).toArray below meth c H locs 0 0 (MQ below (zQi D A (fun v => v = r) (fun (u : Unit) => ([(a_t, .inr (0, [.int f_t_size, .int f_t_features, .ref a_t_order, .ref a_t_options])), (a_t_order, .inl (cI.1, 6, .inl c_t_order)), (a_t_options, .inl (cI.1, 6, .inl c_t_options))] : va_W))) ([.ref a_t, .int x1, .int x2] : List Value).toArray s 0 0 A) (F0 m 5 ls []) := by
    intro n_5
    induction n_5 with
    | zero => intro x3 x4  hf; exact absurd hf (fun h => by cases h)
    | succ n_5 ih_5 =>
      intro x3 x4  hf H locs hP hD hS ls hl
      replace hf : m_X0_narrow_L5_b fu x1 x2 f_t_size c_t_order c_t_options  (m_X0_narrow_L5 fu x1 x2 f_t_size c_t_order c_t_options n_5) x3 x4 = some r := hf
      unfold m_X0_narrow_L5_b at hf
      refine lv_iload hx hb dX0_narrow_5 (lv_at hl 4 rfl) ?_
      refine lv_aload_n hx hb dX0_narrow_7 rfl (lv_at hl 0 rfl) ?_
      refine va_get (D := D) (ci := 0) (v := .int f_t_size) (C := RX0) (T := TX0) (N := 4) hx hb hts (fun w h => zw_in (inX0 w h)) hown hK hP 0 rfl rfl 0 (by decide) (hts _ (zw_in kw_22)) (fun _ h9 => h9) rfl dX0_narrow_8 ?_
      refine lv_icmp_ge (tgt := 58) hx hb dX0_narrow_11 (by decide) (fun c_1 => ?_) (fun c_1 => ?_)
      · replace hf := zit hf c_1
        refine lv_iload_n hx hb dX0_narrow_58 rfl (lv_at hl 3 rfl) ?_
        obtain rfl := Option.some.inj hf
        exact zret_i hx hb hr rfl rfl () hP hD hS [0, 1, 2] rfl (by decide) dX0_narrow_59 hlocks
      · replace hf := zif hf c_1
        refine lv_iload_n hx hb dX0_narrow_14 rfl (lv_at hl 2 rfl) ?_
        refine lv_aload_n hx hb dX0_narrow_15 rfl (lv_at hl 0 rfl) ?_
        refine va_get (D := D) (ci := 0) (v := .ref a_t_order) (C := RX0) (T := TX0) (N := 4) hx hb hts (fun w h => zw_in (inX0 w h)) hown hK hP 0 rfl rfl 2 (by decide) (hts _ (zw_in kw_14)) (fun _ h9 => h9) rfl dX0_narrow_16 ?_
        refine lv_iload hx hb dX0_narrow_19 (lv_at hl 4 rfl) ?_
        obtain ⟨b_2, hf⟩ := zib hf
        refine va_iald hx hb hK hP 1 0 (cA := cI.1) rfl rfl b_2 dX0_narrow_21 ?_
        obtain ⟨u_3, e_3, hf⟩ := zbd hf
        refine zcall_i (wr := [(a_t, .inr (0, [.int f_t_size, .int f_t_features, .ref a_t_order, .ref a_t_options])), (a_t_order, .inl (cI.1, 6, .inl c_t_order)), (a_t_options, .inl (cI.1, 6, .inl c_t_options))]) (va_runSN (As := [.int x2, .int (c_t_order (x4).toNatClampNeg)]) (rest := []) ⟨hx, hb, hml, hown, hts⟩ (c_X9_holds l D cI H.size x2 (c_t_order (x4).toNatClampNeg) u_3 e_3) ⟨va_cnB 2 hts (zG_B kw_7) rfl rfl rfl (hE.1 _ kn_0) (hts _ (zw_in kw_3)) hd_X9_holds ⟨Nat.le_of_ble_eq_true rfl, Nat.le_of_ble_eq_true rfl⟩, hts _ (zw_in kw_9), trivial⟩ ⟨zblind, zpre hP hD hK hE [] rfl (by decide)⟩ rfl rfl hl.1 rfl (lv_room (Nat.le_of_ble_eq_true rfl)) dX0_narrow_22 ⟨Nat.le_of_ble_eq_true rfl, Nat.le_of_ble_eq_true rfl⟩) hP hD hS hA [] [0, 1, 2] rfl rfl (by decide) (by decide) (fun r9 uu H locs hX9 hP hD hS => ?_)
        obtain ⟨hX8, hb_3⟩ := hX9
        obtain rfl := hX8.symm
        have hP : va_P D vwCl [(a_t, .inr (0, [.int f_t_size, .int f_t_features, .ref a_t_order, .ref a_t_options])), (a_t_order, .inl (cI.1, 6, .inl c_t_order)), (a_t_options, .inl (cI.1, 6, .inl c_t_options))] H := hP
        have hD : va_D A [(a_t, .inr (0, [.int f_t_size, .int f_t_features, .ref a_t_order, .ref a_t_options])), (a_t_order, .inl (cI.1, 6, .inl c_t_order)), (a_t_options, .inl (cI.1, 6, .inl c_t_options))] := hD
        refine lv_if_eq (tgt := 52) hx hb dX0_narrow_25 (by decide) (fun c_4 => ?_) (fun c_4 => ?_)
        · replace hf := zit hf c_4
          refine lv_iinc (v := x4 + 1) (lv' := [(4, .int (x4 + 1)), (0, .ref a_t), (1, .int x1), (2, .int x2), (3, .int x3)]) hx hb dX0_narrow_52 hl (k := 4) rfl rfl (by decide) rfl (fun ls hl => ?_)
          refine lv_goto (tgt := 5) hx hb dX0_narrow_55 (by decide) ?_
          exact ih_5 x3 (x4 + 1)  hf _ _ (hP.sub [0, 1, 2] rfl) (hD.sub [0, 1, 2] (by decide) rfl) hS _ (lv_sub hl [1, 2, 3, 4, 0] rfl)
        · replace hf := zif hf c_4
          refine lv_iload_n hx hb dX0_narrow_28 rfl (lv_at hl 3 rfl) ?_
          refine lv_aload_n hx hb dX0_narrow_29 rfl (lv_at hl 0 rfl) ?_
          refine va_get (D := D) (ci := 0) (v := .ref a_t_order) (C := RX0) (T := TX0) (N := 4) hx hb hts (fun w h => zw_in (inX0 w h)) hown hK hP 0 rfl rfl 2 (by decide) (hts _ (zw_in kw_14)) (fun _ h9 => h9) rfl dX0_narrow_30 ?_
          refine lv_iload hx hb dX0_narrow_33 (lv_at hl 4 rfl) ?_
          refine va_iald hx hb hK hP 1 0 (cA := cI.1) rfl rfl b_2 dX0_narrow_35 ?_
          refine lv_aload_n hx hb dX0_narrow_36 rfl (lv_at hl 0 rfl) ?_
          refine va_get (D := D) (ci := 0) (v := .ref a_t_options) (C := RX0) (T := TX0) (N := 4) hx hb hts (fun w h => zw_in (inX0 w h)) hown hK hP 0 rfl rfl 3 (by decide) (hts _ (zw_in kw_15)) (fun _ h9 => h9) rfl dX0_narrow_37 ?_
          refine lv_aload_n hx hb dX0_narrow_40 rfl (lv_at hl 0 rfl) ?_
          refine va_get (D := D) (ci := 0) (v := .ref a_t_order) (C := RX0) (T := TX0) (N := 4) hx hb hts (fun w h => zw_in (inX0 w h)) hown hK hP 0 rfl rfl 2 (by decide) (hts _ (zw_in kw_14)) (fun _ h9 => h9) rfl dX0_narrow_41 ?_
          refine lv_iload hx hb dX0_narrow_44 (lv_at hl 4 rfl) ?_
          refine va_iald hx hb hK hP 1 0 (cA := cI.1) rfl rfl b_2 dX0_narrow_46 ?_
          obtain ⟨b_5, hf⟩ := zib hf
          refine va_iald hx hb hK hP 2 0 (cA := cI.1) rfl rfl b_5 dX0_narrow_47 ?_
          obtain ⟨u_6, e_6, hf⟩ := zbd hf
          refine zcall_i (wr := [(a_t, .inr (0, [.int f_t_size, .int f_t_features, .ref a_t_order, .ref a_t_options])), (a_t_order, .inl (cI.1, 6, .inl c_t_order)), (a_t_options, .inl (cI.1, 6, .inl c_t_options))]) (va_runSN (As := [.int x3, .int (c_t_order (x4).toNatClampNeg), .int (c_t_options (c_t_order (x4).toNatClampNeg).toNatClampNeg)]) (rest := []) ⟨hx, hb, hml, hown, hts⟩ (c_X9_only l D cI H.size x3 (c_t_order (x4).toNatClampNeg) (c_t_options (c_t_order (x4).toNatClampNeg).toNatClampNeg) u_6 e_6) ⟨va_cnB 3 hts (zG_B kw_23) rfl rfl rfl (hE.1 _ kn_1) (hts _ (zw_in kw_3)) hd_X9_only ⟨Nat.le_of_ble_eq_true rfl, Nat.le_of_ble_eq_true rfl⟩, hts _ (zw_in kw_24), trivial⟩ ⟨zblind, zpre hP hD hK hE [] rfl (by decide)⟩ rfl rfl hl.1 rfl (lv_room (Nat.le_of_ble_eq_true rfl)) dX0_narrow_48 ⟨Nat.le_of_ble_eq_true rfl, Nat.le_of_ble_eq_true rfl⟩) hP hD hS hA [] [0, 1, 2] rfl rfl (by decide) (by decide) (fun r9 uu H locs hX9 hP hD hS => ?_)
          obtain rfl := hX9.symm
          have hP : va_P D vwCl [(a_t, .inr (0, [.int f_t_size, .int f_t_features, .ref a_t_order, .ref a_t_options])), (a_t_order, .inl (cI.1, 6, .inl c_t_order)), (a_t_options, .inl (cI.1, 6, .inl c_t_options))] H := hP
          have hD : va_D A [(a_t, .inr (0, [.int f_t_size, .int f_t_features, .ref a_t_order, .ref a_t_options])), (a_t_order, .inl (cI.1, 6, .inl c_t_order)), (a_t_options, .inl (cI.1, 6, .inl c_t_options))] := hD
          refine lv_istore_n (lv' := [(3, .int u_6), (0, .ref a_t), (1, .int x1), (2, .int x2), (4, .int x4)]) hx hb dX0_narrow_51 rfl hl (by decide) rfl (fun ls hl => ?_)
          refine lv_iinc (v := x4 + 1) (lv' := [(4, .int (x4 + 1)), (3, .int u_6), (0, .ref a_t), (1, .int x1), (2, .int x2)]) hx hb dX0_narrow_52 hl (k := 4) rfl rfl (by decide) rfl (fun ls hl => ?_)
          refine lv_goto (tgt := 5) hx hb dX0_narrow_55 (by decide) ?_
          exact ih_5 u_6 (x4 + 1)  hf _ _ (hP.sub [0, 1, 2] rfl) (hD.sub [0, 1, 2] (by decide) rfl) hS _ (lv_sub hl [2, 3, 4, 1, 0] rfl)
  refine lv_iload_n hx hb dX0_narrow_0 rfl (lv_at hl 1 rfl) ?_
  refine lv_istore_n (lv' := [(3, .int x1), (0, .ref a_t), (1, .int x1), (2, .int x2)]) hx hb dX0_narrow_1 rfl hl (by decide) rfl (fun ls hl => ?_)
  refine lv_iconst (v := 0) hx hb dX0_narrow_2 (by decide) ?_
  refine lv_istore (lv' := [(4, .int 0), (3, .int x1), (0, .ref a_t), (1, .int x1), (2, .int x2)]) hx hb dX0_narrow_3 hl (by decide) rfl (fun ls hl => ?_)
  exact w_L5 fu x1 (0 : Int32)  hf _ _ (hP.sub [0, 1, 2] rfl) (hD.sub [0, 1, 2] (by decide) rfl) hS _ (lv_sub hl [2, 3, 4, 1, 0] rfl)
noncomputable def m_X1_init   : Option (Int32 × Int32 × (Nat → Int32)) :=
  some ((0 : Int32), (0 : Int32), fun _ => 0)
def rm_X1_init : Room := { frames := 1, cells := 1, slots := 12, locals := 20 }
theorem hd_X1_init : yX1_init.cls ≠ "java/lang/invoke/MethodHandle" ∧ yX1_init.cls ≠ "java/lang/invoke/VarHandle" ∧ (parseMethodDescriptor yX1_init.desc).map (fun d => d.parameters.length) = some 0 := by decide +kernel
set_option maxHeartbeats 4000000 in
set_option maxRecDepth 100000 in
theorem c_X1_init (l : Launch) (D : va_G) (cI : ClassId × ClassId) (sz : Nat) (a_t : Nat)   (r : Int32 × Int32 × (Nat → Int32)) (hf : m_X1_init   = some r) : Met l yX1_init (zw (Cond.code yX1_init cX1_init 1 none)) rm_X1_init (va_Pc [.ref a_t] (zA D cI [(a_t, .inr (1, [.int 0, .null]))] sz)) (zQv D (va_A [(a_t, .inr (1, [.int 0, .null]))] sz) (True) (fun (u : Nat) => ([(a_t, .inr (1, [.int r.2.1, .ref u])), (u, .inl (cI.1, 12, .inl r.2.2))] : va_W))) 1 12 (va_A [(a_t, .inr (1, [.int 0, .null]))] sz) := by
  unfold m_X1_init at hf
  refine zhead (C := RX1) (by decide +kernel) rfl ?_
  intro p e s m below meth c hx hb hr hlocks hml hown hnm hts hE hK H hP hS hD hA
  generalize va_A [(a_t, .inr (1, [.int 0, .null]))] sz = A at hS hD hA ⊢
  have hl := lv_entry ([.ref a_t]) (n := 1) (Nat.le_of_ble_eq_true rfl)
  rw [lg_entry_eq]
  generalize (lg_sl ([.ref a_t]) ++ List.replicate (1 - (lg_sl ([.ref a_t])).length) Slot.unset).toArray = ls at hl ⊢
  have hl : lv_has ls 1 [(0, .ref a_t)] := hl

  refine lv_aload_n hx hb dX1_init_0 rfl (lv_at hl 0 rfl) ?_
  refine W.objInit hx hb hown (hts _ (zw_in kw_25)) (hts _ (zw_in kw_11)) (hts _ (zw_in kw_12)) rfl (by rw [hml]; exact hl.1) rfl dX1_init_1 (Nat.le_of_ble_eq_true rfl) (Nat.le_of_ble_eq_true rfl) ?_
  refine W.eq (g2 := F0 m 4 ls []) rfl ?_
  refine lv_aload_n hx hb dX1_init_4 rfl (lv_at hl 0 rfl) ?_
  refine lv_bipush (v := 12) hx hb dX1_init_5 (by decide) ?_
  refine va_newa (atype := .int) (ty := .int) (N' := 12) (a0 := (12, .inl (fun _ => 0))) hx hb (hts _ (zw_in kw_13)) rfl hK hP hD hS hA (fun _ => rfl) (by decide) (by decide) (Nat.le_of_ble_eq_true rfl) (Nat.le_of_ble_eq_true rfl) (Nat.le_of_ble_eq_true rfl) dX1_init_7 (fun q7 cA H hK9 hP hD hS => ?_)
  obtain rfl := zKeq hK9
  have hP : va_P D vwCl [(a_t, .inr (1, [.int 0, .null])), (q7, .inl (cI.1, 12, .inl (fun _ => 0)))] H := hP
  have hD : va_D A [(a_t, .inr (1, [.int 0, .null])), (q7, .inl (cI.1, 12, .inl (fun _ => 0)))] := hD
  refine W.widen (k := 1) (n := 12) (Nat.le_of_ble_eq_true rfl) (Nat.le_of_ble_eq_true rfl) ?_
  refine va_putF (D := D) (ci := 1) (v := .ref q7) (ty := (.array .int)) (C := RX1) (T := TX1) (N := 2) hx hb hts (fun w h => zw_in (inX1 w h)) tyX1 tyX1_ok nmX1 hown hK hP hD hS 0 rfl rfl 1 (by decide) (hts _ (zw_in kw_26)) (fun _ h9 => h9) rfl hnm rfl (by decide +kernel) rfl rfl (Nat.le_of_ble_eq_true rfl) dX1_init_9 (fun H locs hP hD hS => ?_)
  have hP : va_P D vwCl [(a_t, .inr (1, [.int 0, .ref q7])), (q7, .inl (cI.1, 12, .inl (fun _ => 0)))] H := hP
  have hD : va_D A [(a_t, .inr (1, [.int 0, .ref q7])), (q7, .inl (cI.1, 12, .inl (fun _ => 0)))] := hD
  obtain rfl := Option.some.inj hf
  exact zret_v hx hb hr trivial q7 hP hD hS [0, 1] rfl (by decide) dX1_init_12 hlocks
noncomputable def m_X1_add (f_t_size : Int32) (c_t_slots : Nat → Int32) (x1 : Int32) : Option (Int32 × Int32 × (Nat → Int32)) :=
  if f_t_size < (12 : Int32) then if f_t_size < 0 ∨ 12 ≤ (f_t_size).toNatClampNeg then none else some ((1 : Int32), f_t_size + (1 : Int32), upd c_t_slots (f_t_size).toNatClampNeg x1) else some ((0 : Int32), f_t_size, c_t_slots)
def rm_X1_add : Room := { frames := 0, cells := 0, slots := 0, locals := 0 }
theorem hd_X1_add : yX1_add.cls ≠ "java/lang/invoke/MethodHandle" ∧ yX1_add.cls ≠ "java/lang/invoke/VarHandle" ∧ (parseMethodDescriptor yX1_add.desc).map (fun d => d.parameters.length) = some 1 := by decide +kernel
set_option maxHeartbeats 4000000 in
set_option maxRecDepth 100000 in
theorem c_X1_add (l : Launch) (D : va_G) (cI : ClassId × ClassId) (sz : Nat) (a_t : Nat) (a_t_slots : Nat) (f_t_size : Int32) (c_t_slots : Nat → Int32) (x1 : Int32) (r : Int32 × Int32 × (Nat → Int32)) (hf : m_X1_add f_t_size c_t_slots x1 = some r) : Met l yX1_add (zw (Cond.code yX1_add cX1_add 2 (some .boolean))) rm_X1_add (va_Pc [.ref a_t, .int x1] (zA D cI [(a_t, .inr (1, [.int f_t_size, .ref a_t_slots])), (a_t_slots, .inl (cI.1, 12, .inl c_t_slots))] sz)) (zQi D (va_A [(a_t, .inr (1, [.int f_t_size, .ref a_t_slots])), (a_t_slots, .inl (cI.1, 12, .inl c_t_slots))] sz) (fun v => v = r.1 ∧ narrow .boolean (.int v) = .int v) (fun (u : Unit) => ([(a_t, .inr (1, [.int r.2.1, .ref a_t_slots])), (a_t_slots, .inl (cI.1, 12, .inl r.2.2))] : va_W))) 0 0 (va_A [(a_t, .inr (1, [.int f_t_size, .ref a_t_slots])), (a_t_slots, .inl (cI.1, 12, .inl c_t_slots))] sz) := by
  unfold m_X1_add at hf
  refine zhead (C := RX1) (by decide +kernel) rfl ?_
  intro p e s m below meth c hx hb hr hlocks hml hown hnm hts hE hK H hP hS hD hA
  generalize va_A [(a_t, .inr (1, [.int f_t_size, .ref a_t_slots])), (a_t_slots, .inl (cI.1, 12, .inl c_t_slots))] sz = A at hS hD hA ⊢
  have hl := lv_entry ([.ref a_t, .int x1]) (n := 2) (Nat.le_of_ble_eq_true rfl)
  rw [lg_entry_eq]
  generalize (lg_sl ([.ref a_t, .int x1]) ++ List.replicate (2 - (lg_sl ([.ref a_t, .int x1])).length) Slot.unset).toArray = ls at hl ⊢
  have hl : lv_has ls 2 [(0, .ref a_t), (1, .int x1)] := hl

  refine lv_aload_n hx hb dX1_add_0 rfl (lv_at hl 0 rfl) ?_
  refine va_get (D := D) (ci := 1) (v := .int f_t_size) (C := RX1) (T := TX1) (N := 2) hx hb hts (fun w h => zw_in (inX1 w h)) hown hK hP 0 rfl rfl 0 (by decide) (hts _ (zw_in kw_27)) (fun _ h9 => h9) rfl dX1_add_1 ?_
  refine lv_bipush (v := 12) hx hb dX1_add_4 (by decide) ?_
  refine lv_icmp_lt (tgt := 11) hx hb dX1_add_6 (by decide) (fun c_1 => ?_) (fun c_1 => ?_)
  · replace hf := zit hf c_1
    refine lv_aload_n hx hb dX1_add_11 rfl (lv_at hl 0 rfl) ?_
    refine va_get (D := D) (ci := 1) (v := .ref a_t_slots) (C := RX1) (T := TX1) (N := 2) hx hb hts (fun w h => zw_in (inX1 w h)) hown hK hP 0 rfl rfl 1 (by decide) (hts _ (zw_in kw_26)) (fun _ h9 => h9) rfl dX1_add_12 ?_
    refine lv_aload_n hx hb dX1_add_15 rfl (lv_at hl 0 rfl) ?_
    refine va_get (D := D) (ci := 1) (v := .int f_t_size) (C := RX1) (T := TX1) (N := 2) hx hb hts (fun w h => zw_in (inX1 w h)) hown hK hP 0 rfl rfl 0 (by decide) (hts _ (zw_in kw_27)) (fun _ h9 => h9) rfl dX1_add_16 ?_
    refine lv_iload_n hx hb dX1_add_19 rfl (lv_at hl 1 rfl) ?_
    obtain ⟨b_2, hf⟩ := zib hf
    refine va_iast hx hb hK hP hD hS 1 0 (cA := cI.1) rfl rfl b_2 dX1_add_20 (fun H locs hP hD hS => ?_)
    have hP : va_P D vwCl [(a_t, .inr (1, [.int f_t_size, .ref a_t_slots])), (a_t_slots, .inl (cI.1, 12, .inl (upd c_t_slots (f_t_size).toNatClampNeg x1)))] H := hP
    have hD : va_D A [(a_t, .inr (1, [.int f_t_size, .ref a_t_slots])), (a_t_slots, .inl (cI.1, 12, .inl (upd c_t_slots (f_t_size).toNatClampNeg x1)))] := hD
    refine lv_aload_n hx hb dX1_add_21 rfl (lv_at hl 0 rfl) ?_
    refine lv_dup hx hb dX1_add_22 rfl ?_
    refine va_get (D := D) (ci := 1) (v := .int f_t_size) (C := RX1) (T := TX1) (N := 2) hx hb hts (fun w h => zw_in (inX1 w h)) hown hK hP 0 rfl rfl 0 (by decide) (hts _ (zw_in kw_27)) (fun _ h9 => h9) rfl dX1_add_23 ?_
    refine lv_iconst (v := 1) hx hb dX1_add_26 (by decide) ?_
    refine lv_iadd hx hb dX1_add_27 ?_
    refine va_put (D := D) (ci := 1) (v := .int (f_t_size + (1 : Int32))) (ty := .int) (C := RX1) (T := TX1) (N := 2) hx hb hts (fun w h => zw_in (inX1 w h)) tyX1 tyX1_ok nmX1 hown hK hP hD hS 0 rfl rfl 0 (by decide) (hts _ (zw_in kw_27)) (fun _ h9 => h9) rfl (by decide +kernel) rfl rfl (Nat.le_of_ble_eq_true rfl) dX1_add_28 (fun H locs hP hD hS => ?_)
    have hP : va_P D vwCl [(a_t, .inr (1, [.int (f_t_size + (1 : Int32)), .ref a_t_slots])), (a_t_slots, .inl (cI.1, 12, .inl (upd c_t_slots (f_t_size).toNatClampNeg x1)))] H := hP
    have hD : va_D A [(a_t, .inr (1, [.int (f_t_size + (1 : Int32)), .ref a_t_slots])), (a_t_slots, .inl (cI.1, 12, .inl (upd c_t_slots (f_t_size).toNatClampNeg x1)))] := hD
    refine lv_iconst (v := 1) hx hb dX1_add_31 (by decide) ?_
    obtain rfl := Option.some.inj hf
    exact zret_i hx hb hr rfl ⟨rfl, rfl⟩ () hP hD hS [0, 1] rfl (by decide) dX1_add_32 hlocks
  · replace hf := zif hf c_1
    refine lv_iconst (v := 0) hx hb dX1_add_9 (by decide) ?_
    obtain rfl := Option.some.inj hf
    exact zret_i hx hb hr rfl ⟨rfl, rfl⟩ () hP hD hS [0, 1] rfl (by decide) dX1_add_10 hlocks
noncomputable def m_X4_init   : Option (Int32 × Int32 × Int32 × (Nat → Int32)) :=
  some ((0 : Int32), (0 : Int32), (0 : Int32), fun _ => 0)
def rm_X4_init : Room := { frames := 1, cells := 1, slots := 6, locals := 20 }
theorem hd_X4_init : yX4_init.cls ≠ "java/lang/invoke/MethodHandle" ∧ yX4_init.cls ≠ "java/lang/invoke/VarHandle" ∧ (parseMethodDescriptor yX4_init.desc).map (fun d => d.parameters.length) = some 0 := by decide +kernel
set_option maxHeartbeats 4000000 in
set_option maxRecDepth 100000 in
theorem c_X4_init (l : Launch) (D : va_G) (cI : ClassId × ClassId) (sz : Nat) (a_t : Nat)   (r : Int32 × Int32 × Int32 × (Nat → Int32)) (hf : m_X4_init   = some r) : Met l yX4_init (zw (Cond.code yX4_init cX4_init 1 none)) rm_X4_init (va_Pc [.ref a_t] (zA D cI [(a_t, .inr (4, [.int 0, .int 0, .null]))] sz)) (zQv D (va_A [(a_t, .inr (4, [.int 0, .int 0, .null]))] sz) (True) (fun (u : Nat) => ([(a_t, .inr (4, [.int r.2.1, .int r.2.2.1, .ref u])), (u, .inl (cI.1, 6, .inl r.2.2.2))] : va_W))) 1 6 (va_A [(a_t, .inr (4, [.int 0, .int 0, .null]))] sz) := by
  unfold m_X4_init at hf
  refine zhead (C := RX4) (by decide +kernel) rfl ?_
  intro p e s m below meth c hx hb hr hlocks hml hown hnm hts hE hK H hP hS hD hA
  generalize va_A [(a_t, .inr (4, [.int 0, .int 0, .null]))] sz = A at hS hD hA ⊢
  have hl := lv_entry ([.ref a_t]) (n := 1) (Nat.le_of_ble_eq_true rfl)
  rw [lg_entry_eq]
  generalize (lg_sl ([.ref a_t]) ++ List.replicate (1 - (lg_sl ([.ref a_t])).length) Slot.unset).toArray = ls at hl ⊢
  have hl : lv_has ls 1 [(0, .ref a_t)] := hl

  refine lv_aload_n hx hb dX4_init_0 rfl (lv_at hl 0 rfl) ?_
  refine W.objInit hx hb hown (hts _ (zw_in kw_28)) (hts _ (zw_in kw_11)) (hts _ (zw_in kw_12)) rfl (by rw [hml]; exact hl.1) rfl dX4_init_1 (Nat.le_of_ble_eq_true rfl) (Nat.le_of_ble_eq_true rfl) ?_
  refine W.eq (g2 := F0 m 4 ls []) rfl ?_
  refine lv_aload_n hx hb dX4_init_4 rfl (lv_at hl 0 rfl) ?_
  refine lv_bipush (v := 6) hx hb dX4_init_5 (by decide) ?_
  refine va_newa (atype := .int) (ty := .int) (N' := 6) (a0 := (6, .inl (fun _ => 0))) hx hb (hts _ (zw_in kw_13)) rfl hK hP hD hS hA (fun _ => rfl) (by decide) (by decide) (Nat.le_of_ble_eq_true rfl) (Nat.le_of_ble_eq_true rfl) (Nat.le_of_ble_eq_true rfl) dX4_init_7 (fun q7 cA H hK9 hP hD hS => ?_)
  obtain rfl := zKeq hK9
  have hP : va_P D vwCl [(a_t, .inr (4, [.int 0, .int 0, .null])), (q7, .inl (cI.1, 6, .inl (fun _ => 0)))] H := hP
  have hD : va_D A [(a_t, .inr (4, [.int 0, .int 0, .null])), (q7, .inl (cI.1, 6, .inl (fun _ => 0)))] := hD
  refine W.widen (k := 1) (n := 6) (Nat.le_of_ble_eq_true rfl) (Nat.le_of_ble_eq_true rfl) ?_
  refine va_putF (D := D) (ci := 4) (v := .ref q7) (ty := (.array .int)) (C := RX4) (T := TX4) (N := 3) hx hb hts (fun w h => zw_in (inX4 w h)) tyX4 tyX4_ok nmX4 hown hK hP hD hS 0 rfl rfl 2 (by decide) (hts _ (zw_in kw_29)) (fun _ h9 => h9) rfl hnm rfl (by decide +kernel) rfl rfl (Nat.le_of_ble_eq_true rfl) dX4_init_9 (fun H locs hP hD hS => ?_)
  have hP : va_P D vwCl [(a_t, .inr (4, [.int 0, .int 0, .ref q7])), (q7, .inl (cI.1, 6, .inl (fun _ => 0)))] H := hP
  have hD : va_D A [(a_t, .inr (4, [.int 0, .int 0, .ref q7])), (q7, .inl (cI.1, 6, .inl (fun _ => 0)))] := hD
  obtain rfl := Option.some.inj hf
  exact zret_v hx hb hr trivial q7 hP hD hS [0, 1] rfl (by decide) dX4_init_12 hlocks
noncomputable def m_X4_add (f_t_size : Int32) (f_t_all : Int32) (c_t_options : Nat → Int32) (x1 : Int32) : Option (Int32 × Int32 × Int32 × (Nat → Int32)) :=
  if f_t_size < (6 : Int32) then if f_t_size < 0 ∨ 6 ≤ (f_t_size).toNatClampNeg then none else some ((1 : Int32), f_t_size + (1 : Int32), f_t_all ||| ((((1 : Int32) <<< (x1 &&& 31)) - (1 : Int32)) <<< ((f_t_size * (5 : Int32)) &&& 31)), upd c_t_options (f_t_size).toNatClampNeg x1) else some ((0 : Int32), f_t_size, f_t_all, c_t_options)
def rm_X4_add : Room := { frames := 0, cells := 0, slots := 0, locals := 0 }
theorem hd_X4_add : yX4_add.cls ≠ "java/lang/invoke/MethodHandle" ∧ yX4_add.cls ≠ "java/lang/invoke/VarHandle" ∧ (parseMethodDescriptor yX4_add.desc).map (fun d => d.parameters.length) = some 1 := by decide +kernel
set_option maxHeartbeats 4000000 in
set_option maxRecDepth 100000 in
theorem c_X4_add (l : Launch) (D : va_G) (cI : ClassId × ClassId) (sz : Nat) (a_t : Nat) (a_t_options : Nat) (f_t_size : Int32) (f_t_all : Int32) (c_t_options : Nat → Int32) (x1 : Int32) (r : Int32 × Int32 × Int32 × (Nat → Int32)) (hf : m_X4_add f_t_size f_t_all c_t_options x1 = some r) : Met l yX4_add (zw (Cond.code yX4_add cX4_add 2 (some .boolean))) rm_X4_add (va_Pc [.ref a_t, .int x1] (zA D cI [(a_t, .inr (4, [.int f_t_size, .int f_t_all, .ref a_t_options])), (a_t_options, .inl (cI.1, 6, .inl c_t_options))] sz)) (zQi D (va_A [(a_t, .inr (4, [.int f_t_size, .int f_t_all, .ref a_t_options])), (a_t_options, .inl (cI.1, 6, .inl c_t_options))] sz) (fun v => v = r.1 ∧ narrow .boolean (.int v) = .int v) (fun (u : Unit) => ([(a_t, .inr (4, [.int r.2.1, .int r.2.2.1, .ref a_t_options])), (a_t_options, .inl (cI.1, 6, .inl r.2.2.2))] : va_W))) 0 0 (va_A [(a_t, .inr (4, [.int f_t_size, .int f_t_all, .ref a_t_options])), (a_t_options, .inl (cI.1, 6, .inl c_t_options))] sz) := by
  unfold m_X4_add at hf
  refine zhead (C := RX4) (by decide +kernel) rfl ?_
  intro p e s m below meth c hx hb hr hlocks hml hown hnm hts hE hK H hP hS hD hA
  generalize va_A [(a_t, .inr (4, [.int f_t_size, .int f_t_all, .ref a_t_options])), (a_t_options, .inl (cI.1, 6, .inl c_t_options))] sz = A at hS hD hA ⊢
  have hl := lv_entry ([.ref a_t, .int x1]) (n := 2) (Nat.le_of_ble_eq_true rfl)
  rw [lg_entry_eq]
  generalize (lg_sl ([.ref a_t, .int x1]) ++ List.replicate (2 - (lg_sl ([.ref a_t, .int x1])).length) Slot.unset).toArray = ls at hl ⊢
  have hl : lv_has ls 2 [(0, .ref a_t), (1, .int x1)] := hl

  refine lv_aload_n hx hb dX4_add_0 rfl (lv_at hl 0 rfl) ?_
  refine va_get (D := D) (ci := 4) (v := .int f_t_size) (C := RX4) (T := TX4) (N := 3) hx hb hts (fun w h => zw_in (inX4 w h)) hown hK hP 0 rfl rfl 0 (by decide) (hts _ (zw_in kw_30)) (fun _ h9 => h9) rfl dX4_add_1 ?_
  refine lv_bipush (v := 6) hx hb dX4_add_4 (by decide) ?_
  refine lv_icmp_lt (tgt := 11) hx hb dX4_add_6 (by decide) (fun c_1 => ?_) (fun c_1 => ?_)
  · replace hf := zit hf c_1
    refine lv_aload_n hx hb dX4_add_11 rfl (lv_at hl 0 rfl) ?_
    refine va_get (D := D) (ci := 4) (v := .ref a_t_options) (C := RX4) (T := TX4) (N := 3) hx hb hts (fun w h => zw_in (inX4 w h)) hown hK hP 0 rfl rfl 2 (by decide) (hts _ (zw_in kw_29)) (fun _ h9 => h9) rfl dX4_add_12 ?_
    refine lv_aload_n hx hb dX4_add_15 rfl (lv_at hl 0 rfl) ?_
    refine va_get (D := D) (ci := 4) (v := .int f_t_size) (C := RX4) (T := TX4) (N := 3) hx hb hts (fun w h => zw_in (inX4 w h)) hown hK hP 0 rfl rfl 0 (by decide) (hts _ (zw_in kw_30)) (fun _ h9 => h9) rfl dX4_add_16 ?_
    refine lv_iload_n hx hb dX4_add_19 rfl (lv_at hl 1 rfl) ?_
    obtain ⟨b_2, hf⟩ := zib hf
    refine va_iast hx hb hK hP hD hS 1 0 (cA := cI.1) rfl rfl b_2 dX4_add_20 (fun H locs hP hD hS => ?_)
    have hP : va_P D vwCl [(a_t, .inr (4, [.int f_t_size, .int f_t_all, .ref a_t_options])), (a_t_options, .inl (cI.1, 6, .inl (upd c_t_options (f_t_size).toNatClampNeg x1)))] H := hP
    have hD : va_D A [(a_t, .inr (4, [.int f_t_size, .int f_t_all, .ref a_t_options])), (a_t_options, .inl (cI.1, 6, .inl (upd c_t_options (f_t_size).toNatClampNeg x1)))] := hD
    refine lv_aload_n hx hb dX4_add_21 rfl (lv_at hl 0 rfl) ?_
    refine lv_dup hx hb dX4_add_22 rfl ?_
    refine va_get (D := D) (ci := 4) (v := .int f_t_all) (C := RX4) (T := TX4) (N := 3) hx hb hts (fun w h => zw_in (inX4 w h)) hown hK hP 0 rfl rfl 1 (by decide) (hts _ (zw_in kw_31)) (fun _ h9 => h9) rfl dX4_add_23 ?_
    refine lv_iconst (v := 1) hx hb dX4_add_26 (by decide) ?_
    refine lv_iload_n hx hb dX4_add_27 rfl (lv_at hl 1 rfl) ?_
    refine lv_ishl hx hb dX4_add_28 ?_
    refine lv_iconst (v := 1) hx hb dX4_add_29 (by decide) ?_
    refine lv_isub hx hb dX4_add_30 ?_
    refine lv_aload_n hx hb dX4_add_31 rfl (lv_at hl 0 rfl) ?_
    refine va_get (D := D) (ci := 4) (v := .int f_t_size) (C := RX4) (T := TX4) (N := 3) hx hb hts (fun w h => zw_in (inX4 w h)) hown hK hP 0 rfl rfl 0 (by decide) (hts _ (zw_in kw_30)) (fun _ h9 => h9) rfl dX4_add_32 ?_
    refine lv_iconst (v := 5) hx hb dX4_add_35 (by decide) ?_
    refine lv_imul hx hb dX4_add_36 ?_
    refine lv_ishl hx hb dX4_add_37 ?_
    refine lv_ior hx hb dX4_add_38 ?_
    refine va_put (D := D) (ci := 4) (v := .int (f_t_all ||| ((((1 : Int32) <<< (x1 &&& 31)) - (1 : Int32)) <<< ((f_t_size * (5 : Int32)) &&& 31)))) (ty := .int) (C := RX4) (T := TX4) (N := 3) hx hb hts (fun w h => zw_in (inX4 w h)) tyX4 tyX4_ok nmX4 hown hK hP hD hS 0 rfl rfl 1 (by decide) (hts _ (zw_in kw_31)) (fun _ h9 => h9) rfl (by decide +kernel) rfl rfl (Nat.le_of_ble_eq_true rfl) dX4_add_39 (fun H locs hP hD hS => ?_)
    have hP : va_P D vwCl [(a_t, .inr (4, [.int f_t_size, .int (f_t_all ||| ((((1 : Int32) <<< (x1 &&& 31)) - (1 : Int32)) <<< ((f_t_size * (5 : Int32)) &&& 31))), .ref a_t_options])), (a_t_options, .inl (cI.1, 6, .inl (upd c_t_options (f_t_size).toNatClampNeg x1)))] H := hP
    have hD : va_D A [(a_t, .inr (4, [.int f_t_size, .int (f_t_all ||| ((((1 : Int32) <<< (x1 &&& 31)) - (1 : Int32)) <<< ((f_t_size * (5 : Int32)) &&& 31))), .ref a_t_options])), (a_t_options, .inl (cI.1, 6, .inl (upd c_t_options (f_t_size).toNatClampNeg x1)))] := hD
    refine lv_aload_n hx hb dX4_add_42 rfl (lv_at hl 0 rfl) ?_
    refine lv_dup hx hb dX4_add_43 rfl ?_
    refine va_get (D := D) (ci := 4) (v := .int f_t_size) (C := RX4) (T := TX4) (N := 3) hx hb hts (fun w h => zw_in (inX4 w h)) hown hK hP 0 rfl rfl 0 (by decide) (hts _ (zw_in kw_30)) (fun _ h9 => h9) rfl dX4_add_44 ?_
    refine lv_iconst (v := 1) hx hb dX4_add_47 (by decide) ?_
    refine lv_iadd hx hb dX4_add_48 ?_
    refine va_put (D := D) (ci := 4) (v := .int (f_t_size + (1 : Int32))) (ty := .int) (C := RX4) (T := TX4) (N := 3) hx hb hts (fun w h => zw_in (inX4 w h)) tyX4 tyX4_ok nmX4 hown hK hP hD hS 0 rfl rfl 0 (by decide) (hts _ (zw_in kw_30)) (fun _ h9 => h9) rfl (by decide +kernel) rfl rfl (Nat.le_of_ble_eq_true rfl) dX4_add_49 (fun H locs hP hD hS => ?_)
    have hP : va_P D vwCl [(a_t, .inr (4, [.int (f_t_size + (1 : Int32)), .int (f_t_all ||| ((((1 : Int32) <<< (x1 &&& 31)) - (1 : Int32)) <<< ((f_t_size * (5 : Int32)) &&& 31))), .ref a_t_options])), (a_t_options, .inl (cI.1, 6, .inl (upd c_t_options (f_t_size).toNatClampNeg x1)))] H := hP
    have hD : va_D A [(a_t, .inr (4, [.int (f_t_size + (1 : Int32)), .int (f_t_all ||| ((((1 : Int32) <<< (x1 &&& 31)) - (1 : Int32)) <<< ((f_t_size * (5 : Int32)) &&& 31))), .ref a_t_options])), (a_t_options, .inl (cI.1, 6, .inl (upd c_t_options (f_t_size).toNatClampNeg x1)))] := hD
    refine lv_iconst (v := 1) hx hb dX4_add_52 (by decide) ?_
    obtain rfl := Option.some.inj hf
    exact zret_i hx hb hr rfl ⟨rfl, rfl⟩ () hP hD hS [0, 1] rfl (by decide) dX4_add_53 hlocks
  · replace hf := zif hf c_1
    refine lv_iconst (v := 0) hx hb dX4_add_9 (by decide) ?_
    obtain rfl := Option.some.inj hf
    exact zret_i hx hb hr rfl ⟨rfl, rfl⟩ () hP hD hS [0, 1] rfl (by decide) dX4_add_10 hlocks
noncomputable def m_X4_has (f_t_size : Int32) (x1 : Int32) : Option (Int32) :=
  if x1 < (0 : Int32) then some (0 : Int32) else if f_t_size ≤ x1 then some (0 : Int32) else some (1 : Int32)
def rm_X4_has : Room := { frames := 0, cells := 0, slots := 0, locals := 0 }
theorem hd_X4_has : yX4_has.cls ≠ "java/lang/invoke/MethodHandle" ∧ yX4_has.cls ≠ "java/lang/invoke/VarHandle" ∧ (parseMethodDescriptor yX4_has.desc).map (fun d => d.parameters.length) = some 1 := by decide +kernel
set_option maxHeartbeats 4000000 in
set_option maxRecDepth 100000 in
theorem c_X4_has (l : Launch) (D : va_G) (cI : ClassId × ClassId) (sz : Nat) (a_t : Nat) (a_t_options : Nat) (f_t_size : Int32) (f_t_all : Int32) (x1 : Int32) (r : Int32) (hf : m_X4_has f_t_size x1 = some r) : Met l yX4_has (zw (Cond.code yX4_has cX4_has 2 (some .boolean))) rm_X4_has (va_Pc [.ref a_t, .int x1] (zA D cI [(a_t, .inr (4, [.int f_t_size, .int f_t_all, .ref a_t_options]))] sz)) (zQi D (va_A [(a_t, .inr (4, [.int f_t_size, .int f_t_all, .ref a_t_options]))] sz) (fun v => v = r ∧ narrow .boolean (.int v) = .int v) (fun (u : Unit) => ([(a_t, .inr (4, [.int f_t_size, .int f_t_all, .ref a_t_options]))] : va_W))) 0 0 (va_A [(a_t, .inr (4, [.int f_t_size, .int f_t_all, .ref a_t_options]))] sz) := by
  unfold m_X4_has at hf
  refine zhead (C := RX4) (by decide +kernel) rfl ?_
  intro p e s m below meth c hx hb hr hlocks hml hown hnm hts hE hK H hP hS hD hA
  generalize va_A [(a_t, .inr (4, [.int f_t_size, .int f_t_all, .ref a_t_options]))] sz = A at hS hD hA ⊢
  have hl := lv_entry ([.ref a_t, .int x1]) (n := 2) (Nat.le_of_ble_eq_true rfl)
  rw [lg_entry_eq]
  generalize (lg_sl ([.ref a_t, .int x1]) ++ List.replicate (2 - (lg_sl ([.ref a_t, .int x1])).length) Slot.unset).toArray = ls at hl ⊢
  have hl : lv_has ls 2 [(0, .ref a_t), (1, .int x1)] := hl

  refine lv_iload_n hx hb dX4_has_0 rfl (lv_at hl 1 rfl) ?_
  refine lv_if_lt (tgt := 16) hx hb dX4_has_1 (by decide) (fun c_1 => ?_) (fun c_1 => ?_)
  · replace hf := zit hf c_1
    refine lv_iconst (v := 0) hx hb dX4_has_16 (by decide) ?_
    obtain rfl := Option.some.inj hf
    exact zret_i hx hb hr rfl ⟨rfl, rfl⟩ () hP hD hS [0] rfl (by decide) dX4_has_17 hlocks
  · replace hf := zif hf c_1
    refine lv_iload_n hx hb dX4_has_4 rfl (lv_at hl 1 rfl) ?_
    refine lv_aload_n hx hb dX4_has_5 rfl (lv_at hl 0 rfl) ?_
    refine va_get (D := D) (ci := 4) (v := .int f_t_size) (C := RX4) (T := TX4) (N := 3) hx hb hts (fun w h => zw_in (inX4 w h)) hown hK hP 0 rfl rfl 0 (by decide) (hts _ (zw_in kw_30)) (fun _ h9 => h9) rfl dX4_has_6 ?_
    refine lv_icmp_ge (tgt := 16) hx hb dX4_has_9 (by decide) (fun c_2 => ?_) (fun c_2 => ?_)
    · replace hf := zit hf c_2
      refine lv_iconst (v := 0) hx hb dX4_has_16 (by decide) ?_
      obtain rfl := Option.some.inj hf
      exact zret_i hx hb hr rfl ⟨rfl, rfl⟩ () hP hD hS [0] rfl (by decide) dX4_has_17 hlocks
    · replace hf := zif hf c_2
      refine lv_iconst (v := 1) hx hb dX4_has_12 (by decide) ?_
      refine lv_goto (tgt := 17) hx hb dX4_has_13 (by decide) ?_
      obtain rfl := Option.some.inj hf
      exact zret_i hx hb hr rfl ⟨rfl, rfl⟩ () hP hD hS [0] rfl (by decide) dX4_has_17 hlocks
noncomputable def m_X7_init   : Option (Int32 × Int32 × (Nat → Int32) × (Nat → Int32) × (Nat → Int32)) :=
  some ((0 : Int32), (0 : Int32), fun _ => 0, fun _ => 0, fun _ => 0)
def rm_X7_init : Room := { frames := 1, cells := 3, slots := 50, locals := 20 }
theorem hd_X7_init : yX7_init.cls ≠ "java/lang/invoke/MethodHandle" ∧ yX7_init.cls ≠ "java/lang/invoke/VarHandle" ∧ (parseMethodDescriptor yX7_init.desc).map (fun d => d.parameters.length) = some 0 := by decide +kernel
set_option maxHeartbeats 4000000 in
set_option maxRecDepth 100000 in
theorem c_X7_init (l : Launch) (D : va_G) (cI : ClassId × ClassId) (sz : Nat) (a_t : Nat)   (r : Int32 × Int32 × (Nat → Int32) × (Nat → Int32) × (Nat → Int32)) (hf : m_X7_init   = some r) : Met l yX7_init (zw (Cond.code yX7_init cX7_init 1 none)) rm_X7_init (va_Pc [.ref a_t] (zA D cI [(a_t, .inr (7, [.null, .int 0, .null, .null]))] sz)) (zQv D (va_A [(a_t, .inr (7, [.null, .int 0, .null, .null]))] sz) (True) (fun (u : Nat × Nat × Nat) => ([(a_t, .inr (7, [.ref u.1, .int r.2.1, .ref u.2.1, .ref u.2.2])), (u.1, .inl (cI.1, 30, .inl r.2.2.1)), (u.2.1, .inl (cI.1, 10, .inl r.2.2.2.1)), (u.2.2, .inl (cI.1, 10, .inl r.2.2.2.2))] : va_W))) 3 50 (va_A [(a_t, .inr (7, [.null, .int 0, .null, .null]))] sz) := by
  unfold m_X7_init at hf
  refine zhead (C := RX7) (by decide +kernel) rfl ?_
  intro p e s m below meth c hx hb hr hlocks hml hown hnm hts hE hK H hP hS hD hA
  generalize va_A [(a_t, .inr (7, [.null, .int 0, .null, .null]))] sz = A at hS hD hA ⊢
  have hl := lv_entry ([.ref a_t]) (n := 1) (Nat.le_of_ble_eq_true rfl)
  rw [lg_entry_eq]
  generalize (lg_sl ([.ref a_t]) ++ List.replicate (1 - (lg_sl ([.ref a_t])).length) Slot.unset).toArray = ls at hl ⊢
  have hl : lv_has ls 1 [(0, .ref a_t)] := hl

  refine lv_aload_n hx hb dX7_init_0 rfl (lv_at hl 0 rfl) ?_
  refine W.objInit hx hb hown (hts _ (zw_in kw_32)) (hts _ (zw_in kw_11)) (hts _ (zw_in kw_12)) rfl (by rw [hml]; exact hl.1) rfl dX7_init_1 (Nat.le_of_ble_eq_true rfl) (Nat.le_of_ble_eq_true rfl) ?_
  refine W.eq (g2 := F0 m 4 ls []) rfl ?_
  refine lv_aload_n hx hb dX7_init_4 rfl (lv_at hl 0 rfl) ?_
  refine lv_bipush (v := 30) hx hb dX7_init_5 (by decide) ?_
  refine va_newa (atype := .int) (ty := .int) (N' := 30) (a0 := (30, .inl (fun _ => 0))) hx hb (hts _ (zw_in kw_13)) rfl hK hP hD hS hA (fun _ => rfl) (by decide) (by decide) (Nat.le_of_ble_eq_true rfl) (Nat.le_of_ble_eq_true rfl) (Nat.le_of_ble_eq_true rfl) dX7_init_7 (fun q7 cA H hK9 hP hD hS => ?_)
  obtain rfl := zKeq hK9
  have hP : va_P D vwCl [(a_t, .inr (7, [.null, .int 0, .null, .null])), (q7, .inl (cI.1, 30, .inl (fun _ => 0)))] H := hP
  have hD : va_D A [(a_t, .inr (7, [.null, .int 0, .null, .null])), (q7, .inl (cI.1, 30, .inl (fun _ => 0)))] := hD
  refine W.widen (k := 1) (n := 30) (Nat.le_of_ble_eq_true rfl) (Nat.le_of_ble_eq_true rfl) ?_
  refine va_putF (D := D) (ci := 7) (v := .ref q7) (ty := (.array .int)) (C := RX7) (T := TX7) (N := 4) hx hb hts (fun w h => zw_in (inX7 w h)) tyX7 tyX7_ok nmX7 hown hK hP hD hS 0 rfl rfl 0 (by decide) (hts _ (zw_in kw_33)) (fun _ h9 => h9) rfl hnm rfl (by decide +kernel) rfl rfl (Nat.le_of_ble_eq_true rfl) dX7_init_9 (fun H locs hP hD hS => ?_)
  have hP : va_P D vwCl [(a_t, .inr (7, [.ref q7, .int 0, .null, .null])), (q7, .inl (cI.1, 30, .inl (fun _ => 0)))] H := hP
  have hD : va_D A [(a_t, .inr (7, [.ref q7, .int 0, .null, .null])), (q7, .inl (cI.1, 30, .inl (fun _ => 0)))] := hD
  refine lv_aload_n hx hb dX7_init_12 rfl (lv_at hl 0 rfl) ?_
  refine lv_bipush (v := 10) hx hb dX7_init_13 (by decide) ?_
  refine va_newa (atype := .int) (ty := .int) (N' := 10) (a0 := (10, .inl (fun _ => 0))) hx hb (hts _ (zw_in kw_13)) rfl hK hP hD hS hA (fun _ => rfl) (by decide) (by decide) (Nat.le_of_ble_eq_true rfl) (Nat.le_of_ble_eq_true rfl) (Nat.le_of_ble_eq_true rfl) dX7_init_15 (fun q15 cA H hK9 hP hD hS => ?_)
  obtain rfl := zKeq hK9
  have hP : va_P D vwCl [(a_t, .inr (7, [.ref q7, .int 0, .null, .null])), (q7, .inl (cI.1, 30, .inl (fun _ => 0))), (q15, .inl (cI.1, 10, .inl (fun _ => 0)))] H := hP
  have hD : va_D A [(a_t, .inr (7, [.ref q7, .int 0, .null, .null])), (q7, .inl (cI.1, 30, .inl (fun _ => 0))), (q15, .inl (cI.1, 10, .inl (fun _ => 0)))] := hD
  refine W.widen (k := 2) (n := 40) (Nat.le_of_ble_eq_true rfl) (Nat.le_of_ble_eq_true rfl) ?_
  refine va_putF (D := D) (ci := 7) (v := .ref q15) (ty := (.array .int)) (C := RX7) (T := TX7) (N := 4) hx hb hts (fun w h => zw_in (inX7 w h)) tyX7 tyX7_ok nmX7 hown hK hP hD hS 0 rfl rfl 2 (by decide) (hts _ (zw_in kw_34)) (fun _ h9 => h9) rfl hnm rfl (by decide +kernel) rfl rfl (Nat.le_of_ble_eq_true rfl) dX7_init_17 (fun H locs hP hD hS => ?_)
  have hP : va_P D vwCl [(a_t, .inr (7, [.ref q7, .int 0, .ref q15, .null])), (q7, .inl (cI.1, 30, .inl (fun _ => 0))), (q15, .inl (cI.1, 10, .inl (fun _ => 0)))] H := hP
  have hD : va_D A [(a_t, .inr (7, [.ref q7, .int 0, .ref q15, .null])), (q7, .inl (cI.1, 30, .inl (fun _ => 0))), (q15, .inl (cI.1, 10, .inl (fun _ => 0)))] := hD
  refine lv_aload_n hx hb dX7_init_20 rfl (lv_at hl 0 rfl) ?_
  refine lv_bipush (v := 10) hx hb dX7_init_21 (by decide) ?_
  refine va_newa (atype := .int) (ty := .int) (N' := 10) (a0 := (10, .inl (fun _ => 0))) hx hb (hts _ (zw_in kw_13)) rfl hK hP hD hS hA (fun _ => rfl) (by decide) (by decide) (Nat.le_of_ble_eq_true rfl) (Nat.le_of_ble_eq_true rfl) (Nat.le_of_ble_eq_true rfl) dX7_init_23 (fun q23 cA H hK9 hP hD hS => ?_)
  obtain rfl := zKeq hK9
  have hP : va_P D vwCl [(a_t, .inr (7, [.ref q7, .int 0, .ref q15, .null])), (q7, .inl (cI.1, 30, .inl (fun _ => 0))), (q15, .inl (cI.1, 10, .inl (fun _ => 0))), (q23, .inl (cI.1, 10, .inl (fun _ => 0)))] H := hP
  have hD : va_D A [(a_t, .inr (7, [.ref q7, .int 0, .ref q15, .null])), (q7, .inl (cI.1, 30, .inl (fun _ => 0))), (q15, .inl (cI.1, 10, .inl (fun _ => 0))), (q23, .inl (cI.1, 10, .inl (fun _ => 0)))] := hD
  refine W.widen (k := 3) (n := 50) (Nat.le_of_ble_eq_true rfl) (Nat.le_of_ble_eq_true rfl) ?_
  refine va_putF (D := D) (ci := 7) (v := .ref q23) (ty := (.array .int)) (C := RX7) (T := TX7) (N := 4) hx hb hts (fun w h => zw_in (inX7 w h)) tyX7 tyX7_ok nmX7 hown hK hP hD hS 0 rfl rfl 3 (by decide) (hts _ (zw_in kw_35)) (fun _ h9 => h9) rfl hnm rfl (by decide +kernel) rfl rfl (Nat.le_of_ble_eq_true rfl) dX7_init_25 (fun H locs hP hD hS => ?_)
  have hP : va_P D vwCl [(a_t, .inr (7, [.ref q7, .int 0, .ref q15, .ref q23])), (q7, .inl (cI.1, 30, .inl (fun _ => 0))), (q15, .inl (cI.1, 10, .inl (fun _ => 0))), (q23, .inl (cI.1, 10, .inl (fun _ => 0)))] H := hP
  have hD : va_D A [(a_t, .inr (7, [.ref q7, .int 0, .ref q15, .ref q23])), (q7, .inl (cI.1, 30, .inl (fun _ => 0))), (q15, .inl (cI.1, 10, .inl (fun _ => 0))), (q23, .inl (cI.1, 10, .inl (fun _ => 0)))] := hD
  obtain rfl := Option.some.inj hf
  exact zret_v hx hb hr trivial (q7, q15, q23) hP hD hS [0, 1, 2, 3] rfl (by decide) dX7_init_28 hlocks
noncomputable def m_X7_add (f_t_surcharges : Int32) (c_t_both : Nat → Int32) (c_t_amounts : Nat → Int32) (x1 : Int32) (x2 : Int32) : Option (Int32 × Int32 × (Nat → Int32) × (Nat → Int32)) :=
  if f_t_surcharges < (10 : Int32) then if f_t_surcharges < 0 ∨ 10 ≤ (f_t_surcharges).toNatClampNeg then none else some ((1 : Int32), f_t_surcharges + (1 : Int32), upd c_t_both (f_t_surcharges).toNatClampNeg x1, upd c_t_amounts (f_t_surcharges).toNatClampNeg x2) else some ((0 : Int32), f_t_surcharges, c_t_both, c_t_amounts)
def rm_X7_add : Room := { frames := 0, cells := 0, slots := 0, locals := 0 }
theorem hd_X7_add : yX7_add.cls ≠ "java/lang/invoke/MethodHandle" ∧ yX7_add.cls ≠ "java/lang/invoke/VarHandle" ∧ (parseMethodDescriptor yX7_add.desc).map (fun d => d.parameters.length) = some 2 := by decide +kernel
set_option maxHeartbeats 4000000 in
set_option maxRecDepth 100000 in
theorem c_X7_add (l : Launch) (D : va_G) (cI : ClassId × ClassId) (sz : Nat) (a_t : Nat) (a_t_ofSlots : Nat) (a_t_both : Nat) (a_t_amounts : Nat) (f_t_surcharges : Int32) (c_t_both : Nat → Int32) (c_t_amounts : Nat → Int32) (x1 : Int32) (x2 : Int32) (r : Int32 × Int32 × (Nat → Int32) × (Nat → Int32)) (hf : m_X7_add f_t_surcharges c_t_both c_t_amounts x1 x2 = some r) : Met l yX7_add (zw (Cond.code yX7_add cX7_add 3 (some .boolean))) rm_X7_add (va_Pc [.ref a_t, .int x1, .int x2] (zA D cI [(a_t, .inr (7, [.ref a_t_ofSlots, .int f_t_surcharges, .ref a_t_both, .ref a_t_amounts])), (a_t_both, .inl (cI.1, 10, .inl c_t_both)), (a_t_amounts, .inl (cI.1, 10, .inl c_t_amounts))] sz)) (zQi D (va_A [(a_t, .inr (7, [.ref a_t_ofSlots, .int f_t_surcharges, .ref a_t_both, .ref a_t_amounts])), (a_t_both, .inl (cI.1, 10, .inl c_t_both)), (a_t_amounts, .inl (cI.1, 10, .inl c_t_amounts))] sz) (fun v => v = r.1 ∧ narrow .boolean (.int v) = .int v) (fun (u : Unit) => ([(a_t, .inr (7, [.ref a_t_ofSlots, .int r.2.1, .ref a_t_both, .ref a_t_amounts])), (a_t_both, .inl (cI.1, 10, .inl r.2.2.1)), (a_t_amounts, .inl (cI.1, 10, .inl r.2.2.2))] : va_W))) 0 0 (va_A [(a_t, .inr (7, [.ref a_t_ofSlots, .int f_t_surcharges, .ref a_t_both, .ref a_t_amounts])), (a_t_both, .inl (cI.1, 10, .inl c_t_both)), (a_t_amounts, .inl (cI.1, 10, .inl c_t_amounts))] sz) := by
  unfold m_X7_add at hf
  refine zhead (C := RX7) (by decide +kernel) rfl ?_
  intro p e s m below meth c hx hb hr hlocks hml hown hnm hts hE hK H hP hS hD hA
  generalize va_A [(a_t, .inr (7, [.ref a_t_ofSlots, .int f_t_surcharges, .ref a_t_both, .ref a_t_amounts])), (a_t_both, .inl (cI.1, 10, .inl c_t_both)), (a_t_amounts, .inl (cI.1, 10, .inl c_t_amounts))] sz = A at hS hD hA ⊢
  have hl := lv_entry ([.ref a_t, .int x1, .int x2]) (n := 3) (Nat.le_of_ble_eq_true rfl)
  rw [lg_entry_eq]
  generalize (lg_sl ([.ref a_t, .int x1, .int x2]) ++ List.replicate (3 - (lg_sl ([.ref a_t, .int x1, .int x2])).length) Slot.unset).toArray = ls at hl ⊢
  have hl : lv_has ls 3 [(0, .ref a_t), (1, .int x1), (2, .int x2)] := hl

  refine lv_aload_n hx hb dX7_add_0 rfl (lv_at hl 0 rfl) ?_
  refine va_get (D := D) (ci := 7) (v := .int f_t_surcharges) (C := RX7) (T := TX7) (N := 4) hx hb hts (fun w h => zw_in (inX7 w h)) hown hK hP 0 rfl rfl 1 (by decide) (hts _ (zw_in kw_36)) (fun _ h9 => h9) rfl dX7_add_1 ?_
  refine lv_bipush (v := 10) hx hb dX7_add_4 (by decide) ?_
  refine lv_icmp_lt (tgt := 11) hx hb dX7_add_6 (by decide) (fun c_1 => ?_) (fun c_1 => ?_)
  · replace hf := zit hf c_1
    refine lv_aload_n hx hb dX7_add_11 rfl (lv_at hl 0 rfl) ?_
    refine va_get (D := D) (ci := 7) (v := .ref a_t_both) (C := RX7) (T := TX7) (N := 4) hx hb hts (fun w h => zw_in (inX7 w h)) hown hK hP 0 rfl rfl 2 (by decide) (hts _ (zw_in kw_34)) (fun _ h9 => h9) rfl dX7_add_12 ?_
    refine lv_aload_n hx hb dX7_add_15 rfl (lv_at hl 0 rfl) ?_
    refine va_get (D := D) (ci := 7) (v := .int f_t_surcharges) (C := RX7) (T := TX7) (N := 4) hx hb hts (fun w h => zw_in (inX7 w h)) hown hK hP 0 rfl rfl 1 (by decide) (hts _ (zw_in kw_36)) (fun _ h9 => h9) rfl dX7_add_16 ?_
    refine lv_iload_n hx hb dX7_add_19 rfl (lv_at hl 1 rfl) ?_
    obtain ⟨b_2, hf⟩ := zib hf
    refine va_iast hx hb hK hP hD hS 1 0 (cA := cI.1) rfl rfl b_2 dX7_add_20 (fun H locs hP hD hS => ?_)
    have hP : va_P D vwCl [(a_t, .inr (7, [.ref a_t_ofSlots, .int f_t_surcharges, .ref a_t_both, .ref a_t_amounts])), (a_t_both, .inl (cI.1, 10, .inl (upd c_t_both (f_t_surcharges).toNatClampNeg x1))), (a_t_amounts, .inl (cI.1, 10, .inl c_t_amounts))] H := hP
    have hD : va_D A [(a_t, .inr (7, [.ref a_t_ofSlots, .int f_t_surcharges, .ref a_t_both, .ref a_t_amounts])), (a_t_both, .inl (cI.1, 10, .inl (upd c_t_both (f_t_surcharges).toNatClampNeg x1))), (a_t_amounts, .inl (cI.1, 10, .inl c_t_amounts))] := hD
    refine lv_aload_n hx hb dX7_add_21 rfl (lv_at hl 0 rfl) ?_
    refine va_get (D := D) (ci := 7) (v := .ref a_t_amounts) (C := RX7) (T := TX7) (N := 4) hx hb hts (fun w h => zw_in (inX7 w h)) hown hK hP 0 rfl rfl 3 (by decide) (hts _ (zw_in kw_35)) (fun _ h9 => h9) rfl dX7_add_22 ?_
    refine lv_aload_n hx hb dX7_add_25 rfl (lv_at hl 0 rfl) ?_
    refine va_get (D := D) (ci := 7) (v := .int f_t_surcharges) (C := RX7) (T := TX7) (N := 4) hx hb hts (fun w h => zw_in (inX7 w h)) hown hK hP 0 rfl rfl 1 (by decide) (hts _ (zw_in kw_36)) (fun _ h9 => h9) rfl dX7_add_26 ?_
    refine lv_iload_n hx hb dX7_add_29 rfl (lv_at hl 2 rfl) ?_
    refine va_iast hx hb hK hP hD hS 2 0 (cA := cI.1) rfl rfl b_2 dX7_add_30 (fun H locs hP hD hS => ?_)
    have hP : va_P D vwCl [(a_t, .inr (7, [.ref a_t_ofSlots, .int f_t_surcharges, .ref a_t_both, .ref a_t_amounts])), (a_t_both, .inl (cI.1, 10, .inl (upd c_t_both (f_t_surcharges).toNatClampNeg x1))), (a_t_amounts, .inl (cI.1, 10, .inl (upd c_t_amounts (f_t_surcharges).toNatClampNeg x2)))] H := hP
    have hD : va_D A [(a_t, .inr (7, [.ref a_t_ofSlots, .int f_t_surcharges, .ref a_t_both, .ref a_t_amounts])), (a_t_both, .inl (cI.1, 10, .inl (upd c_t_both (f_t_surcharges).toNatClampNeg x1))), (a_t_amounts, .inl (cI.1, 10, .inl (upd c_t_amounts (f_t_surcharges).toNatClampNeg x2)))] := hD
    refine lv_aload_n hx hb dX7_add_31 rfl (lv_at hl 0 rfl) ?_
    refine lv_dup hx hb dX7_add_32 rfl ?_
    refine va_get (D := D) (ci := 7) (v := .int f_t_surcharges) (C := RX7) (T := TX7) (N := 4) hx hb hts (fun w h => zw_in (inX7 w h)) hown hK hP 0 rfl rfl 1 (by decide) (hts _ (zw_in kw_36)) (fun _ h9 => h9) rfl dX7_add_33 ?_
    refine lv_iconst (v := 1) hx hb dX7_add_36 (by decide) ?_
    refine lv_iadd hx hb dX7_add_37 ?_
    refine va_put (D := D) (ci := 7) (v := .int (f_t_surcharges + (1 : Int32))) (ty := .int) (C := RX7) (T := TX7) (N := 4) hx hb hts (fun w h => zw_in (inX7 w h)) tyX7 tyX7_ok nmX7 hown hK hP hD hS 0 rfl rfl 1 (by decide) (hts _ (zw_in kw_36)) (fun _ h9 => h9) rfl (by decide +kernel) rfl rfl (Nat.le_of_ble_eq_true rfl) dX7_add_38 (fun H locs hP hD hS => ?_)
    have hP : va_P D vwCl [(a_t, .inr (7, [.ref a_t_ofSlots, .int (f_t_surcharges + (1 : Int32)), .ref a_t_both, .ref a_t_amounts])), (a_t_both, .inl (cI.1, 10, .inl (upd c_t_both (f_t_surcharges).toNatClampNeg x1))), (a_t_amounts, .inl (cI.1, 10, .inl (upd c_t_amounts (f_t_surcharges).toNatClampNeg x2)))] H := hP
    have hD : va_D A [(a_t, .inr (7, [.ref a_t_ofSlots, .int (f_t_surcharges + (1 : Int32)), .ref a_t_both, .ref a_t_amounts])), (a_t_both, .inl (cI.1, 10, .inl (upd c_t_both (f_t_surcharges).toNatClampNeg x1))), (a_t_amounts, .inl (cI.1, 10, .inl (upd c_t_amounts (f_t_surcharges).toNatClampNeg x2)))] := hD
    refine lv_iconst (v := 1) hx hb dX7_add_41 (by decide) ?_
    obtain rfl := Option.some.inj hf
    exact zret_i hx hb hr rfl ⟨rfl, rfl⟩ () hP hD hS [0, 1, 2] rfl (by decide) dX7_add_42 hlocks
  · replace hf := zif hf c_1
    refine lv_iconst (v := 0) hx hb dX7_add_9 (by decide) ?_
    obtain rfl := Option.some.inj hf
    exact zret_i hx hb hr rfl ⟨rfl, rfl⟩ () hP hD hS [0, 1, 2] rfl (by decide) dX7_add_10 hlocks
noncomputable def m_X7_surchargesOf_L4_b (fu : Nat) (x1 : Int32) (f_t_surcharges : Int32) (c_t_both : Nat → Int32) (c_t_amounts : Nat → Int32)  (k4 : Int32 → Int32 → Option (Int32)) (x2 : Int32) (x3 : Int32) : Option (Int32) :=
  if f_t_surcharges ≤ x3 then some x2 else if x3 < 0 ∨ 10 ≤ (x3).toNatClampNeg then none else if x1 &&& (c_t_both (x3).toNatClampNeg) = c_t_both (x3).toNatClampNeg then k4 (x2 + (c_t_amounts (x3).toNatClampNeg)) (x3 + 1) else k4 x2 (x3 + 1)
noncomputable def m_X7_surchargesOf_L4 (fu : Nat) (x1 : Int32) (f_t_surcharges : Int32) (c_t_both : Nat → Int32) (c_t_amounts : Nat → Int32)  (n : Nat) : Int32 → Int32 → Option (Int32) :=
  Nat.rec (motive := fun _ => Int32 → Int32 → Option (Int32)) (fun _ _ => none) (fun _ ih => m_X7_surchargesOf_L4_b fu x1 f_t_surcharges c_t_both c_t_amounts  ih) n
noncomputable def m_X7_surchargesOf (fu : Nat) (f_t_surcharges : Int32) (c_t_both : Nat → Int32) (c_t_amounts : Nat → Int32) (x1 : Int32) : Option (Int32) :=
  m_X7_surchargesOf_L4 fu x1 f_t_surcharges c_t_both c_t_amounts fu (0 : Int32) (0 : Int32)
def rm_X7_surchargesOf : Room := { frames := 0, cells := 0, slots := 0, locals := 0 }
theorem hd_X7_surchargesOf : yX7_surchargesOf.cls ≠ "java/lang/invoke/MethodHandle" ∧ yX7_surchargesOf.cls ≠ "java/lang/invoke/VarHandle" ∧ (parseMethodDescriptor yX7_surchargesOf.desc).map (fun d => d.parameters.length) = some 1 := by decide +kernel
set_option maxHeartbeats 4000000 in
set_option maxRecDepth 100000 in
theorem c_X7_surchargesOf (l : Launch) (D : va_G) (cI : ClassId × ClassId) (sz : Nat) (a_t : Nat) (a_t_ofSlots : Nat) (a_t_both : Nat) (a_t_amounts : Nat) (fu : Nat) (f_t_surcharges : Int32) (c_t_both : Nat → Int32) (c_t_amounts : Nat → Int32) (x1 : Int32) (r : Int32) (hf : m_X7_surchargesOf fu f_t_surcharges c_t_both c_t_amounts x1 = some r) : Met l yX7_surchargesOf (zw (Cond.code yX7_surchargesOf cX7_surchargesOf 4 (some .int))) rm_X7_surchargesOf (va_Pc [.ref a_t, .int x1] (zA D cI [(a_t, .inr (7, [.ref a_t_ofSlots, .int f_t_surcharges, .ref a_t_both, .ref a_t_amounts])), (a_t_both, .inl (cI.1, 10, .inl c_t_both)), (a_t_amounts, .inl (cI.1, 10, .inl c_t_amounts))] sz)) (zQi D (va_A [(a_t, .inr (7, [.ref a_t_ofSlots, .int f_t_surcharges, .ref a_t_both, .ref a_t_amounts])), (a_t_both, .inl (cI.1, 10, .inl c_t_both)), (a_t_amounts, .inl (cI.1, 10, .inl c_t_amounts))] sz) (fun v => v = r) (fun (u : Unit) => ([(a_t, .inr (7, [.ref a_t_ofSlots, .int f_t_surcharges, .ref a_t_both, .ref a_t_amounts])), (a_t_both, .inl (cI.1, 10, .inl c_t_both)), (a_t_amounts, .inl (cI.1, 10, .inl c_t_amounts))] : va_W))) 0 0 (va_A [(a_t, .inr (7, [.ref a_t_ofSlots, .int f_t_surcharges, .ref a_t_both, .ref a_t_amounts])), (a_t_both, .inl (cI.1, 10, .inl c_t_both)), (a_t_amounts, .inl (cI.1, 10, .inl c_t_amounts))] sz) := by
  unfold m_X7_surchargesOf at hf
  refine zhead (C := RX7) (by decide +kernel) rfl ?_
  intro p e s m below meth c hx hb hr hlocks hml hown hnm hts hE hK H hP hS hD hA
  generalize va_A [(a_t, .inr (7, [.ref a_t_ofSlots, .int f_t_surcharges, .ref a_t_both, .ref a_t_amounts])), (a_t_both, .inl (cI.1, 10, .inl c_t_both)), (a_t_amounts, .inl (cI.1, 10, .inl c_t_amounts))] sz = A at hS hD hA ⊢
  have hl := lv_entry ([.ref a_t, .int x1]) (n := 4) (Nat.le_of_ble_eq_true rfl)
  rw [lg_entry_eq]
  generalize (lg_sl ([.ref a_t, .int x1]) ++ List.replicate (4 - (lg_sl ([.ref a_t, .int x1])).length) Slot.unset).toArray = ls at hl ⊢
  have hl : lv_has ls 4 [(0, .ref a_t), (1, .int x1)] := hl

  have w_L4 : ∀ (n : Nat) (x2 : Int32) (x3 : Int32), m_X7_surchargesOf_L4 fu x1 f_t_surcharges c_t_both c_t_amounts n x2 x3 = some r → ∀ (H : Heap) (locs : List Loc), va_P D vwCl [(a_t, .inr (7, [.ref a_t_ofSlots, .int f_t_surcharges, .ref a_t_both, .ref a_t_amounts])), (a_t_both, .inl (cI.1, 10, .inl c_t_both)), (a_t_amounts, .inl (cI.1, 10, .inl c_t_amounts))] H → va_D A [(a_t, .inr (7, [.ref a_t_ofSlots, .int f_t_surcharges, .ref a_t_both, .ref a_t_amounts])), (a_t_both, .inl (cI.1, 10, .inl c_t_both)), (a_t_amounts, .inl (cI.1, 10, .inl c_t_amounts))] → va_S A s.heap H locs → ∀ ls : Array Slot, lv_has ls 4 [(0, .ref a_t), (1, .int x1), (2, .int x2), (3, .int x3)] → W p l e rm_X7_surchargesOf s m ([.ref a_t, .int x1] : List Value).toArray below meth c H locs 0 0 (MQ below (zQi D A (fun v => v = r) (fun (u : Unit) => ([(a_t, .inr (7, [.ref a_t_ofSlots, .int f_t_surcharges, .ref a_t_both, .ref a_t_amounts])), (a_t_both, .inl (cI.1, 10, .inl c_t_both)), (a_t_amounts, .inl (cI.1, 10, .inl c_t_amounts))] : va_W))) ([.ref a_t, .int x1] : List Value).toArray s 0 0 A) (F0 m 4 ls []) := by
    intro n_4
    induction n_4 with
    | zero => intro x2 x3  hf; exact absurd hf (fun h => by cases h)
    | succ n_4 ih_4 =>
      intro x2 x3  hf H locs hP hD hS ls hl
      replace hf : m_X7_surchargesOf_L4_b fu x1 f_t_surcharges c_t_both c_t_amounts  (m_X7_surchargesOf_L4 fu x1 f_t_surcharges c_t_both c_t_amounts n_4) x2 x3 = some r := hf
      unfold m_X7_surchargesOf_L4_b at hf
      refine lv_iload_n hx hb dX7_surchargesOf_4 rfl (lv_at hl 3 rfl) ?_
      refine lv_aload_n hx hb dX7_surchargesOf_5 rfl (lv_at hl 0 rfl) ?_
      refine va_get (D := D) (ci := 7) (v := .int f_t_surcharges) (C := RX7) (T := TX7) (N := 4) hx hb hts (fun w h => zw_in (inX7 w h)) hown hK hP 0 rfl rfl 1 (by decide) (hts _ (zw_in kw_36)) (fun _ h9 => h9) rfl dX7_surchargesOf_6 ?_
      refine lv_icmp_ge (tgt := 44) hx hb dX7_surchargesOf_9 (by decide) (fun c_1 => ?_) (fun c_1 => ?_)
      · replace hf := zit hf c_1
        refine lv_iload_n hx hb dX7_surchargesOf_44 rfl (lv_at hl 2 rfl) ?_
        obtain rfl := Option.some.inj hf
        exact zret_i hx hb hr rfl rfl () hP hD hS [0, 1, 2] rfl (by decide) dX7_surchargesOf_45 hlocks
      · replace hf := zif hf c_1
        refine lv_iload_n hx hb dX7_surchargesOf_12 rfl (lv_at hl 1 rfl) ?_
        refine lv_aload_n hx hb dX7_surchargesOf_13 rfl (lv_at hl 0 rfl) ?_
        refine va_get (D := D) (ci := 7) (v := .ref a_t_both) (C := RX7) (T := TX7) (N := 4) hx hb hts (fun w h => zw_in (inX7 w h)) hown hK hP 0 rfl rfl 2 (by decide) (hts _ (zw_in kw_34)) (fun _ h9 => h9) rfl dX7_surchargesOf_14 ?_
        refine lv_iload_n hx hb dX7_surchargesOf_17 rfl (lv_at hl 3 rfl) ?_
        obtain ⟨b_2, hf⟩ := zib hf
        refine va_iald hx hb hK hP 1 0 (cA := cI.1) rfl rfl b_2 dX7_surchargesOf_18 ?_
        refine lv_iand hx hb dX7_surchargesOf_19 ?_
        refine lv_aload_n hx hb dX7_surchargesOf_20 rfl (lv_at hl 0 rfl) ?_
        refine va_get (D := D) (ci := 7) (v := .ref a_t_both) (C := RX7) (T := TX7) (N := 4) hx hb hts (fun w h => zw_in (inX7 w h)) hown hK hP 0 rfl rfl 2 (by decide) (hts _ (zw_in kw_34)) (fun _ h9 => h9) rfl dX7_surchargesOf_21 ?_
        refine lv_iload_n hx hb dX7_surchargesOf_24 rfl (lv_at hl 3 rfl) ?_
        refine va_iald hx hb hK hP 1 0 (cA := cI.1) rfl rfl b_2 dX7_surchargesOf_25 ?_
        refine lv_icmp_ne (tgt := 38) hx hb dX7_surchargesOf_26 (by decide) (fun c_3 => ?_) (fun c_3 => ?_)
        · replace hf := zif hf c_3
          refine lv_iinc (v := x3 + 1) (lv' := [(3, .int (x3 + 1)), (0, .ref a_t), (1, .int x1), (2, .int x2)]) hx hb dX7_surchargesOf_38 hl (k := 3) rfl rfl (by decide) rfl (fun ls hl => ?_)
          refine lv_goto (tgt := 4) hx hb dX7_surchargesOf_41 (by decide) ?_
          exact ih_4 x2 (x3 + 1)  hf _ _ (hP.sub [0, 1, 2] rfl) (hD.sub [0, 1, 2] (by decide) rfl) hS _ (lv_sub hl [1, 2, 3, 0] rfl)
        · replace hf := zit hf c_3
          refine lv_iload_n hx hb dX7_surchargesOf_29 rfl (lv_at hl 2 rfl) ?_
          refine lv_aload_n hx hb dX7_surchargesOf_30 rfl (lv_at hl 0 rfl) ?_
          refine va_get (D := D) (ci := 7) (v := .ref a_t_amounts) (C := RX7) (T := TX7) (N := 4) hx hb hts (fun w h => zw_in (inX7 w h)) hown hK hP 0 rfl rfl 3 (by decide) (hts _ (zw_in kw_35)) (fun _ h9 => h9) rfl dX7_surchargesOf_31 ?_
          refine lv_iload_n hx hb dX7_surchargesOf_34 rfl (lv_at hl 3 rfl) ?_
          refine va_iald hx hb hK hP 2 0 (cA := cI.1) rfl rfl b_2 dX7_surchargesOf_35 ?_
          refine lv_iadd hx hb dX7_surchargesOf_36 ?_
          refine lv_istore_n (lv' := [(2, .int (x2 + (c_t_amounts (x3).toNatClampNeg))), (0, .ref a_t), (1, .int x1), (3, .int x3)]) hx hb dX7_surchargesOf_37 rfl hl (by decide) rfl (fun ls hl => ?_)
          refine lv_iinc (v := x3 + 1) (lv' := [(3, .int (x3 + 1)), (2, .int (x2 + (c_t_amounts (x3).toNatClampNeg))), (0, .ref a_t), (1, .int x1)]) hx hb dX7_surchargesOf_38 hl (k := 3) rfl rfl (by decide) rfl (fun ls hl => ?_)
          refine lv_goto (tgt := 4) hx hb dX7_surchargesOf_41 (by decide) ?_
          exact ih_4 (x2 + (c_t_amounts (x3).toNatClampNeg)) (x3 + 1)  hf _ _ (hP.sub [0, 1, 2] rfl) (hD.sub [0, 1, 2] (by decide) rfl) hS _ (lv_sub hl [2, 3, 1, 0] rfl)
  refine lv_iconst (v := 0) hx hb dX7_surchargesOf_0 (by decide) ?_
  refine lv_istore_n (lv' := [(2, .int 0), (0, .ref a_t), (1, .int x1)]) hx hb dX7_surchargesOf_1 rfl hl (by decide) rfl (fun ls hl => ?_)
  refine lv_iconst (v := 0) hx hb dX7_surchargesOf_2 (by decide) ?_
  refine lv_istore_n (lv' := [(3, .int 0), (2, .int 0), (0, .ref a_t), (1, .int x1)]) hx hb dX7_surchargesOf_3 rfl hl (by decide) rfl (fun ls hl => ?_)
  exact w_L4 fu (0 : Int32) (0 : Int32)  hf _ _ (hP.sub [0, 1, 2] rfl) (hD.sub [0, 1, 2] (by decide) rfl) hS _ (lv_sub hl [2, 3, 1, 0] rfl)
noncomputable def m_X8_init   : Option (Int32 × Int32 × Int32 × (Nat → Int32) × (Nat → Int32) × (Nat → Int32)) :=
  some ((0 : Int32), (0 : Int32), (0 : Int32), fun _ => 0, fun _ => 0, fun _ => 0)
def rm_X8_init : Room := { frames := 1, cells := 3, slots := 60, locals := 20 }
theorem hd_X8_init : yX8_init.cls ≠ "java/lang/invoke/MethodHandle" ∧ yX8_init.cls ≠ "java/lang/invoke/VarHandle" ∧ (parseMethodDescriptor yX8_init.desc).map (fun d => d.parameters.length) = some 0 := by decide +kernel
set_option maxHeartbeats 4000000 in
set_option maxRecDepth 100000 in
theorem c_X8_init (l : Launch) (D : va_G) (cI : ClassId × ClassId) (sz : Nat) (a_t : Nat)   (r : Int32 × Int32 × Int32 × (Nat → Int32) × (Nat → Int32) × (Nat → Int32)) (hf : m_X8_init   = some r) : Met l yX8_init (zw (Cond.code yX8_init cX8_init 1 none)) rm_X8_init (va_Pc [.ref a_t] (zA D cI [(a_t, .inr (8, [.int 0, .int 0, .null, .null, .null]))] sz)) (zQv D (va_A [(a_t, .inr (8, [.int 0, .int 0, .null, .null, .null]))] sz) (True) (fun (u : Nat × Nat × Nat) => ([(a_t, .inr (8, [.int r.2.1, .int r.2.2.1, .ref u.1, .ref u.2.1, .ref u.2.2])), (u.1, .inl (cI.1, 20, .inl r.2.2.2.1)), (u.2.1, .inl (cI.1, 20, .inl r.2.2.2.2.1)), (u.2.2, .inl (cI.1, 20, .inl r.2.2.2.2.2))] : va_W))) 3 60 (va_A [(a_t, .inr (8, [.int 0, .int 0, .null, .null, .null]))] sz) := by
  unfold m_X8_init at hf
  refine zhead (C := RX8) (by decide +kernel) rfl ?_
  intro p e s m below meth c hx hb hr hlocks hml hown hnm hts hE hK H hP hS hD hA
  generalize va_A [(a_t, .inr (8, [.int 0, .int 0, .null, .null, .null]))] sz = A at hS hD hA ⊢
  have hl := lv_entry ([.ref a_t]) (n := 1) (Nat.le_of_ble_eq_true rfl)
  rw [lg_entry_eq]
  generalize (lg_sl ([.ref a_t]) ++ List.replicate (1 - (lg_sl ([.ref a_t])).length) Slot.unset).toArray = ls at hl ⊢
  have hl : lv_has ls 1 [(0, .ref a_t)] := hl

  refine lv_aload_n hx hb dX8_init_0 rfl (lv_at hl 0 rfl) ?_
  refine W.objInit hx hb hown (hts _ (zw_in kw_37)) (hts _ (zw_in kw_11)) (hts _ (zw_in kw_12)) rfl (by rw [hml]; exact hl.1) rfl dX8_init_1 (Nat.le_of_ble_eq_true rfl) (Nat.le_of_ble_eq_true rfl) ?_
  refine W.eq (g2 := F0 m 4 ls []) rfl ?_
  refine lv_aload_n hx hb dX8_init_4 rfl (lv_at hl 0 rfl) ?_
  refine lv_bipush (v := 20) hx hb dX8_init_5 (by decide) ?_
  refine va_newa (atype := .int) (ty := .int) (N' := 20) (a0 := (20, .inl (fun _ => 0))) hx hb (hts _ (zw_in kw_13)) rfl hK hP hD hS hA (fun _ => rfl) (by decide) (by decide) (Nat.le_of_ble_eq_true rfl) (Nat.le_of_ble_eq_true rfl) (Nat.le_of_ble_eq_true rfl) dX8_init_7 (fun q7 cA H hK9 hP hD hS => ?_)
  obtain rfl := zKeq hK9
  have hP : va_P D vwCl [(a_t, .inr (8, [.int 0, .int 0, .null, .null, .null])), (q7, .inl (cI.1, 20, .inl (fun _ => 0)))] H := hP
  have hD : va_D A [(a_t, .inr (8, [.int 0, .int 0, .null, .null, .null])), (q7, .inl (cI.1, 20, .inl (fun _ => 0)))] := hD
  refine W.widen (k := 1) (n := 20) (Nat.le_of_ble_eq_true rfl) (Nat.le_of_ble_eq_true rfl) ?_
  refine va_putF (D := D) (ci := 8) (v := .ref q7) (ty := (.array .int)) (C := RX8) (T := TX8) (N := 5) hx hb hts (fun w h => zw_in (inX8 w h)) tyX8 tyX8_ok nmX8 hown hK hP hD hS 0 rfl rfl 2 (by decide) (hts _ (zw_in kw_38)) (fun _ h9 => h9) rfl hnm rfl (by decide +kernel) rfl rfl (Nat.le_of_ble_eq_true rfl) dX8_init_9 (fun H locs hP hD hS => ?_)
  have hP : va_P D vwCl [(a_t, .inr (8, [.int 0, .int 0, .ref q7, .null, .null])), (q7, .inl (cI.1, 20, .inl (fun _ => 0)))] H := hP
  have hD : va_D A [(a_t, .inr (8, [.int 0, .int 0, .ref q7, .null, .null])), (q7, .inl (cI.1, 20, .inl (fun _ => 0)))] := hD
  refine lv_aload_n hx hb dX8_init_12 rfl (lv_at hl 0 rfl) ?_
  refine lv_bipush (v := 20) hx hb dX8_init_13 (by decide) ?_
  refine va_newa (atype := .int) (ty := .int) (N' := 20) (a0 := (20, .inl (fun _ => 0))) hx hb (hts _ (zw_in kw_13)) rfl hK hP hD hS hA (fun _ => rfl) (by decide) (by decide) (Nat.le_of_ble_eq_true rfl) (Nat.le_of_ble_eq_true rfl) (Nat.le_of_ble_eq_true rfl) dX8_init_15 (fun q15 cA H hK9 hP hD hS => ?_)
  obtain rfl := zKeq hK9
  have hP : va_P D vwCl [(a_t, .inr (8, [.int 0, .int 0, .ref q7, .null, .null])), (q7, .inl (cI.1, 20, .inl (fun _ => 0))), (q15, .inl (cI.1, 20, .inl (fun _ => 0)))] H := hP
  have hD : va_D A [(a_t, .inr (8, [.int 0, .int 0, .ref q7, .null, .null])), (q7, .inl (cI.1, 20, .inl (fun _ => 0))), (q15, .inl (cI.1, 20, .inl (fun _ => 0)))] := hD
  refine W.widen (k := 2) (n := 40) (Nat.le_of_ble_eq_true rfl) (Nat.le_of_ble_eq_true rfl) ?_
  refine va_putF (D := D) (ci := 8) (v := .ref q15) (ty := (.array .int)) (C := RX8) (T := TX8) (N := 5) hx hb hts (fun w h => zw_in (inX8 w h)) tyX8 tyX8_ok nmX8 hown hK hP hD hS 0 rfl rfl 3 (by decide) (hts _ (zw_in kw_39)) (fun _ h9 => h9) rfl hnm rfl (by decide +kernel) rfl rfl (Nat.le_of_ble_eq_true rfl) dX8_init_17 (fun H locs hP hD hS => ?_)
  have hP : va_P D vwCl [(a_t, .inr (8, [.int 0, .int 0, .ref q7, .ref q15, .null])), (q7, .inl (cI.1, 20, .inl (fun _ => 0))), (q15, .inl (cI.1, 20, .inl (fun _ => 0)))] H := hP
  have hD : va_D A [(a_t, .inr (8, [.int 0, .int 0, .ref q7, .ref q15, .null])), (q7, .inl (cI.1, 20, .inl (fun _ => 0))), (q15, .inl (cI.1, 20, .inl (fun _ => 0)))] := hD
  refine lv_aload_n hx hb dX8_init_20 rfl (lv_at hl 0 rfl) ?_
  refine lv_bipush (v := 20) hx hb dX8_init_21 (by decide) ?_
  refine va_newa (atype := .int) (ty := .int) (N' := 20) (a0 := (20, .inl (fun _ => 0))) hx hb (hts _ (zw_in kw_13)) rfl hK hP hD hS hA (fun _ => rfl) (by decide) (by decide) (Nat.le_of_ble_eq_true rfl) (Nat.le_of_ble_eq_true rfl) (Nat.le_of_ble_eq_true rfl) dX8_init_23 (fun q23 cA H hK9 hP hD hS => ?_)
  obtain rfl := zKeq hK9
  have hP : va_P D vwCl [(a_t, .inr (8, [.int 0, .int 0, .ref q7, .ref q15, .null])), (q7, .inl (cI.1, 20, .inl (fun _ => 0))), (q15, .inl (cI.1, 20, .inl (fun _ => 0))), (q23, .inl (cI.1, 20, .inl (fun _ => 0)))] H := hP
  have hD : va_D A [(a_t, .inr (8, [.int 0, .int 0, .ref q7, .ref q15, .null])), (q7, .inl (cI.1, 20, .inl (fun _ => 0))), (q15, .inl (cI.1, 20, .inl (fun _ => 0))), (q23, .inl (cI.1, 20, .inl (fun _ => 0)))] := hD
  refine W.widen (k := 3) (n := 60) (Nat.le_of_ble_eq_true rfl) (Nat.le_of_ble_eq_true rfl) ?_
  refine va_putF (D := D) (ci := 8) (v := .ref q23) (ty := (.array .int)) (C := RX8) (T := TX8) (N := 5) hx hb hts (fun w h => zw_in (inX8 w h)) tyX8 tyX8_ok nmX8 hown hK hP hD hS 0 rfl rfl 4 (by decide) (hts _ (zw_in kw_40)) (fun _ h9 => h9) rfl hnm rfl (by decide +kernel) rfl rfl (Nat.le_of_ble_eq_true rfl) dX8_init_25 (fun H locs hP hD hS => ?_)
  have hP : va_P D vwCl [(a_t, .inr (8, [.int 0, .int 0, .ref q7, .ref q15, .ref q23])), (q7, .inl (cI.1, 20, .inl (fun _ => 0))), (q15, .inl (cI.1, 20, .inl (fun _ => 0))), (q23, .inl (cI.1, 20, .inl (fun _ => 0)))] H := hP
  have hD : va_D A [(a_t, .inr (8, [.int 0, .int 0, .ref q7, .ref q15, .ref q23])), (q7, .inl (cI.1, 20, .inl (fun _ => 0))), (q15, .inl (cI.1, 20, .inl (fun _ => 0))), (q23, .inl (cI.1, 20, .inl (fun _ => 0)))] := hD
  obtain rfl := Option.some.inj hf
  exact zret_v hx hb hr trivial (q7, q15, q23) hP hD hS [0, 1, 2, 3] rfl (by decide) dX8_init_28 hlocks
noncomputable def m_X8_add (f_t_size : Int32) (f_t_on : Int32) (c_t_kinds : Nat → Int32) (c_t_slots : Nat → Int32) (c_t_others : Nat → Int32) (x1 : Int32) (x2 : Int32) (x3 : Int32) : Option (Int32 × Int32 × Int32 × (Nat → Int32) × (Nat → Int32) × (Nat → Int32)) :=
  if f_t_size < (20 : Int32) then if f_t_size < 0 ∨ 20 ≤ (f_t_size).toNatClampNeg then none else some ((1 : Int32), f_t_size + (1 : Int32), f_t_on ||| ((1 : Int32) <<< (f_t_size &&& 31)), upd c_t_kinds (f_t_size).toNatClampNeg x1, upd c_t_slots (f_t_size).toNatClampNeg x2, upd c_t_others (f_t_size).toNatClampNeg x3) else some ((0 : Int32), f_t_size, f_t_on, c_t_kinds, c_t_slots, c_t_others)
def rm_X8_add : Room := { frames := 0, cells := 0, slots := 0, locals := 0 }
theorem hd_X8_add : yX8_add.cls ≠ "java/lang/invoke/MethodHandle" ∧ yX8_add.cls ≠ "java/lang/invoke/VarHandle" ∧ (parseMethodDescriptor yX8_add.desc).map (fun d => d.parameters.length) = some 3 := by decide +kernel
set_option maxHeartbeats 4000000 in
set_option maxRecDepth 100000 in
theorem c_X8_add (l : Launch) (D : va_G) (cI : ClassId × ClassId) (sz : Nat) (a_t : Nat) (a_t_kinds : Nat) (a_t_slots : Nat) (a_t_others : Nat) (f_t_size : Int32) (f_t_on : Int32) (c_t_kinds : Nat → Int32) (c_t_slots : Nat → Int32) (c_t_others : Nat → Int32) (x1 : Int32) (x2 : Int32) (x3 : Int32) (r : Int32 × Int32 × Int32 × (Nat → Int32) × (Nat → Int32) × (Nat → Int32)) (hf : m_X8_add f_t_size f_t_on c_t_kinds c_t_slots c_t_others x1 x2 x3 = some r) : Met l yX8_add (zw (Cond.code yX8_add cX8_add 4 (some .boolean))) rm_X8_add (va_Pc [.ref a_t, .int x1, .int x2, .int x3] (zA D cI [(a_t, .inr (8, [.int f_t_size, .int f_t_on, .ref a_t_kinds, .ref a_t_slots, .ref a_t_others])), (a_t_kinds, .inl (cI.1, 20, .inl c_t_kinds)), (a_t_slots, .inl (cI.1, 20, .inl c_t_slots)), (a_t_others, .inl (cI.1, 20, .inl c_t_others))] sz)) (zQi D (va_A [(a_t, .inr (8, [.int f_t_size, .int f_t_on, .ref a_t_kinds, .ref a_t_slots, .ref a_t_others])), (a_t_kinds, .inl (cI.1, 20, .inl c_t_kinds)), (a_t_slots, .inl (cI.1, 20, .inl c_t_slots)), (a_t_others, .inl (cI.1, 20, .inl c_t_others))] sz) (fun v => v = r.1 ∧ narrow .boolean (.int v) = .int v) (fun (u : Unit) => ([(a_t, .inr (8, [.int r.2.1, .int r.2.2.1, .ref a_t_kinds, .ref a_t_slots, .ref a_t_others])), (a_t_kinds, .inl (cI.1, 20, .inl r.2.2.2.1)), (a_t_slots, .inl (cI.1, 20, .inl r.2.2.2.2.1)), (a_t_others, .inl (cI.1, 20, .inl r.2.2.2.2.2))] : va_W))) 0 0 (va_A [(a_t, .inr (8, [.int f_t_size, .int f_t_on, .ref a_t_kinds, .ref a_t_slots, .ref a_t_others])), (a_t_kinds, .inl (cI.1, 20, .inl c_t_kinds)), (a_t_slots, .inl (cI.1, 20, .inl c_t_slots)), (a_t_others, .inl (cI.1, 20, .inl c_t_others))] sz) := by
  unfold m_X8_add at hf
  refine zhead (C := RX8) (by decide +kernel) rfl ?_
  intro p e s m below meth c hx hb hr hlocks hml hown hnm hts hE hK H hP hS hD hA
  generalize va_A [(a_t, .inr (8, [.int f_t_size, .int f_t_on, .ref a_t_kinds, .ref a_t_slots, .ref a_t_others])), (a_t_kinds, .inl (cI.1, 20, .inl c_t_kinds)), (a_t_slots, .inl (cI.1, 20, .inl c_t_slots)), (a_t_others, .inl (cI.1, 20, .inl c_t_others))] sz = A at hS hD hA ⊢
  have hl := lv_entry ([.ref a_t, .int x1, .int x2, .int x3]) (n := 4) (Nat.le_of_ble_eq_true rfl)
  rw [lg_entry_eq]
  generalize (lg_sl ([.ref a_t, .int x1, .int x2, .int x3]) ++ List.replicate (4 - (lg_sl ([.ref a_t, .int x1, .int x2, .int x3])).length) Slot.unset).toArray = ls at hl ⊢
  have hl : lv_has ls 4 [(0, .ref a_t), (1, .int x1), (2, .int x2), (3, .int x3)] := hl

  refine lv_aload_n hx hb dX8_add_0 rfl (lv_at hl 0 rfl) ?_
  refine va_get (D := D) (ci := 8) (v := .int f_t_size) (C := RX8) (T := TX8) (N := 5) hx hb hts (fun w h => zw_in (inX8 w h)) hown hK hP 0 rfl rfl 0 (by decide) (hts _ (zw_in kw_41)) (fun _ h9 => h9) rfl dX8_add_1 ?_
  refine lv_bipush (v := 20) hx hb dX8_add_4 (by decide) ?_
  refine lv_icmp_lt (tgt := 11) hx hb dX8_add_6 (by decide) (fun c_1 => ?_) (fun c_1 => ?_)
  · replace hf := zit hf c_1
    refine lv_aload_n hx hb dX8_add_11 rfl (lv_at hl 0 rfl) ?_
    refine va_get (D := D) (ci := 8) (v := .ref a_t_kinds) (C := RX8) (T := TX8) (N := 5) hx hb hts (fun w h => zw_in (inX8 w h)) hown hK hP 0 rfl rfl 2 (by decide) (hts _ (zw_in kw_38)) (fun _ h9 => h9) rfl dX8_add_12 ?_
    refine lv_aload_n hx hb dX8_add_15 rfl (lv_at hl 0 rfl) ?_
    refine va_get (D := D) (ci := 8) (v := .int f_t_size) (C := RX8) (T := TX8) (N := 5) hx hb hts (fun w h => zw_in (inX8 w h)) hown hK hP 0 rfl rfl 0 (by decide) (hts _ (zw_in kw_41)) (fun _ h9 => h9) rfl dX8_add_16 ?_
    refine lv_iload_n hx hb dX8_add_19 rfl (lv_at hl 1 rfl) ?_
    obtain ⟨b_2, hf⟩ := zib hf
    refine va_iast hx hb hK hP hD hS 1 0 (cA := cI.1) rfl rfl b_2 dX8_add_20 (fun H locs hP hD hS => ?_)
    have hP : va_P D vwCl [(a_t, .inr (8, [.int f_t_size, .int f_t_on, .ref a_t_kinds, .ref a_t_slots, .ref a_t_others])), (a_t_kinds, .inl (cI.1, 20, .inl (upd c_t_kinds (f_t_size).toNatClampNeg x1))), (a_t_slots, .inl (cI.1, 20, .inl c_t_slots)), (a_t_others, .inl (cI.1, 20, .inl c_t_others))] H := hP
    have hD : va_D A [(a_t, .inr (8, [.int f_t_size, .int f_t_on, .ref a_t_kinds, .ref a_t_slots, .ref a_t_others])), (a_t_kinds, .inl (cI.1, 20, .inl (upd c_t_kinds (f_t_size).toNatClampNeg x1))), (a_t_slots, .inl (cI.1, 20, .inl c_t_slots)), (a_t_others, .inl (cI.1, 20, .inl c_t_others))] := hD
    refine lv_aload_n hx hb dX8_add_21 rfl (lv_at hl 0 rfl) ?_
    refine va_get (D := D) (ci := 8) (v := .ref a_t_slots) (C := RX8) (T := TX8) (N := 5) hx hb hts (fun w h => zw_in (inX8 w h)) hown hK hP 0 rfl rfl 3 (by decide) (hts _ (zw_in kw_39)) (fun _ h9 => h9) rfl dX8_add_22 ?_
    refine lv_aload_n hx hb dX8_add_25 rfl (lv_at hl 0 rfl) ?_
    refine va_get (D := D) (ci := 8) (v := .int f_t_size) (C := RX8) (T := TX8) (N := 5) hx hb hts (fun w h => zw_in (inX8 w h)) hown hK hP 0 rfl rfl 0 (by decide) (hts _ (zw_in kw_41)) (fun _ h9 => h9) rfl dX8_add_26 ?_
    refine lv_iload_n hx hb dX8_add_29 rfl (lv_at hl 2 rfl) ?_
    refine va_iast hx hb hK hP hD hS 2 0 (cA := cI.1) rfl rfl b_2 dX8_add_30 (fun H locs hP hD hS => ?_)
    have hP : va_P D vwCl [(a_t, .inr (8, [.int f_t_size, .int f_t_on, .ref a_t_kinds, .ref a_t_slots, .ref a_t_others])), (a_t_kinds, .inl (cI.1, 20, .inl (upd c_t_kinds (f_t_size).toNatClampNeg x1))), (a_t_slots, .inl (cI.1, 20, .inl (upd c_t_slots (f_t_size).toNatClampNeg x2))), (a_t_others, .inl (cI.1, 20, .inl c_t_others))] H := hP
    have hD : va_D A [(a_t, .inr (8, [.int f_t_size, .int f_t_on, .ref a_t_kinds, .ref a_t_slots, .ref a_t_others])), (a_t_kinds, .inl (cI.1, 20, .inl (upd c_t_kinds (f_t_size).toNatClampNeg x1))), (a_t_slots, .inl (cI.1, 20, .inl (upd c_t_slots (f_t_size).toNatClampNeg x2))), (a_t_others, .inl (cI.1, 20, .inl c_t_others))] := hD
    refine lv_aload_n hx hb dX8_add_31 rfl (lv_at hl 0 rfl) ?_
    refine va_get (D := D) (ci := 8) (v := .ref a_t_others) (C := RX8) (T := TX8) (N := 5) hx hb hts (fun w h => zw_in (inX8 w h)) hown hK hP 0 rfl rfl 4 (by decide) (hts _ (zw_in kw_40)) (fun _ h9 => h9) rfl dX8_add_32 ?_
    refine lv_aload_n hx hb dX8_add_35 rfl (lv_at hl 0 rfl) ?_
    refine va_get (D := D) (ci := 8) (v := .int f_t_size) (C := RX8) (T := TX8) (N := 5) hx hb hts (fun w h => zw_in (inX8 w h)) hown hK hP 0 rfl rfl 0 (by decide) (hts _ (zw_in kw_41)) (fun _ h9 => h9) rfl dX8_add_36 ?_
    refine lv_iload_n hx hb dX8_add_39 rfl (lv_at hl 3 rfl) ?_
    refine va_iast hx hb hK hP hD hS 3 0 (cA := cI.1) rfl rfl b_2 dX8_add_40 (fun H locs hP hD hS => ?_)
    have hP : va_P D vwCl [(a_t, .inr (8, [.int f_t_size, .int f_t_on, .ref a_t_kinds, .ref a_t_slots, .ref a_t_others])), (a_t_kinds, .inl (cI.1, 20, .inl (upd c_t_kinds (f_t_size).toNatClampNeg x1))), (a_t_slots, .inl (cI.1, 20, .inl (upd c_t_slots (f_t_size).toNatClampNeg x2))), (a_t_others, .inl (cI.1, 20, .inl (upd c_t_others (f_t_size).toNatClampNeg x3)))] H := hP
    have hD : va_D A [(a_t, .inr (8, [.int f_t_size, .int f_t_on, .ref a_t_kinds, .ref a_t_slots, .ref a_t_others])), (a_t_kinds, .inl (cI.1, 20, .inl (upd c_t_kinds (f_t_size).toNatClampNeg x1))), (a_t_slots, .inl (cI.1, 20, .inl (upd c_t_slots (f_t_size).toNatClampNeg x2))), (a_t_others, .inl (cI.1, 20, .inl (upd c_t_others (f_t_size).toNatClampNeg x3)))] := hD
    refine lv_aload_n hx hb dX8_add_41 rfl (lv_at hl 0 rfl) ?_
    refine lv_dup hx hb dX8_add_42 rfl ?_
    refine va_get (D := D) (ci := 8) (v := .int f_t_on) (C := RX8) (T := TX8) (N := 5) hx hb hts (fun w h => zw_in (inX8 w h)) hown hK hP 0 rfl rfl 1 (by decide) (hts _ (zw_in kw_42)) (fun _ h9 => h9) rfl dX8_add_43 ?_
    refine lv_iconst (v := 1) hx hb dX8_add_46 (by decide) ?_
    refine lv_aload_n hx hb dX8_add_47 rfl (lv_at hl 0 rfl) ?_
    refine va_get (D := D) (ci := 8) (v := .int f_t_size) (C := RX8) (T := TX8) (N := 5) hx hb hts (fun w h => zw_in (inX8 w h)) hown hK hP 0 rfl rfl 0 (by decide) (hts _ (zw_in kw_41)) (fun _ h9 => h9) rfl dX8_add_48 ?_
    refine lv_ishl hx hb dX8_add_51 ?_
    refine lv_ior hx hb dX8_add_52 ?_
    refine va_put (D := D) (ci := 8) (v := .int (f_t_on ||| ((1 : Int32) <<< (f_t_size &&& 31)))) (ty := .int) (C := RX8) (T := TX8) (N := 5) hx hb hts (fun w h => zw_in (inX8 w h)) tyX8 tyX8_ok nmX8 hown hK hP hD hS 0 rfl rfl 1 (by decide) (hts _ (zw_in kw_42)) (fun _ h9 => h9) rfl (by decide +kernel) rfl rfl (Nat.le_of_ble_eq_true rfl) dX8_add_53 (fun H locs hP hD hS => ?_)
    have hP : va_P D vwCl [(a_t, .inr (8, [.int f_t_size, .int (f_t_on ||| ((1 : Int32) <<< (f_t_size &&& 31))), .ref a_t_kinds, .ref a_t_slots, .ref a_t_others])), (a_t_kinds, .inl (cI.1, 20, .inl (upd c_t_kinds (f_t_size).toNatClampNeg x1))), (a_t_slots, .inl (cI.1, 20, .inl (upd c_t_slots (f_t_size).toNatClampNeg x2))), (a_t_others, .inl (cI.1, 20, .inl (upd c_t_others (f_t_size).toNatClampNeg x3)))] H := hP
    have hD : va_D A [(a_t, .inr (8, [.int f_t_size, .int (f_t_on ||| ((1 : Int32) <<< (f_t_size &&& 31))), .ref a_t_kinds, .ref a_t_slots, .ref a_t_others])), (a_t_kinds, .inl (cI.1, 20, .inl (upd c_t_kinds (f_t_size).toNatClampNeg x1))), (a_t_slots, .inl (cI.1, 20, .inl (upd c_t_slots (f_t_size).toNatClampNeg x2))), (a_t_others, .inl (cI.1, 20, .inl (upd c_t_others (f_t_size).toNatClampNeg x3)))] := hD
    refine lv_aload_n hx hb dX8_add_56 rfl (lv_at hl 0 rfl) ?_
    refine lv_dup hx hb dX8_add_57 rfl ?_
    refine va_get (D := D) (ci := 8) (v := .int f_t_size) (C := RX8) (T := TX8) (N := 5) hx hb hts (fun w h => zw_in (inX8 w h)) hown hK hP 0 rfl rfl 0 (by decide) (hts _ (zw_in kw_41)) (fun _ h9 => h9) rfl dX8_add_58 ?_
    refine lv_iconst (v := 1) hx hb dX8_add_61 (by decide) ?_
    refine lv_iadd hx hb dX8_add_62 ?_
    refine va_put (D := D) (ci := 8) (v := .int (f_t_size + (1 : Int32))) (ty := .int) (C := RX8) (T := TX8) (N := 5) hx hb hts (fun w h => zw_in (inX8 w h)) tyX8 tyX8_ok nmX8 hown hK hP hD hS 0 rfl rfl 0 (by decide) (hts _ (zw_in kw_41)) (fun _ h9 => h9) rfl (by decide +kernel) rfl rfl (Nat.le_of_ble_eq_true rfl) dX8_add_63 (fun H locs hP hD hS => ?_)
    have hP : va_P D vwCl [(a_t, .inr (8, [.int (f_t_size + (1 : Int32)), .int (f_t_on ||| ((1 : Int32) <<< (f_t_size &&& 31))), .ref a_t_kinds, .ref a_t_slots, .ref a_t_others])), (a_t_kinds, .inl (cI.1, 20, .inl (upd c_t_kinds (f_t_size).toNatClampNeg x1))), (a_t_slots, .inl (cI.1, 20, .inl (upd c_t_slots (f_t_size).toNatClampNeg x2))), (a_t_others, .inl (cI.1, 20, .inl (upd c_t_others (f_t_size).toNatClampNeg x3)))] H := hP
    have hD : va_D A [(a_t, .inr (8, [.int (f_t_size + (1 : Int32)), .int (f_t_on ||| ((1 : Int32) <<< (f_t_size &&& 31))), .ref a_t_kinds, .ref a_t_slots, .ref a_t_others])), (a_t_kinds, .inl (cI.1, 20, .inl (upd c_t_kinds (f_t_size).toNatClampNeg x1))), (a_t_slots, .inl (cI.1, 20, .inl (upd c_t_slots (f_t_size).toNatClampNeg x2))), (a_t_others, .inl (cI.1, 20, .inl (upd c_t_others (f_t_size).toNatClampNeg x3)))] := hD
    refine lv_iconst (v := 1) hx hb dX8_add_66 (by decide) ?_
    obtain rfl := Option.some.inj hf
    exact zret_i hx hb hr rfl ⟨rfl, rfl⟩ () hP hD hS [0, 1, 2, 3] rfl (by decide) dX8_add_67 hlocks
  · replace hf := zif hf c_1
    refine lv_iconst (v := 0) hx hb dX8_add_9 (by decide) ?_
    obtain rfl := Option.some.inj hf
    exact zret_i hx hb hr rfl ⟨rfl, rfl⟩ () hP hD hS [0, 1, 2, 3] rfl (by decide) dX8_add_10 hlocks
noncomputable def m_X8_isKept  (x0 : Int32) (x1 : Int32) (x2 : Int32) : Option (Int32) :=
  if x0 = 0 then if x1 = (0 : Int32) then some (1 : Int32) else if x2 = (0 : Int32) then some (1 : Int32) else some (0 : Int32) else if x0 = 1 then if x1 = (0 : Int32) then some (1 : Int32) else if x2 = (0 : Int32) then some (0 : Int32) else some (1 : Int32) else if x1 = x2 then some (1 : Int32) else some (0 : Int32)
def rm_X8_isKept : Room := { frames := 0, cells := 0, slots := 0, locals := 0 }
theorem hd_X8_isKept : yX8_isKept.cls ≠ "java/lang/invoke/MethodHandle" ∧ yX8_isKept.cls ≠ "java/lang/invoke/VarHandle" ∧ (parseMethodDescriptor yX8_isKept.desc).map (fun d => d.parameters.length) = some 3 := by decide +kernel
set_option maxHeartbeats 4000000 in
set_option maxRecDepth 100000 in
theorem c_X8_isKept (l : Launch) (D : va_G) (cI : ClassId × ClassId) (sz : Nat)   (x0 : Int32) (x1 : Int32) (x2 : Int32) (r : Int32) (hf : m_X8_isKept  x0 x1 x2 = some r) (hb_x1 : narrow .boolean (.int x1) = .int x1) (hb_x2 : narrow .boolean (.int x2) = .int x2) : Met l yX8_isKept (zw (Cond.code yX8_isKept cX8_isKept 3 (some .boolean))) rm_X8_isKept (va_Pc [.int x0, .int x1, .int x2] (zA D cI [] sz)) (zQi D (va_A [] sz) (fun v => v = r ∧ narrow .boolean (.int v) = .int v) (fun (u : Unit) => ([] : va_W))) 0 0 (va_A [] sz) := by
  unfold m_X8_isKept at hf
  refine zhead (C := RX8) (by decide +kernel) rfl ?_
  intro p e s m below meth c hx hb hr hlocks hml hown hnm hts hE hK H hP hS hD hA
  generalize va_A [] sz = A at hS hD hA ⊢
  have hl := lv_entry ([.int x0, .int x1, .int x2]) (n := 3) (Nat.le_of_ble_eq_true rfl)
  rw [lg_entry_eq]
  generalize (lg_sl ([.int x0, .int x1, .int x2]) ++ List.replicate (3 - (lg_sl ([.int x0, .int x1, .int x2])).length) Slot.unset).toArray = ls at hl ⊢
  have hl : lv_has ls 3 [(0, .int x0), (1, .int x1), (2, .int x2)] := hl

  refine lv_iload_n hx hb dX8_isKept_0 rfl (lv_at hl 0 rfl) ?_
  by_cases c_1_0 : x0 = 0
  · replace hf := zit hf c_1_0
    refine lv_lookup (tgt := 28) hx hb dX8_isKept_1 (by decide) (by rw [c_1_0]) (by decide) ?_
    refine lv_iload_n hx hb dX8_isKept_28 rfl (lv_at hl 1 rfl) ?_
    refine lv_if_eq (tgt := 36) hx hb dX8_isKept_29 (by decide) (fun c_2 => ?_) (fun c_2 => ?_)
    · replace hf := zit hf c_2
      refine lv_iconst (v := 1) hx hb dX8_isKept_36 (by decide) ?_
      refine lv_goto (tgt := 41) hx hb dX8_isKept_37 (by decide) ?_
      obtain rfl := Option.some.inj hf
      exact zret_i hx hb hr rfl ⟨rfl, rfl⟩ () hP hD hS [] rfl (by decide) dX8_isKept_41 hlocks
    · replace hf := zif hf c_2
      refine lv_iload_n hx hb dX8_isKept_32 rfl (lv_at hl 2 rfl) ?_
      refine lv_if_ne (tgt := 40) hx hb dX8_isKept_33 (by decide) (fun c_3 => ?_) (fun c_3 => ?_)
      · replace hf := zif hf c_3
        refine lv_iconst (v := 0) hx hb dX8_isKept_40 (by decide) ?_
        obtain rfl := Option.some.inj hf
        exact zret_i hx hb hr rfl ⟨rfl, rfl⟩ () hP hD hS [] rfl (by decide) dX8_isKept_41 hlocks
      · replace hf := zit hf c_3
        refine lv_iconst (v := 1) hx hb dX8_isKept_36 (by decide) ?_
        refine lv_goto (tgt := 41) hx hb dX8_isKept_37 (by decide) ?_
        obtain rfl := Option.some.inj hf
        exact zret_i hx hb hr rfl ⟨rfl, rfl⟩ () hP hD hS [] rfl (by decide) dX8_isKept_41 hlocks
  · replace hf := zif hf c_1_0
    by_cases c_1_1 : x0 = 1
    · replace hf := zit hf c_1_1
      refine lv_lookup (tgt := 42) hx hb dX8_isKept_1 (by decide) (by rw [c_1_1]) (by decide) ?_
      refine lv_iload_n hx hb dX8_isKept_42 rfl (lv_at hl 1 rfl) ?_
      refine lv_if_eq (tgt := 50) hx hb dX8_isKept_43 (by decide) (fun c_4 => ?_) (fun c_4 => ?_)
      · replace hf := zit hf c_4
        refine lv_iconst (v := 1) hx hb dX8_isKept_50 (by decide) ?_
        refine lv_goto (tgt := 55) hx hb dX8_isKept_51 (by decide) ?_
        obtain rfl := Option.some.inj hf
        exact zret_i hx hb hr rfl ⟨rfl, rfl⟩ () hP hD hS [] rfl (by decide) dX8_isKept_55 hlocks
      · replace hf := zif hf c_4
        refine lv_iload_n hx hb dX8_isKept_46 rfl (lv_at hl 2 rfl) ?_
        refine lv_if_eq (tgt := 54) hx hb dX8_isKept_47 (by decide) (fun c_5 => ?_) (fun c_5 => ?_)
        · replace hf := zit hf c_5
          refine lv_iconst (v := 0) hx hb dX8_isKept_54 (by decide) ?_
          obtain rfl := Option.some.inj hf
          exact zret_i hx hb hr rfl ⟨rfl, rfl⟩ () hP hD hS [] rfl (by decide) dX8_isKept_55 hlocks
        · replace hf := zif hf c_5
          refine lv_iconst (v := 1) hx hb dX8_isKept_50 (by decide) ?_
          refine lv_goto (tgt := 55) hx hb dX8_isKept_51 (by decide) ?_
          obtain rfl := Option.some.inj hf
          exact zret_i hx hb hr rfl ⟨rfl, rfl⟩ () hP hD hS [] rfl (by decide) dX8_isKept_55 hlocks
    · replace hf := zif hf c_1_1
      refine lv_lookup (tgt := 56) hx hb dX8_isKept_1 (by decide) (zlook2 c_1_0 c_1_1) (by decide) ?_
      refine lv_iload_n hx hb dX8_isKept_56 rfl (lv_at hl 1 rfl) ?_
      refine lv_iload_n hx hb dX8_isKept_57 rfl (lv_at hl 2 rfl) ?_
      refine lv_icmp_ne (tgt := 65) hx hb dX8_isKept_58 (by decide) (fun c_6 => ?_) (fun c_6 => ?_)
      · replace hf := zif hf c_6
        refine lv_iconst (v := 0) hx hb dX8_isKept_65 (by decide) ?_
        obtain rfl := Option.some.inj hf
        exact zret_i hx hb hr rfl ⟨rfl, rfl⟩ () hP hD hS [] rfl (by decide) dX8_isKept_66 hlocks
      · replace hf := zit hf c_6
        refine lv_iconst (v := 1) hx hb dX8_isKept_61 (by decide) ?_
        refine lv_goto (tgt := 66) hx hb dX8_isKept_62 (by decide) ?_
        obtain rfl := Option.some.inj hf
        exact zret_i hx hb hr rfl ⟨rfl, rfl⟩ () hP hD hS [] rfl (by decide) dX8_isKept_66 hlocks
noncomputable def m_X8_areKeptBy_L2_b (fu : Nat) (x1 : Int32) (f_t_size : Int32) (f_t_on : Int32) (c_t_kinds : Nat → Int32) (c_t_slots : Nat → Int32) (c_t_others : Nat → Int32)  (k2 : Int32 → Option (Int32)) (x2 : Int32) : Option (Int32) :=
  if f_t_size ≤ x2 then some (1 : Int32) else (m_X9_holds f_t_on x2).bind fun u_2 => if u_2 = (0 : Int32) then k2 (x2 + 1) else if x2 < 0 ∨ 20 ≤ (x2).toNatClampNeg then none else (m_X9_holds x1 (c_t_slots (x2).toNatClampNeg)).bind fun u_5 => (m_X9_holds x1 (c_t_others (x2).toNatClampNeg)).bind fun u_6 => (m_X8_isKept (c_t_kinds (x2).toNatClampNeg) u_5 u_6).bind fun u_7 => if u_7 = (0 : Int32) then some (0 : Int32) else k2 (x2 + 1)
noncomputable def m_X8_areKeptBy_L2 (fu : Nat) (x1 : Int32) (f_t_size : Int32) (f_t_on : Int32) (c_t_kinds : Nat → Int32) (c_t_slots : Nat → Int32) (c_t_others : Nat → Int32)  (n : Nat) : Int32 → Option (Int32) :=
  Nat.rec (motive := fun _ => Int32 → Option (Int32)) (fun _ => none) (fun _ ih => m_X8_areKeptBy_L2_b fu x1 f_t_size f_t_on c_t_kinds c_t_slots c_t_others  ih) n
noncomputable def m_X8_areKeptBy (fu : Nat) (f_t_size : Int32) (f_t_on : Int32) (c_t_kinds : Nat → Int32) (c_t_slots : Nat → Int32) (c_t_others : Nat → Int32) (x1 : Int32) : Option (Int32) :=
  m_X8_areKeptBy_L2 fu x1 f_t_size f_t_on c_t_kinds c_t_slots c_t_others fu (0 : Int32)
def rm_X8_areKeptBy : Room := { frames := 1, cells := 0, slots := 0, locals := 22 }
theorem hd_X8_areKeptBy : yX8_areKeptBy.cls ≠ "java/lang/invoke/MethodHandle" ∧ yX8_areKeptBy.cls ≠ "java/lang/invoke/VarHandle" ∧ (parseMethodDescriptor yX8_areKeptBy.desc).map (fun d => d.parameters.length) = some 1 := by decide +kernel
set_option maxHeartbeats 4000000 in
set_option maxRecDepth 100000 in
theorem c_X8_areKeptBy (l : Launch) (D : va_G) (cI : ClassId × ClassId) (sz : Nat) (a_t : Nat) (a_t_kinds : Nat) (a_t_slots : Nat) (a_t_others : Nat) (fu : Nat) (f_t_size : Int32) (f_t_on : Int32) (c_t_kinds : Nat → Int32) (c_t_slots : Nat → Int32) (c_t_others : Nat → Int32) (x1 : Int32) (r : Int32) (hf : m_X8_areKeptBy fu f_t_size f_t_on c_t_kinds c_t_slots c_t_others x1 = some r) : Met l yX8_areKeptBy (zw (Cond.code yX8_areKeptBy cX8_areKeptBy 3 (some .boolean))) rm_X8_areKeptBy (va_Pc [.ref a_t, .int x1] (zA D cI [(a_t, .inr (8, [.int f_t_size, .int f_t_on, .ref a_t_kinds, .ref a_t_slots, .ref a_t_others])), (a_t_kinds, .inl (cI.1, 20, .inl c_t_kinds)), (a_t_slots, .inl (cI.1, 20, .inl c_t_slots)), (a_t_others, .inl (cI.1, 20, .inl c_t_others))] sz)) (zQi D (va_A [(a_t, .inr (8, [.int f_t_size, .int f_t_on, .ref a_t_kinds, .ref a_t_slots, .ref a_t_others])), (a_t_kinds, .inl (cI.1, 20, .inl c_t_kinds)), (a_t_slots, .inl (cI.1, 20, .inl c_t_slots)), (a_t_others, .inl (cI.1, 20, .inl c_t_others))] sz) (fun v => v = r ∧ narrow .boolean (.int v) = .int v) (fun (u : Unit) => ([(a_t, .inr (8, [.int f_t_size, .int f_t_on, .ref a_t_kinds, .ref a_t_slots, .ref a_t_others])), (a_t_kinds, .inl (cI.1, 20, .inl c_t_kinds)), (a_t_slots, .inl (cI.1, 20, .inl c_t_slots)), (a_t_others, .inl (cI.1, 20, .inl c_t_others))] : va_W))) 0 0 (va_A [(a_t, .inr (8, [.int f_t_size, .int f_t_on, .ref a_t_kinds, .ref a_t_slots, .ref a_t_others])), (a_t_kinds, .inl (cI.1, 20, .inl c_t_kinds)), (a_t_slots, .inl (cI.1, 20, .inl c_t_slots)), (a_t_others, .inl (cI.1, 20, .inl c_t_others))] sz) := by
  unfold m_X8_areKeptBy at hf
  refine zhead (C := RX8) (by decide +kernel) rfl ?_
  intro p e s m below meth c hx hb hr hlocks hml hown hnm hts hE hK H hP hS hD hA
  generalize va_A [(a_t, .inr (8, [.int f_t_size, .int f_t_on, .ref a_t_kinds, .ref a_t_slots, .ref a_t_others])), (a_t_kinds, .inl (cI.1, 20, .inl c_t_kinds)), (a_t_slots, .inl (cI.1, 20, .inl c_t_slots)), (a_t_others, .inl (cI.1, 20, .inl c_t_others))] sz = A at hS hD hA ⊢
  have hl := lv_entry ([.ref a_t, .int x1]) (n := 3) (Nat.le_of_ble_eq_true rfl)
  rw [lg_entry_eq]
  generalize (lg_sl ([.ref a_t, .int x1]) ++ List.replicate (3 - (lg_sl ([.ref a_t, .int x1])).length) Slot.unset).toArray = ls at hl ⊢
  have hl : lv_has ls 3 [(0, .ref a_t), (1, .int x1)] := hl

  have w_L2 : ∀ (n : Nat) (x2 : Int32), m_X8_areKeptBy_L2 fu x1 f_t_size f_t_on c_t_kinds c_t_slots c_t_others n x2 = some r → ∀ (H : Heap) (locs : List Loc), va_P D vwCl [(a_t, .inr (8, [.int f_t_size, .int f_t_on, .ref a_t_kinds, .ref a_t_slots, .ref a_t_others])), (a_t_kinds, .inl (cI.1, 20, .inl c_t_kinds)), (a_t_slots, .inl (cI.1, 20, .inl c_t_slots)), (a_t_others, .inl (cI.1, 20, .inl c_t_others))] H → va_D A [(a_t, .inr (8, [.int f_t_size, .int f_t_on, .ref a_t_kinds, .ref a_t_slots, .ref a_t_others])), (a_t_kinds, .inl (cI.1, 20, .inl c_t_kinds)), (a_t_slots, .inl (cI.1, 20, .inl c_t_slots)), (a_t_others, .inl (cI.1, 20, .inl c_t_others))] → va_S A s.heap H locs → ∀ ls : Array Slot, lv_has ls 3 [(0, .ref a_t), (1, .int x1), (2, .int x2)] → W p l e rm_X8_areKeptBy s m ([.ref a_t, .int x1] : List Value).toArray below meth c H locs 0 0 (MQ below (zQi D A (fun v => v = r ∧ narrow .boolean (.int v) = .int v) (fun (u : Unit) => ([(a_t, .inr (8, [.int f_t_size, .int f_t_on, .ref a_t_kinds, .ref a_t_slots, .ref a_t_others])), (a_t_kinds, .inl (cI.1, 20, .inl c_t_kinds)), (a_t_slots, .inl (cI.1, 20, .inl c_t_slots)), (a_t_others, .inl (cI.1, 20, .inl c_t_others))] : va_W))) ([.ref a_t, .int x1] : List Value).toArray s 0 0 A) (F0 m 2 ls []) := by
    intro n_2
    induction n_2 with
    | zero => intro x2  hf; exact absurd hf (fun h => by cases h)
    | succ n_2 ih_2 =>
      intro x2  hf H locs hP hD hS ls hl
      replace hf : m_X8_areKeptBy_L2_b fu x1 f_t_size f_t_on c_t_kinds c_t_slots c_t_others  (m_X8_areKeptBy_L2 fu x1 f_t_size f_t_on c_t_kinds c_t_slots c_t_others n_2) x2 = some r := hf
      unfold m_X8_areKeptBy_L2_b at hf
      refine lv_iload_n hx hb dX8_areKeptBy_2 rfl (lv_at hl 2 rfl) ?_
      refine lv_aload_n hx hb dX8_areKeptBy_3 rfl (lv_at hl 0 rfl) ?_
      refine va_get (D := D) (ci := 8) (v := .int f_t_size) (C := RX8) (T := TX8) (N := 5) hx hb hts (fun w h => zw_in (inX8 w h)) hown hK hP 0 rfl rfl 0 (by decide) (hts _ (zw_in kw_41)) (fun _ h9 => h9) rfl dX8_areKeptBy_4 ?_
      refine lv_icmp_ge (tgt := 61) hx hb dX8_areKeptBy_7 (by decide) (fun c_1 => ?_) (fun c_1 => ?_)
      · replace hf := zit hf c_1
        refine lv_iconst (v := 1) hx hb dX8_areKeptBy_61 (by decide) ?_
        obtain rfl := Option.some.inj hf
        exact zret_i hx hb hr rfl ⟨rfl, rfl⟩ () hP hD hS [0, 1, 2, 3] rfl (by decide) dX8_areKeptBy_62 hlocks
      · replace hf := zif hf c_1
        refine lv_aload_n hx hb dX8_areKeptBy_10 rfl (lv_at hl 0 rfl) ?_
        refine va_get (D := D) (ci := 8) (v := .int f_t_on) (C := RX8) (T := TX8) (N := 5) hx hb hts (fun w h => zw_in (inX8 w h)) hown hK hP 0 rfl rfl 1 (by decide) (hts _ (zw_in kw_42)) (fun _ h9 => h9) rfl dX8_areKeptBy_11 ?_
        refine lv_iload_n hx hb dX8_areKeptBy_14 rfl (lv_at hl 2 rfl) ?_
        obtain ⟨u_2, e_2, hf⟩ := zbd hf
        refine zcall_i (wr := [(a_t, .inr (8, [.int f_t_size, .int f_t_on, .ref a_t_kinds, .ref a_t_slots, .ref a_t_others])), (a_t_kinds, .inl (cI.1, 20, .inl c_t_kinds)), (a_t_slots, .inl (cI.1, 20, .inl c_t_slots)), (a_t_others, .inl (cI.1, 20, .inl c_t_others))]) (va_runSN (As := [.int f_t_on, .int x2]) (rest := []) ⟨hx, hb, hml, hown, hts⟩ (c_X9_holds l D cI H.size f_t_on x2 u_2 e_2) ⟨va_cnB 2 hts (zG_B kw_7) rfl rfl rfl (hE.1 _ kn_2) (hts _ (zw_in kw_3)) hd_X9_holds ⟨Nat.le_of_ble_eq_true rfl, Nat.le_of_ble_eq_true rfl⟩, hts _ (zw_in kw_9), trivial⟩ ⟨zblind, zpre hP hD hK hE [] rfl (by decide)⟩ rfl rfl hl.1 rfl (lv_room (Nat.le_of_ble_eq_true rfl)) dX8_areKeptBy_15 ⟨Nat.le_of_ble_eq_true rfl, Nat.le_of_ble_eq_true rfl⟩) hP hD hS hA [] [0, 1, 2, 3] rfl rfl (by decide) (by decide) (fun r9 uu H locs hX9 hP hD hS => ?_)
        obtain ⟨hX8, hb_2⟩ := hX9
        obtain rfl := hX8.symm
        have hP : va_P D vwCl [(a_t, .inr (8, [.int f_t_size, .int f_t_on, .ref a_t_kinds, .ref a_t_slots, .ref a_t_others])), (a_t_kinds, .inl (cI.1, 20, .inl c_t_kinds)), (a_t_slots, .inl (cI.1, 20, .inl c_t_slots)), (a_t_others, .inl (cI.1, 20, .inl c_t_others))] H := hP
        have hD : va_D A [(a_t, .inr (8, [.int f_t_size, .int f_t_on, .ref a_t_kinds, .ref a_t_slots, .ref a_t_others])), (a_t_kinds, .inl (cI.1, 20, .inl c_t_kinds)), (a_t_slots, .inl (cI.1, 20, .inl c_t_slots)), (a_t_others, .inl (cI.1, 20, .inl c_t_others))] := hD
        refine lv_if_eq (tgt := 55) hx hb dX8_areKeptBy_18 (by decide) (fun c_3 => ?_) (fun c_3 => ?_)
        · replace hf := zit hf c_3
          refine lv_iinc (v := x2 + 1) (lv' := [(2, .int (x2 + 1)), (0, .ref a_t), (1, .int x1)]) hx hb dX8_areKeptBy_55 hl (k := 2) rfl rfl (by decide) rfl (fun ls hl => ?_)
          refine lv_goto (tgt := 2) hx hb dX8_areKeptBy_58 (by decide) ?_
          exact ih_2 (x2 + 1)  hf _ _ (hP.sub [0, 1, 2, 3] rfl) (hD.sub [0, 1, 2, 3] (by decide) rfl) hS _ (lv_sub hl [1, 2, 0] rfl)
        · replace hf := zif hf c_3
          refine lv_aload_n hx hb dX8_areKeptBy_21 rfl (lv_at hl 0 rfl) ?_
          refine va_get (D := D) (ci := 8) (v := .ref a_t_kinds) (C := RX8) (T := TX8) (N := 5) hx hb hts (fun w h => zw_in (inX8 w h)) hown hK hP 0 rfl rfl 2 (by decide) (hts _ (zw_in kw_38)) (fun _ h9 => h9) rfl dX8_areKeptBy_22 ?_
          refine lv_iload_n hx hb dX8_areKeptBy_25 rfl (lv_at hl 2 rfl) ?_
          obtain ⟨b_4, hf⟩ := zib hf
          refine va_iald hx hb hK hP 1 0 (cA := cI.1) rfl rfl b_4 dX8_areKeptBy_26 ?_
          refine lv_iload_n hx hb dX8_areKeptBy_27 rfl (lv_at hl 1 rfl) ?_
          refine lv_aload_n hx hb dX8_areKeptBy_28 rfl (lv_at hl 0 rfl) ?_
          refine va_get (D := D) (ci := 8) (v := .ref a_t_slots) (C := RX8) (T := TX8) (N := 5) hx hb hts (fun w h => zw_in (inX8 w h)) hown hK hP 0 rfl rfl 3 (by decide) (hts _ (zw_in kw_39)) (fun _ h9 => h9) rfl dX8_areKeptBy_29 ?_
          refine lv_iload_n hx hb dX8_areKeptBy_32 rfl (lv_at hl 2 rfl) ?_
          refine va_iald hx hb hK hP 2 0 (cA := cI.1) rfl rfl b_4 dX8_areKeptBy_33 ?_
          obtain ⟨u_5, e_5, hf⟩ := zbd hf
          refine zcall_i (wr := [(a_t, .inr (8, [.int f_t_size, .int f_t_on, .ref a_t_kinds, .ref a_t_slots, .ref a_t_others])), (a_t_kinds, .inl (cI.1, 20, .inl c_t_kinds)), (a_t_slots, .inl (cI.1, 20, .inl c_t_slots)), (a_t_others, .inl (cI.1, 20, .inl c_t_others))]) (va_runSN (As := [.int x1, .int (c_t_slots (x2).toNatClampNeg)]) (rest := [.int (c_t_kinds (x2).toNatClampNeg)]) ⟨hx, hb, hml, hown, hts⟩ (c_X9_holds l D cI H.size x1 (c_t_slots (x2).toNatClampNeg) u_5 e_5) ⟨va_cnB 2 hts (zG_B kw_7) rfl rfl rfl (hE.1 _ kn_2) (hts _ (zw_in kw_3)) hd_X9_holds ⟨Nat.le_of_ble_eq_true rfl, Nat.le_of_ble_eq_true rfl⟩, hts _ (zw_in kw_9), trivial⟩ ⟨zblind, zpre hP hD hK hE [] rfl (by decide)⟩ rfl rfl hl.1 rfl (lv_room (Nat.le_of_ble_eq_true rfl)) dX8_areKeptBy_34 ⟨Nat.le_of_ble_eq_true rfl, Nat.le_of_ble_eq_true rfl⟩) hP hD hS hA [] [0, 1, 2, 3] rfl rfl (by decide) (by decide) (fun r9 uu H locs hX9 hP hD hS => ?_)
          obtain ⟨hX8, hb_5⟩ := hX9
          obtain rfl := hX8.symm
          have hP : va_P D vwCl [(a_t, .inr (8, [.int f_t_size, .int f_t_on, .ref a_t_kinds, .ref a_t_slots, .ref a_t_others])), (a_t_kinds, .inl (cI.1, 20, .inl c_t_kinds)), (a_t_slots, .inl (cI.1, 20, .inl c_t_slots)), (a_t_others, .inl (cI.1, 20, .inl c_t_others))] H := hP
          have hD : va_D A [(a_t, .inr (8, [.int f_t_size, .int f_t_on, .ref a_t_kinds, .ref a_t_slots, .ref a_t_others])), (a_t_kinds, .inl (cI.1, 20, .inl c_t_kinds)), (a_t_slots, .inl (cI.1, 20, .inl c_t_slots)), (a_t_others, .inl (cI.1, 20, .inl c_t_others))] := hD
          refine lv_iload_n hx hb dX8_areKeptBy_37 rfl (lv_at hl 1 rfl) ?_
          refine lv_aload_n hx hb dX8_areKeptBy_38 rfl (lv_at hl 0 rfl) ?_
          refine va_get (D := D) (ci := 8) (v := .ref a_t_others) (C := RX8) (T := TX8) (N := 5) hx hb hts (fun w h => zw_in (inX8 w h)) hown hK hP 0 rfl rfl 4 (by decide) (hts _ (zw_in kw_40)) (fun _ h9 => h9) rfl dX8_areKeptBy_39 ?_
          refine lv_iload_n hx hb dX8_areKeptBy_42 rfl (lv_at hl 2 rfl) ?_
          refine va_iald hx hb hK hP 3 0 (cA := cI.1) rfl rfl b_4 dX8_areKeptBy_43 ?_
          obtain ⟨u_6, e_6, hf⟩ := zbd hf
          refine zcall_i (wr := [(a_t, .inr (8, [.int f_t_size, .int f_t_on, .ref a_t_kinds, .ref a_t_slots, .ref a_t_others])), (a_t_kinds, .inl (cI.1, 20, .inl c_t_kinds)), (a_t_slots, .inl (cI.1, 20, .inl c_t_slots)), (a_t_others, .inl (cI.1, 20, .inl c_t_others))]) (va_runSN (As := [.int x1, .int (c_t_others (x2).toNatClampNeg)]) (rest := [.int u_5, .int (c_t_kinds (x2).toNatClampNeg)]) ⟨hx, hb, hml, hown, hts⟩ (c_X9_holds l D cI H.size x1 (c_t_others (x2).toNatClampNeg) u_6 e_6) ⟨va_cnB 2 hts (zG_B kw_7) rfl rfl rfl (hE.1 _ kn_2) (hts _ (zw_in kw_3)) hd_X9_holds ⟨Nat.le_of_ble_eq_true rfl, Nat.le_of_ble_eq_true rfl⟩, hts _ (zw_in kw_9), trivial⟩ ⟨zblind, zpre hP hD hK hE [] rfl (by decide)⟩ rfl rfl hl.1 rfl (lv_room (Nat.le_of_ble_eq_true rfl)) dX8_areKeptBy_44 ⟨Nat.le_of_ble_eq_true rfl, Nat.le_of_ble_eq_true rfl⟩) hP hD hS hA [] [0, 1, 2, 3] rfl rfl (by decide) (by decide) (fun r9 uu H locs hX9 hP hD hS => ?_)
          obtain ⟨hX8, hb_6⟩ := hX9
          obtain rfl := hX8.symm
          have hP : va_P D vwCl [(a_t, .inr (8, [.int f_t_size, .int f_t_on, .ref a_t_kinds, .ref a_t_slots, .ref a_t_others])), (a_t_kinds, .inl (cI.1, 20, .inl c_t_kinds)), (a_t_slots, .inl (cI.1, 20, .inl c_t_slots)), (a_t_others, .inl (cI.1, 20, .inl c_t_others))] H := hP
          have hD : va_D A [(a_t, .inr (8, [.int f_t_size, .int f_t_on, .ref a_t_kinds, .ref a_t_slots, .ref a_t_others])), (a_t_kinds, .inl (cI.1, 20, .inl c_t_kinds)), (a_t_slots, .inl (cI.1, 20, .inl c_t_slots)), (a_t_others, .inl (cI.1, 20, .inl c_t_others))] := hD
          obtain ⟨u_7, e_7, hf⟩ := zbd hf
          refine zcall_i (wr := [(a_t, .inr (8, [.int f_t_size, .int f_t_on, .ref a_t_kinds, .ref a_t_slots, .ref a_t_others])), (a_t_kinds, .inl (cI.1, 20, .inl c_t_kinds)), (a_t_slots, .inl (cI.1, 20, .inl c_t_slots)), (a_t_others, .inl (cI.1, 20, .inl c_t_others))]) (va_runS (As := [.int (c_t_kinds (x2).toNatClampNeg), .int u_5, .int u_6]) (rest := []) ⟨hx, hb, hml, hown, hts⟩ (c_X8_isKept l D cI H.size (c_t_kinds (x2).toNatClampNeg) u_5 u_6 u_7 e_7 hb_5 hb_6) (va_cwS 3 hts (zG_S kw_44 kw_45 kw_46 kw_43) rfl rfl rfl hd_X8_isKept ⟨Nat.le_of_ble_eq_true rfl, Nat.le_of_ble_eq_true rfl⟩) ⟨zblind, zpre hP hD hK hE [] rfl (by decide)⟩ rfl rfl hl.1 rfl (lv_room (Nat.le_of_ble_eq_true rfl)) dX8_areKeptBy_47 ⟨Nat.le_of_ble_eq_true rfl, Nat.le_of_ble_eq_true rfl⟩) hP hD hS hA [] [0, 1, 2, 3] rfl rfl (by decide) (by decide) (fun r9 uu H locs hX9 hP hD hS => ?_)
          obtain ⟨hX8, hb_7⟩ := hX9
          obtain rfl := hX8.symm
          have hP : va_P D vwCl [(a_t, .inr (8, [.int f_t_size, .int f_t_on, .ref a_t_kinds, .ref a_t_slots, .ref a_t_others])), (a_t_kinds, .inl (cI.1, 20, .inl c_t_kinds)), (a_t_slots, .inl (cI.1, 20, .inl c_t_slots)), (a_t_others, .inl (cI.1, 20, .inl c_t_others))] H := hP
          have hD : va_D A [(a_t, .inr (8, [.int f_t_size, .int f_t_on, .ref a_t_kinds, .ref a_t_slots, .ref a_t_others])), (a_t_kinds, .inl (cI.1, 20, .inl c_t_kinds)), (a_t_slots, .inl (cI.1, 20, .inl c_t_slots)), (a_t_others, .inl (cI.1, 20, .inl c_t_others))] := hD
          refine lv_if_ne (tgt := 55) hx hb dX8_areKeptBy_50 (by decide) (fun c_8 => ?_) (fun c_8 => ?_)
          · replace hf := zif hf c_8
            refine lv_iinc (v := x2 + 1) (lv' := [(2, .int (x2 + 1)), (0, .ref a_t), (1, .int x1)]) hx hb dX8_areKeptBy_55 hl (k := 2) rfl rfl (by decide) rfl (fun ls hl => ?_)
            refine lv_goto (tgt := 2) hx hb dX8_areKeptBy_58 (by decide) ?_
            exact ih_2 (x2 + 1)  hf _ _ (hP.sub [0, 1, 2, 3] rfl) (hD.sub [0, 1, 2, 3] (by decide) rfl) hS _ (lv_sub hl [1, 2, 0] rfl)
          · replace hf := zit hf c_8
            refine lv_iconst (v := 0) hx hb dX8_areKeptBy_53 (by decide) ?_
            obtain rfl := Option.some.inj hf
            exact zret_i hx hb hr rfl ⟨rfl, rfl⟩ () hP hD hS [0, 1, 2, 3] rfl (by decide) dX8_areKeptBy_54 hlocks
  refine lv_iconst (v := 0) hx hb dX8_areKeptBy_0 (by decide) ?_
  refine lv_istore_n (lv' := [(2, .int 0), (0, .ref a_t), (1, .int x1)]) hx hb dX8_areKeptBy_1 rfl hl (by decide) rfl (fun ls hl => ?_)
  exact w_L2 fu (0 : Int32)  hf _ _ (hP.sub [0, 1, 2, 3] rfl) (hD.sub [0, 1, 2, 3] (by decide) rfl) hS _ (lv_sub hl [1, 2, 0] rfl)
