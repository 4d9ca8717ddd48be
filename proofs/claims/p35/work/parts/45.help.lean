noncomputable def m_L_low  (x0 : Int32) (x1 : Int32) : Option (Int32) :=
  if x1 = 0 then none else some (((x0.toUInt32 >>> ((1 : Int32).toUInt32 &&& Int32.toUInt32 31)).toInt32) - ((x0.toUInt32 >>> ((1 : Int32).toUInt32 &&& Int32.toUInt32 31)).toInt32) / x1 * x1)
def rm_L_low : Room := { frames := 0, cells := 0, slots := 0, locals := 0 }
theorem hd_L_low : yL_low.cls ≠ "java/lang/invoke/MethodHandle" ∧ yL_low.cls ≠ "java/lang/invoke/VarHandle" ∧ (parseMethodDescriptor yL_low.desc).map (fun d => d.parameters.length) = some 2 := by decide +kernel
set_option maxHeartbeats 4000000 in
set_option maxRecDepth 100000 in
theorem c_L_low (l : Launch) (D : va_G) (cI : ClassId × ClassId) (sz : Nat)   (x0 : Int32) (x1 : Int32) (r : Int32) (hf : m_L_low  x0 x1 = some r) : Met l yL_low (zw (Cond.code yL_low cL_low 2 (some .int))) rm_L_low (va_Pc [.int x0, .int x1] (zA D cI [] sz)) (zQi D (va_A [] sz) (fun v => v = r) (fun (u : Unit) => ([] : va_W))) 0 0 (va_A [] sz) := by
  unfold m_L_low at hf
  refine zhead (C := RL) (by decide +kernel) rfl ?_
  intro p e s m below meth c hx hb hr hlocks hml hown hnm hts hE hK H hP hS hD hA
  generalize va_A [] sz = A at hS hD hA ⊢
  have hl := lv_entry ([.int x0, .int x1]) (n := 2) (Nat.le_of_ble_eq_true rfl)
  rw [lg_entry_eq]
  generalize (lg_sl ([.int x0, .int x1]) ++ List.replicate (2 - (lg_sl ([.int x0, .int x1])).length) Slot.unset).toArray = ls at hl ⊢
  have hl : lv_has ls 2 [(0, .int x0), (1, .int x1)] := hl

  refine lv_iload_n hx hb dL_low_0 rfl (lv_at hl 0 rfl) ?_
  refine lv_iconst (v := 1) hx hb dL_low_1 (by decide) ?_
  refine lv_iushr hx hb dL_low_2 rfl ?_
  refine lv_iload_n hx hb dL_low_3 rfl (lv_at hl 1 rfl) ?_
  obtain ⟨b_1, hf⟩ := zib hf
  refine lv_irem hx hb dL_low_4 b_1 ?_
  obtain rfl := Option.some.inj hf
  exact zret_i hx hb hr rfl rfl () hP hD hS [] rfl (by decide) dL_low_5 hlocks
noncomputable def m_L_digit_L10_b (fu : Nat) (x2 : Int32) (x3 : Int32) (c_n : Nat → Int32) (c_g : Nat → Int32)  (k10 : Int32 → Int32 → Option (Int32)) (x4 : Int32) (x5 : Int32) : Option (Int32) :=
  if x5 ≤ x3 then if x3 < 0 ∨ 6 ≤ (x3).toNatClampNeg then none else if c_n (x3).toNatClampNeg = 0 then none else some (x4 - x4 / (c_n (x3).toNatClampNeg) * (c_n (x3).toNatClampNeg)) else if x5 < 0 ∨ 6 ≤ (x5).toNatClampNeg then none else if c_n (x5).toNatClampNeg = 0 then none else k10 (x4 / (c_n (x5).toNatClampNeg)) (x5 + (-1))
noncomputable def m_L_digit_L10 (fu : Nat) (x2 : Int32) (x3 : Int32) (c_n : Nat → Int32) (c_g : Nat → Int32)  (n : Nat) : Int32 → Int32 → Option (Int32) :=
  Nat.rec (motive := fun _ => Int32 → Int32 → Option (Int32)) (fun _ _ => none) (fun _ ih => m_L_digit_L10_b fu x2 x3 c_n c_g  ih) n
noncomputable def m_L_digit (fu : Nat) (c_n : Nat → Int32) (c_g : Nat → Int32) (x2 : Int32) (x3 : Int32) : Option (Int32) :=
  m_L_digit_L10 fu x2 x3 c_n c_g fu x2 ((c_g ((0 : Int32)).toNatClampNeg) - (1 : Int32))
def rm_L_digit : Room := { frames := 0, cells := 0, slots := 0, locals := 0 }
theorem hd_L_digit : yL_digit.cls ≠ "java/lang/invoke/MethodHandle" ∧ yL_digit.cls ≠ "java/lang/invoke/VarHandle" ∧ (parseMethodDescriptor yL_digit.desc).map (fun d => d.parameters.length) = some 4 := by decide +kernel
set_option maxHeartbeats 4000000 in
set_option maxRecDepth 100000 in
theorem c_L_digit (l : Launch) (D : va_G) (cI : ClassId × ClassId) (sz : Nat) (a_n : Nat) (a_g : Nat) (fu : Nat) (c_n : Nat → Int32) (c_g : Nat → Int32) (x2 : Int32) (x3 : Int32) (r : Int32) (hf : m_L_digit fu c_n c_g x2 x3 = some r) : Met l yL_digit (zw (Cond.code yL_digit cL_digit 6 (some .int))) rm_L_digit (va_Pc [.ref a_n, .ref a_g, .int x2, .int x3] (zA D cI [(a_n, .inl (cI.1, 6, .inl c_n)), (a_g, .inl (cI.1, 7, .inl c_g))] sz)) (zQi D (va_A [(a_n, .inl (cI.1, 6, .inl c_n)), (a_g, .inl (cI.1, 7, .inl c_g))] sz) (fun v => v = r) (fun (u : Unit) => ([(a_n, .inl (cI.1, 6, .inl c_n)), (a_g, .inl (cI.1, 7, .inl c_g))] : va_W))) 0 0 (va_A [(a_n, .inl (cI.1, 6, .inl c_n)), (a_g, .inl (cI.1, 7, .inl c_g))] sz) := by
  unfold m_L_digit at hf
  refine zhead (C := RL) (by decide +kernel) rfl ?_
  intro p e s m below meth c hx hb hr hlocks hml hown hnm hts hE hK H hP hS hD hA
  generalize va_A [(a_n, .inl (cI.1, 6, .inl c_n)), (a_g, .inl (cI.1, 7, .inl c_g))] sz = A at hS hD hA ⊢
  have hl := lv_entry ([.ref a_n, .ref a_g, .int x2, .int x3]) (n := 6) (Nat.le_of_ble_eq_true rfl)
  rw [lg_entry_eq]
  generalize (lg_sl ([.ref a_n, .ref a_g, .int x2, .int x3]) ++ List.replicate (6 - (lg_sl ([.ref a_n, .ref a_g, .int x2, .int x3])).length) Slot.unset).toArray = ls at hl ⊢
  have hl : lv_has ls 6 [(0, .ref a_n), (1, .ref a_g), (2, .int x2), (3, .int x3)] := hl

  have w_L10 : ∀ (n : Nat) (x4 : Int32) (x5 : Int32), m_L_digit_L10 fu x2 x3 c_n c_g n x4 x5 = some r → ∀ (H : Heap) (locs : List Loc), va_P D vwCl [(a_n, .inl (cI.1, 6, .inl c_n)), (a_g, .inl (cI.1, 7, .inl c_g))] H → va_D A [(a_n, .inl (cI.1, 6, .inl c_n)), (a_g, .inl (cI.1, 7, .inl c_g))] → va_S A s.heap H locs → ∀ ls : Array Slot, lv_has ls 6 [(0, .ref a_n), (1, .ref a_g), (2, .int x2), (3, .int x3), (4, .int x4), (5, .int x5)] → W p l e rm_L_digit s m ([.ref a_n, .ref a_g, .int x2, .int x3] : List Value).toArray below meth c H locs 0 0 (MQ below (zQi D A (fun v => v = r) (fun (u : Unit) => ([(a_n, .inl (cI.1, 6, .inl c_n)), (a_g, .inl (cI.1, 7, .inl c_g))] : va_W))) ([.ref a_n, .ref a_g, .int x2, .int x3] : List Value).toArray s 0 0 A) (F0 m 10 ls []) := by
    intro n_10
    induction n_10 with
    | zero => intro x4 x5  hf; exact absurd hf (fun h => by cases h)
    | succ n_10 ih_10 =>
      intro x4 x5  hf H locs hP hD hS ls hl
      replace hf : m_L_digit_L10_b fu x2 x3 c_n c_g  (m_L_digit_L10 fu x2 x3 c_n c_g n_10) x4 x5 = some r := hf
      unfold m_L_digit_L10_b at hf
      refine lv_iload hx hb dL_digit_10 (lv_at hl 5 rfl) ?_
      refine lv_iload_n hx hb dL_digit_12 rfl (lv_at hl 3 rfl) ?_
      refine lv_icmp_le (tgt := 31) hx hb dL_digit_13 (by decide) (fun c_1 => ?_) (fun c_1 => ?_)
      · replace hf := zit hf c_1
        refine lv_iload hx hb dL_digit_31 (lv_at hl 4 rfl) ?_
        refine lv_aload_n hx hb dL_digit_33 rfl (lv_at hl 0 rfl) ?_
        refine lv_iload_n hx hb dL_digit_34 rfl (lv_at hl 3 rfl) ?_
        obtain ⟨b_2, hf⟩ := zib hf
        refine va_iald hx hb hK hP 0 0 (cA := cI.1) rfl rfl b_2 dL_digit_35 ?_
        obtain ⟨b_3, hf⟩ := zib hf
        refine lv_irem hx hb dL_digit_36 b_3 ?_
        obtain rfl := Option.some.inj hf
        exact zret_i hx hb hr rfl rfl () hP hD hS [0, 1] rfl (by decide) dL_digit_37 hlocks
      · replace hf := zif hf c_1
        refine lv_iload hx hb dL_digit_16 (lv_at hl 4 rfl) ?_
        refine lv_aload_n hx hb dL_digit_18 rfl (lv_at hl 0 rfl) ?_
        refine lv_iload hx hb dL_digit_19 (lv_at hl 5 rfl) ?_
        obtain ⟨b_4, hf⟩ := zib hf
        refine va_iald hx hb hK hP 0 0 (cA := cI.1) rfl rfl b_4 dL_digit_21 ?_
        obtain ⟨b_5, hf⟩ := zib hf
        refine lv_idiv hx hb dL_digit_22 b_5 ?_
        refine lv_istore (lv' := [(4, .int (x4 / (c_n (x5).toNatClampNeg))), (0, .ref a_n), (1, .ref a_g), (2, .int x2), (3, .int x3), (5, .int x5)]) hx hb dL_digit_23 hl (by decide) rfl (fun ls hl => ?_)
        refine lv_iinc (v := x5 + (-1)) (lv' := [(5, .int (x5 + (-1))), (4, .int (x4 / (c_n (x5).toNatClampNeg))), (0, .ref a_n), (1, .ref a_g), (2, .int x2), (3, .int x3)]) hx hb dL_digit_25 hl (k := 5) rfl rfl (by decide) rfl (fun ls hl => ?_)
        refine lv_goto (tgt := 10) hx hb dL_digit_28 (by decide) ?_
        exact ih_10 (x4 / (c_n (x5).toNatClampNeg)) (x5 + (-1))  hf _ _ (hP.sub [0, 1] rfl) (hD.sub [0, 1] (by decide) rfl) hS _ (lv_sub hl [2, 3, 4, 5, 1, 0] rfl)
  refine lv_iload_n hx hb dL_digit_0 rfl (lv_at hl 2 rfl) ?_
  refine lv_istore (lv' := [(4, .int x2), (0, .ref a_n), (1, .ref a_g), (2, .int x2), (3, .int x3)]) hx hb dL_digit_1 hl (by decide) rfl (fun ls hl => ?_)
  refine lv_aload_n hx hb dL_digit_3 rfl (lv_at hl 2 rfl) ?_
  refine lv_iconst (v := 0) hx hb dL_digit_4 (by decide) ?_
  refine va_iald hx hb hK hP 1 0 (cA := cI.1) rfl rfl (show ¬ ((0 : Int32) < 0 ∨ 7 ≤ (0 : Int32).toNatClampNeg) by decide) dL_digit_5 ?_
  refine lv_iconst (v := 1) hx hb dL_digit_6 (by decide) ?_
  refine lv_isub hx hb dL_digit_7 ?_
  refine lv_istore (lv' := [(5, .int ((c_g ((0 : Int32)).toNatClampNeg) - (1 : Int32))), (4, .int x2), (0, .ref a_n), (1, .ref a_g), (2, .int x2), (3, .int x3)]) hx hb dL_digit_8 hl (by decide) rfl (fun ls hl => ?_)
  exact w_L10 fu x2 ((c_g ((0 : Int32)).toNatClampNeg) - (1 : Int32))  hf _ _ (hP.sub [0, 1] rfl) (hD.sub [0, 1] (by decide) rfl) hS _ (lv_sub hl [2, 3, 4, 5, 1, 0] rfl)
noncomputable def m_L_isKept  (x0 : Int32) (x1 : Int32) (x2 : Int32) : Option (Int32) :=
  if x1 = (x0 / (100 : Int32)) - (x0 / (100 : Int32)) / (10 : Int32) * (10 : Int32) then if x2 = x0 - x0 / (10 : Int32) * (10 : Int32) then if x0 / (10000 : Int32) = (2 : Int32) then some (1 : Int32) else if x0 / (10000 : Int32) = (1 : Int32) then some (1 : Int32) else some (0 : Int32) else if x0 / (10000 : Int32) = (2 : Int32) then some (0 : Int32) else if x0 / (10000 : Int32) = (1 : Int32) then some (0 : Int32) else some (1 : Int32) else if x2 = x0 - x0 / (10 : Int32) * (10 : Int32) then if x0 / (10000 : Int32) = (2 : Int32) then some (0 : Int32) else some (1 : Int32) else if x0 / (10000 : Int32) = (2 : Int32) then some (1 : Int32) else some (1 : Int32)
def rm_L_isKept : Room := { frames := 0, cells := 0, slots := 0, locals := 0 }
theorem hd_L_isKept : yL_isKept.cls ≠ "java/lang/invoke/MethodHandle" ∧ yL_isKept.cls ≠ "java/lang/invoke/VarHandle" ∧ (parseMethodDescriptor yL_isKept.desc).map (fun d => d.parameters.length) = some 3 := by decide +kernel
set_option maxHeartbeats 4000000 in
set_option maxRecDepth 100000 in
theorem c_L_isKept (l : Launch) (D : va_G) (cI : ClassId × ClassId) (sz : Nat)   (x0 : Int32) (x1 : Int32) (x2 : Int32) (r : Int32) (hf : m_L_isKept  x0 x1 x2 = some r) : Met l yL_isKept (zw (Cond.code yL_isKept cL_isKept 5 (some .boolean))) rm_L_isKept (va_Pc [.int x0, .int x1, .int x2] (zA D cI [] sz)) (zQi D (va_A [] sz) (fun v => v = r ∧ narrow .boolean (.int v) = .int v) (fun (u : Unit) => ([] : va_W))) 0 0 (va_A [] sz) := by
  unfold m_L_isKept at hf
  refine zhead (C := RL) (by decide +kernel) rfl ?_
  intro p e s m below meth c hx hb hr hlocks hml hown hnm hts hE hK H hP hS hD hA
  generalize va_A [] sz = A at hS hD hA ⊢
  have hl := lv_entry ([.int x0, .int x1, .int x2]) (n := 5) (Nat.le_of_ble_eq_true rfl)
  rw [lg_entry_eq]
  generalize (lg_sl ([.int x0, .int x1, .int x2]) ++ List.replicate (5 - (lg_sl ([.int x0, .int x1, .int x2])).length) Slot.unset).toArray = ls at hl ⊢
  have hl : lv_has ls 5 [(0, .int x0), (1, .int x1), (2, .int x2)] := hl

  refine lv_iload_n hx hb dL_isKept_0 rfl (lv_at hl 1 rfl) ?_
  refine lv_iload_n hx hb dL_isKept_1 rfl (lv_at hl 0 rfl) ?_
  refine lv_bipush (v := 100) hx hb dL_isKept_2 (by decide) ?_
  refine lv_idiv hx hb dL_isKept_4 (by decide) ?_
  refine lv_bipush (v := 10) hx hb dL_isKept_5 (by decide) ?_
  refine lv_irem hx hb dL_isKept_7 (by decide) ?_
  refine lv_icmp_ne (tgt := 15) hx hb dL_isKept_8 (by decide) (fun c_1 => ?_) (fun c_1 => ?_)
  · replace hf := zif hf c_1
    refine lv_iconst (v := 0) hx hb dL_isKept_15 (by decide) ?_
    refine lv_istore_n (lv' := [(3, .int 0), (0, .int x0), (1, .int x1), (2, .int x2)]) hx hb dL_isKept_16 rfl hl (by decide) rfl (fun ls hl => ?_)
    refine lv_iload_n hx hb dL_isKept_17 rfl (lv_at hl 3 rfl) ?_
    refine lv_iload_n hx hb dL_isKept_18 rfl (lv_at hl 1 rfl) ?_
    refine lv_bipush (v := 10) hx hb dL_isKept_19 (by decide) ?_
    refine lv_irem hx hb dL_isKept_21 (by decide) ?_
    refine lv_icmp_ne (tgt := 29) hx hb dL_isKept_22 (by decide) (fun c_2 => ?_) (fun c_2 => ?_)
    · replace hf := zif hf c_2
      refine lv_iconst (v := 0) hx hb dL_isKept_29 (by decide) ?_
      refine lv_istore (lv' := [(4, .int 0), (3, .int 0), (0, .int x0), (1, .int x1), (2, .int x2)]) hx hb dL_isKept_30 hl (by decide) rfl (fun ls hl => ?_)
      refine lv_iload_n hx hb dL_isKept_32 rfl (lv_at hl 2 rfl) ?_
      refine lv_sipush (v := 10000) hx hb dL_isKept_33 (by decide) ?_
      refine lv_idiv hx hb dL_isKept_36 (by decide) ?_
      refine lv_iconst (v := 2) hx hb dL_isKept_37 (by decide) ?_
      refine lv_icmp_ne (tgt := 55) hx hb dL_isKept_38 (by decide) (fun c_3 => ?_) (fun c_3 => ?_)
      · replace hf := zif hf c_3
        refine lv_iload_n hx hb dL_isKept_55 rfl (lv_at hl 1 rfl) ?_
        refine lv_if_eq (tgt := 78) hx hb dL_isKept_56 (by decide) (fun _ => ?_) (fun c9 => absurd c9 (by decide))
        refine lv_iconst (v := 1) hx hb dL_isKept_78 (by decide) ?_
        refine lv_goto (tgt := 83) hx hb dL_isKept_79 (by decide) ?_
        obtain rfl := Option.some.inj hf
        exact zret_i hx hb hr rfl ⟨rfl, rfl⟩ () hP hD hS [] rfl (by decide) dL_isKept_83 hlocks
      · replace hf := zit hf c_3
        refine lv_iload_n hx hb dL_isKept_41 rfl (lv_at hl 1 rfl) ?_
        refine lv_iload hx hb dL_isKept_42 (lv_at hl 0 rfl) ?_
        refine lv_icmp_ne (tgt := 51) hx hb dL_isKept_44 (by decide) (fun c9 => absurd c9 (by decide)) (fun _ => ?_)
        refine lv_iconst (v := 1) hx hb dL_isKept_47 (by decide) ?_
        refine lv_goto (tgt := 83) hx hb dL_isKept_48 (by decide) ?_
        obtain rfl := Option.some.inj hf
        exact zret_i hx hb hr rfl ⟨rfl, rfl⟩ () hP hD hS [] rfl (by decide) dL_isKept_83 hlocks
    · replace hf := zit hf c_2
      refine lv_iconst (v := 1) hx hb dL_isKept_25 (by decide) ?_
      refine lv_goto (tgt := 30) hx hb dL_isKept_26 (by decide) ?_
      refine lv_istore (lv' := [(4, .int 1), (3, .int 0), (0, .int x0), (1, .int x1), (2, .int x2)]) hx hb dL_isKept_30 hl (by decide) rfl (fun ls hl => ?_)
      refine lv_iload_n hx hb dL_isKept_32 rfl (lv_at hl 2 rfl) ?_
      refine lv_sipush (v := 10000) hx hb dL_isKept_33 (by decide) ?_
      refine lv_idiv hx hb dL_isKept_36 (by decide) ?_
      refine lv_iconst (v := 2) hx hb dL_isKept_37 (by decide) ?_
      refine lv_icmp_ne (tgt := 55) hx hb dL_isKept_38 (by decide) (fun c_4 => ?_) (fun c_4 => ?_)
      · replace hf := zif hf c_4
        refine lv_iload_n hx hb dL_isKept_55 rfl (lv_at hl 1 rfl) ?_
        refine lv_if_eq (tgt := 78) hx hb dL_isKept_56 (by decide) (fun _ => ?_) (fun c9 => absurd c9 (by decide))
        refine lv_iconst (v := 1) hx hb dL_isKept_78 (by decide) ?_
        refine lv_goto (tgt := 83) hx hb dL_isKept_79 (by decide) ?_
        obtain rfl := Option.some.inj hf
        exact zret_i hx hb hr rfl ⟨rfl, rfl⟩ () hP hD hS [] rfl (by decide) dL_isKept_83 hlocks
      · replace hf := zit hf c_4
        refine lv_iload_n hx hb dL_isKept_41 rfl (lv_at hl 1 rfl) ?_
        refine lv_iload hx hb dL_isKept_42 (lv_at hl 0 rfl) ?_
        refine lv_icmp_ne (tgt := 51) hx hb dL_isKept_44 (by decide) (fun _ => ?_) (fun c9 => absurd c9 (by decide))
        refine lv_iconst (v := 0) hx hb dL_isKept_51 (by decide) ?_
        refine lv_goto (tgt := 83) hx hb dL_isKept_52 (by decide) ?_
        obtain rfl := Option.some.inj hf
        exact zret_i hx hb hr rfl ⟨rfl, rfl⟩ () hP hD hS [] rfl (by decide) dL_isKept_83 hlocks
  · replace hf := zit hf c_1
    refine lv_iconst (v := 1) hx hb dL_isKept_11 (by decide) ?_
    refine lv_goto (tgt := 16) hx hb dL_isKept_12 (by decide) ?_
    refine lv_istore_n (lv' := [(3, .int 1), (0, .int x0), (1, .int x1), (2, .int x2)]) hx hb dL_isKept_16 rfl hl (by decide) rfl (fun ls hl => ?_)
    refine lv_iload_n hx hb dL_isKept_17 rfl (lv_at hl 3 rfl) ?_
    refine lv_iload_n hx hb dL_isKept_18 rfl (lv_at hl 1 rfl) ?_
    refine lv_bipush (v := 10) hx hb dL_isKept_19 (by decide) ?_
    refine lv_irem hx hb dL_isKept_21 (by decide) ?_
    refine lv_icmp_ne (tgt := 29) hx hb dL_isKept_22 (by decide) (fun c_5 => ?_) (fun c_5 => ?_)
    · replace hf := zif hf c_5
      refine lv_iconst (v := 0) hx hb dL_isKept_29 (by decide) ?_
      refine lv_istore (lv' := [(4, .int 0), (3, .int 1), (0, .int x0), (1, .int x1), (2, .int x2)]) hx hb dL_isKept_30 hl (by decide) rfl (fun ls hl => ?_)
      refine lv_iload_n hx hb dL_isKept_32 rfl (lv_at hl 2 rfl) ?_
      refine lv_sipush (v := 10000) hx hb dL_isKept_33 (by decide) ?_
      refine lv_idiv hx hb dL_isKept_36 (by decide) ?_
      refine lv_iconst (v := 2) hx hb dL_isKept_37 (by decide) ?_
      refine lv_icmp_ne (tgt := 55) hx hb dL_isKept_38 (by decide) (fun c_6 => ?_) (fun c_6 => ?_)
      · replace hf := zif hf c_6
        refine lv_iload_n hx hb dL_isKept_55 rfl (lv_at hl 1 rfl) ?_
        refine lv_if_eq (tgt := 78) hx hb dL_isKept_56 (by decide) (fun c9 => absurd c9 (by decide)) (fun _ => ?_)
        refine lv_iload hx hb dL_isKept_59 (lv_at hl 0 rfl) ?_
        refine lv_iload_n hx hb dL_isKept_61 rfl (lv_at hl 2 rfl) ?_
        refine lv_sipush (v := 10000) hx hb dL_isKept_62 (by decide) ?_
        refine lv_idiv hx hb dL_isKept_65 (by decide) ?_
        refine lv_iconst (v := 1) hx hb dL_isKept_66 (by decide) ?_
        refine lv_icmp_ne (tgt := 74) hx hb dL_isKept_67 (by decide) (fun c_7 => ?_) (fun c_7 => ?_)
        · replace hf := zif hf c_7
          refine lv_iconst (v := 0) hx hb dL_isKept_74 (by decide) ?_
          refine lv_icmp_ne (tgt := 82) hx hb dL_isKept_75 (by decide) (fun c9 => absurd c9 (by decide)) (fun _ => ?_)
          refine lv_iconst (v := 1) hx hb dL_isKept_78 (by decide) ?_
          refine lv_goto (tgt := 83) hx hb dL_isKept_79 (by decide) ?_
          obtain rfl := Option.some.inj hf
          exact zret_i hx hb hr rfl ⟨rfl, rfl⟩ () hP hD hS [] rfl (by decide) dL_isKept_83 hlocks
        · replace hf := zit hf c_7
          refine lv_iconst (v := 1) hx hb dL_isKept_70 (by decide) ?_
          refine lv_goto (tgt := 75) hx hb dL_isKept_71 (by decide) ?_
          refine lv_icmp_ne (tgt := 82) hx hb dL_isKept_75 (by decide) (fun _ => ?_) (fun c9 => absurd c9 (by decide))
          refine lv_iconst (v := 0) hx hb dL_isKept_82 (by decide) ?_
          obtain rfl := Option.some.inj hf
          exact zret_i hx hb hr rfl ⟨rfl, rfl⟩ () hP hD hS [] rfl (by decide) dL_isKept_83 hlocks
      · replace hf := zit hf c_6
        refine lv_iload_n hx hb dL_isKept_41 rfl (lv_at hl 1 rfl) ?_
        refine lv_iload hx hb dL_isKept_42 (lv_at hl 0 rfl) ?_
        refine lv_icmp_ne (tgt := 51) hx hb dL_isKept_44 (by decide) (fun _ => ?_) (fun c9 => absurd c9 (by decide))
        refine lv_iconst (v := 0) hx hb dL_isKept_51 (by decide) ?_
        refine lv_goto (tgt := 83) hx hb dL_isKept_52 (by decide) ?_
        obtain rfl := Option.some.inj hf
        exact zret_i hx hb hr rfl ⟨rfl, rfl⟩ () hP hD hS [] rfl (by decide) dL_isKept_83 hlocks
    · replace hf := zit hf c_5
      refine lv_iconst (v := 1) hx hb dL_isKept_25 (by decide) ?_
      refine lv_goto (tgt := 30) hx hb dL_isKept_26 (by decide) ?_
      refine lv_istore (lv' := [(4, .int 1), (3, .int 1), (0, .int x0), (1, .int x1), (2, .int x2)]) hx hb dL_isKept_30 hl (by decide) rfl (fun ls hl => ?_)
      refine lv_iload_n hx hb dL_isKept_32 rfl (lv_at hl 2 rfl) ?_
      refine lv_sipush (v := 10000) hx hb dL_isKept_33 (by decide) ?_
      refine lv_idiv hx hb dL_isKept_36 (by decide) ?_
      refine lv_iconst (v := 2) hx hb dL_isKept_37 (by decide) ?_
      refine lv_icmp_ne (tgt := 55) hx hb dL_isKept_38 (by decide) (fun c_8 => ?_) (fun c_8 => ?_)
      · replace hf := zif hf c_8
        refine lv_iload_n hx hb dL_isKept_55 rfl (lv_at hl 1 rfl) ?_
        refine lv_if_eq (tgt := 78) hx hb dL_isKept_56 (by decide) (fun c9 => absurd c9 (by decide)) (fun _ => ?_)
        refine lv_iload hx hb dL_isKept_59 (lv_at hl 0 rfl) ?_
        refine lv_iload_n hx hb dL_isKept_61 rfl (lv_at hl 2 rfl) ?_
        refine lv_sipush (v := 10000) hx hb dL_isKept_62 (by decide) ?_
        refine lv_idiv hx hb dL_isKept_65 (by decide) ?_
        refine lv_iconst (v := 1) hx hb dL_isKept_66 (by decide) ?_
        refine lv_icmp_ne (tgt := 74) hx hb dL_isKept_67 (by decide) (fun c_9 => ?_) (fun c_9 => ?_)
        · replace hf := zif hf c_9
          refine lv_iconst (v := 0) hx hb dL_isKept_74 (by decide) ?_
          refine lv_icmp_ne (tgt := 82) hx hb dL_isKept_75 (by decide) (fun _ => ?_) (fun c9 => absurd c9 (by decide))
          refine lv_iconst (v := 0) hx hb dL_isKept_82 (by decide) ?_
          obtain rfl := Option.some.inj hf
          exact zret_i hx hb hr rfl ⟨rfl, rfl⟩ () hP hD hS [] rfl (by decide) dL_isKept_83 hlocks
        · replace hf := zit hf c_9
          refine lv_iconst (v := 1) hx hb dL_isKept_70 (by decide) ?_
          refine lv_goto (tgt := 75) hx hb dL_isKept_71 (by decide) ?_
          refine lv_icmp_ne (tgt := 82) hx hb dL_isKept_75 (by decide) (fun c9 => absurd c9 (by decide)) (fun _ => ?_)
          refine lv_iconst (v := 1) hx hb dL_isKept_78 (by decide) ?_
          refine lv_goto (tgt := 83) hx hb dL_isKept_79 (by decide) ?_
          obtain rfl := Option.some.inj hf
          exact zret_i hx hb hr rfl ⟨rfl, rfl⟩ () hP hD hS [] rfl (by decide) dL_isKept_83 hlocks
      · replace hf := zit hf c_8
        refine lv_iload_n hx hb dL_isKept_41 rfl (lv_at hl 1 rfl) ?_
        refine lv_iload hx hb dL_isKept_42 (lv_at hl 0 rfl) ?_
        refine lv_icmp_ne (tgt := 51) hx hb dL_isKept_44 (by decide) (fun c9 => absurd c9 (by decide)) (fun _ => ?_)
        refine lv_iconst (v := 1) hx hb dL_isKept_47 (by decide) ?_
        refine lv_goto (tgt := 83) hx hb dL_isKept_48 (by decide) ?_
        obtain rfl := Option.some.inj hf
        exact zret_i hx hb hr rfl ⟨rfl, rfl⟩ () hP hD hS [] rfl (by decide) dL_isKept_83 hlocks
noncomputable def m_L_keeps_L3_b (fu : Nat) (x3 : Int32) (x4 : Int32) (c_n : Nat → Int32) (c_r : Nat → Int32) (c_g : Nat → Int32)  (k3 : Int32 → Option (Int32)) (x5 : Int32) : Option (Int32) :=
  if c_g ((1 : Int32)).toNatClampNeg ≤ x5 then some (1 : Int32) else if (x3 >>> (x5 &&& 31)) &&& (1 : Int32) = (1 : Int32) then if x5 < 0 ∨ 20 ≤ (x5).toNatClampNeg then none else (m_L_digit fu c_n c_g x4 (((c_r (x5).toNatClampNeg) / (1000 : Int32)) - ((c_r (x5).toNatClampNeg) / (1000 : Int32)) / (10 : Int32) * (10 : Int32))).bind fun u_4 => (m_L_digit fu c_n c_g x4 (((c_r (x5).toNatClampNeg) / (10 : Int32)) - ((c_r (x5).toNatClampNeg) / (10 : Int32)) / (10 : Int32) * (10 : Int32))).bind fun u_5 => (m_L_isKept (c_r (x5).toNatClampNeg) u_4 u_5).bind fun u_6 => if u_6 = (0 : Int32) then some (0 : Int32) else k3 (x5 + 1) else k3 (x5 + 1)
noncomputable def m_L_keeps_L3 (fu : Nat) (x3 : Int32) (x4 : Int32) (c_n : Nat → Int32) (c_r : Nat → Int32) (c_g : Nat → Int32)  (n : Nat) : Int32 → Option (Int32) :=
  Nat.rec (motive := fun _ => Int32 → Option (Int32)) (fun _ => none) (fun _ ih => m_L_keeps_L3_b fu x3 x4 c_n c_r c_g  ih) n
noncomputable def m_L_keeps (fu : Nat) (c_n : Nat → Int32) (c_r : Nat → Int32) (c_g : Nat → Int32) (x3 : Int32) (x4 : Int32) : Option (Int32) :=
  m_L_keeps_L3 fu x3 x4 c_n c_r c_g fu (0 : Int32)
def rm_L_keeps : Room := { frames := 1, cells := 0, slots := 0, locals := 25 }
theorem hd_L_keeps : yL_keeps.cls ≠ "java/lang/invoke/MethodHandle" ∧ yL_keeps.cls ≠ "java/lang/invoke/VarHandle" ∧ (parseMethodDescriptor yL_keeps.desc).map (fun d => d.parameters.length) = some 5 := by decide +kernel
set_option maxHeartbeats 4000000 in
set_option maxRecDepth 100000 in
theorem c_L_keeps (l : Launch) (D : va_G) (cI : ClassId × ClassId) (sz : Nat) (a_n : Nat) (a_r : Nat) (a_g : Nat) (fu : Nat) (c_n : Nat → Int32) (c_r : Nat → Int32) (c_g : Nat → Int32) (x3 : Int32) (x4 : Int32) (r : Int32) (hf : m_L_keeps fu c_n c_r c_g x3 x4 = some r) : Met l yL_keeps (zw (Cond.code yL_keeps cL_keeps 6 (some .boolean))) rm_L_keeps (va_Pc [.ref a_n, .ref a_r, .ref a_g, .int x3, .int x4] (zA D cI [(a_n, .inl (cI.1, 6, .inl c_n)), (a_r, .inl (cI.1, 20, .inl c_r)), (a_g, .inl (cI.1, 7, .inl c_g))] sz)) (zQi D (va_A [(a_n, .inl (cI.1, 6, .inl c_n)), (a_r, .inl (cI.1, 20, .inl c_r)), (a_g, .inl (cI.1, 7, .inl c_g))] sz) (fun v => v = r ∧ narrow .boolean (.int v) = .int v) (fun (u : Unit) => ([(a_n, .inl (cI.1, 6, .inl c_n)), (a_r, .inl (cI.1, 20, .inl c_r)), (a_g, .inl (cI.1, 7, .inl c_g))] : va_W))) 0 0 (va_A [(a_n, .inl (cI.1, 6, .inl c_n)), (a_r, .inl (cI.1, 20, .inl c_r)), (a_g, .inl (cI.1, 7, .inl c_g))] sz) := by
  unfold m_L_keeps at hf
  refine zhead (C := RL) (by decide +kernel) rfl ?_
  intro p e s m below meth c hx hb hr hlocks hml hown hnm hts hE hK H hP hS hD hA
  generalize va_A [(a_n, .inl (cI.1, 6, .inl c_n)), (a_r, .inl (cI.1, 20, .inl c_r)), (a_g, .inl (cI.1, 7, .inl c_g))] sz = A at hS hD hA ⊢
  have hl := lv_entry ([.ref a_n, .ref a_r, .ref a_g, .int x3, .int x4]) (n := 6) (Nat.le_of_ble_eq_true rfl)
  rw [lg_entry_eq]
  generalize (lg_sl ([.ref a_n, .ref a_r, .ref a_g, .int x3, .int x4]) ++ List.replicate (6 - (lg_sl ([.ref a_n, .ref a_r, .ref a_g, .int x3, .int x4])).length) Slot.unset).toArray = ls at hl ⊢
  have hl : lv_has ls 6 [(0, .ref a_n), (1, .ref a_r), (2, .ref a_g), (3, .int x3), (4, .int x4)] := hl

  have w_L3 : ∀ (n : Nat) (x5 : Int32), m_L_keeps_L3 fu x3 x4 c_n c_r c_g n x5 = some r → ∀ (H : Heap) (locs : List Loc), va_P D vwCl [(a_n, .inl (cI.1, 6, .inl c_n)), (a_r, .inl (cI.1, 20, .inl c_r)), (a_g, .inl (cI.1, 7, .inl c_g))] H → va_D A [(a_n, .inl (cI.1, 6, .inl c_n)), (a_r, .inl (cI.1, 20, .inl c_r)), (a_g, .inl (cI.1, 7, .inl c_g))] → va_S A s.heap H locs → ∀ ls : Array Slot, lv_has ls 6 [(0, .ref a_n), (1, .ref a_r), (2, .ref a_g), (3, .int x3), (4, .int x4), (5, .int x5)] → W p l e rm_L_keeps s m ([.ref a_n, .ref a_r, .ref a_g, .int x3, .int x4] : List Value).toArray below meth c H locs 0 0 (MQ below (zQi D A (fun v => v = r ∧ narrow .boolean (.int v) = .int v) (fun (u : Unit) => ([(a_n, .inl (cI.1, 6, .inl c_n)), (a_r, .inl (cI.1, 20, .inl c_r)), (a_g, .inl (cI.1, 7, .inl c_g))] : va_W))) ([.ref a_n, .ref a_r, .ref a_g, .int x3, .int x4] : List Value).toArray s 0 0 A) (F0 m 3 ls []) := by
    intro n_3
    induction n_3 with
    | zero => intro x5  hf; exact absurd hf (fun h => by cases h)
    | succ n_3 ih_3 =>
      intro x5  hf H locs hP hD hS ls hl
      replace hf : m_L_keeps_L3_b fu x3 x4 c_n c_r c_g  (m_L_keeps_L3 fu x3 x4 c_n c_r c_g n_3) x5 = some r := hf
      unfold m_L_keeps_L3_b at hf
      refine lv_iload hx hb dL_keeps_3 (lv_at hl 5 rfl) ?_
      refine lv_aload_n hx hb dL_keeps_5 rfl (lv_at hl 2 rfl) ?_
      refine lv_iconst (v := 1) hx hb dL_keeps_6 (by decide) ?_
      refine va_iald hx hb hK hP 2 0 (cA := cI.1) rfl rfl (show ¬ ((1 : Int32) < 0 ∨ 7 ≤ (1 : Int32).toNatClampNeg) by decide) dL_keeps_7 ?_
      refine lv_icmp_ge (tgt := 74) hx hb dL_keeps_8 (by decide) (fun c_1 => ?_) (fun c_1 => ?_)
      · replace hf := zit hf c_1
        refine lv_iconst (v := 1) hx hb dL_keeps_74 (by decide) ?_
        obtain rfl := Option.some.inj hf
        exact zret_i hx hb hr rfl ⟨rfl, rfl⟩ () hP hD hS [0, 1, 2] rfl (by decide) dL_keeps_75 hlocks
      · replace hf := zif hf c_1
        refine lv_iload_n hx hb dL_keeps_11 rfl (lv_at hl 3 rfl) ?_
        refine lv_iload hx hb dL_keeps_12 (lv_at hl 5 rfl) ?_
        refine lv_ishr hx hb dL_keeps_14 ?_
        refine lv_iconst (v := 1) hx hb dL_keeps_15 (by decide) ?_
        refine lv_iand hx hb dL_keeps_16 ?_
        refine lv_iconst (v := 1) hx hb dL_keeps_17 (by decide) ?_
        refine lv_icmp_ne (tgt := 68) hx hb dL_keeps_18 (by decide) (fun c_2 => ?_) (fun c_2 => ?_)
        · replace hf := zif hf c_2
          refine lv_iinc (v := x5 + 1) (lv' := [(5, .int (x5 + 1)), (0, .ref a_n), (1, .ref a_r), (2, .ref a_g), (3, .int x3), (4, .int x4)]) hx hb dL_keeps_68 hl (k := 5) rfl rfl (by decide) rfl (fun ls hl => ?_)
          refine lv_goto (tgt := 3) hx hb dL_keeps_71 (by decide) ?_
          exact ih_3 (x5 + 1)  hf _ _ (hP.sub [0, 1, 2] rfl) (hD.sub [0, 1, 2] (by decide) rfl) hS _ (lv_sub hl [1, 2, 3, 4, 5, 0] rfl)
        · replace hf := zit hf c_2
          refine lv_aload_n hx hb dL_keeps_21 rfl (lv_at hl 1 rfl) ?_
          refine lv_iload hx hb dL_keeps_22 (lv_at hl 5 rfl) ?_
          obtain ⟨b_3, hf⟩ := zib hf
          refine va_iald hx hb hK hP 1 0 (cA := cI.1) rfl rfl b_3 dL_keeps_24 ?_
          refine lv_aload_n hx hb dL_keeps_25 rfl (lv_at hl 0 rfl) ?_
          refine lv_aload_n hx hb dL_keeps_26 rfl (lv_at hl 2 rfl) ?_
          refine lv_iload hx hb dL_keeps_27 (lv_at hl 4 rfl) ?_
          refine lv_aload_n hx hb dL_keeps_29 rfl (lv_at hl 1 rfl) ?_
          refine lv_iload hx hb dL_keeps_30 (lv_at hl 5 rfl) ?_
          refine va_iald hx hb hK hP 1 0 (cA := cI.1) rfl rfl b_3 dL_keeps_32 ?_
          refine lv_sipush (v := 1000) hx hb dL_keeps_33 (by decide) ?_
          refine lv_idiv hx hb dL_keeps_36 (by decide) ?_
          refine lv_bipush (v := 10) hx hb dL_keeps_37 (by decide) ?_
          refine lv_irem hx hb dL_keeps_39 (by decide) ?_
          obtain ⟨u_4, e_4, hf⟩ := zbd hf
          refine zcall_i (wr := [(a_r, .inl (cI.1, 20, .inl c_r))]) (va_runS (As := [.ref a_n, .ref a_g, .int x4, .int (((c_r (x5).toNatClampNeg) / (1000 : Int32)) - ((c_r (x5).toNatClampNeg) / (1000 : Int32)) / (10 : Int32) * (10 : Int32))]) (rest := [.int (c_r (x5).toNatClampNeg)]) ⟨hx, hb, hml, hown, hts⟩ (c_L_digit l D cI H.size a_n a_g fu c_n c_g x4 (((c_r (x5).toNatClampNeg) / (1000 : Int32)) - ((c_r (x5).toNatClampNeg) / (1000 : Int32)) / (10 : Int32) * (10 : Int32)) u_4 e_4) (va_cwS 4 hts (zG_S kw_406 kw_407 kw_408 kw_405) rfl rfl rfl hd_L_digit ⟨Nat.le_of_ble_eq_true rfl, Nat.le_of_ble_eq_true rfl⟩) ⟨zblind, zpre hP hD hK hE [0, 2] rfl (by decide)⟩ rfl rfl hl.1 rfl (lv_room (Nat.le_of_ble_eq_true rfl)) dL_keeps_40 ⟨Nat.le_of_ble_eq_true rfl, Nat.le_of_ble_eq_true rfl⟩) hP hD hS hA [0, 2] [1] rfl rfl (by decide) (by decide) (fun r9 uu H locs hX9 hP hD hS => ?_)
          obtain rfl := hX9.symm
          have hP : va_P D vwCl [(a_r, .inl (cI.1, 20, .inl c_r)), (a_n, .inl (cI.1, 6, .inl c_n)), (a_g, .inl (cI.1, 7, .inl c_g))] H := hP
          have hD : va_D A [(a_r, .inl (cI.1, 20, .inl c_r)), (a_n, .inl (cI.1, 6, .inl c_n)), (a_g, .inl (cI.1, 7, .inl c_g))] := hD
          refine lv_aload_n hx hb dL_keeps_43 rfl (lv_at hl 0 rfl) ?_
          refine lv_aload_n hx hb dL_keeps_44 rfl (lv_at hl 2 rfl) ?_
          refine lv_iload hx hb dL_keeps_45 (lv_at hl 4 rfl) ?_
          refine lv_aload_n hx hb dL_keeps_47 rfl (lv_at hl 1 rfl) ?_
          refine lv_iload hx hb dL_keeps_48 (lv_at hl 5 rfl) ?_
          refine va_iald hx hb hK hP 0 0 (cA := cI.1) rfl rfl b_3 dL_keeps_50 ?_
          refine lv_bipush (v := 10) hx hb dL_keeps_51 (by decide) ?_
          refine lv_idiv hx hb dL_keeps_53 (by decide) ?_
          refine lv_bipush (v := 10) hx hb dL_keeps_54 (by decide) ?_
          refine lv_irem hx hb dL_keeps_56 (by decide) ?_
          obtain ⟨u_5, e_5, hf⟩ := zbd hf
          refine zcall_i (wr := [(a_r, .inl (cI.1, 20, .inl c_r))]) (va_runS (As := [.ref a_n, .ref a_g, .int x4, .int (((c_r (x5).toNatClampNeg) / (10 : Int32)) - ((c_r (x5).toNatClampNeg) / (10 : Int32)) / (10 : Int32) * (10 : Int32))]) (rest := [.int u_4, .int (c_r (x5).toNatClampNeg)]) ⟨hx, hb, hml, hown, hts⟩ (c_L_digit l D cI H.size a_n a_g fu c_n c_g x4 (((c_r (x5).toNatClampNeg) / (10 : Int32)) - ((c_r (x5).toNatClampNeg) / (10 : Int32)) / (10 : Int32) * (10 : Int32)) u_5 e_5) (va_cwS 4 hts (zG_S kw_406 kw_407 kw_408 kw_405) rfl rfl rfl hd_L_digit ⟨Nat.le_of_ble_eq_true rfl, Nat.le_of_ble_eq_true rfl⟩) ⟨zblind, zpre hP hD hK hE [1, 2] rfl (by decide)⟩ rfl rfl hl.1 rfl (lv_room (Nat.le_of_ble_eq_true rfl)) dL_keeps_57 ⟨Nat.le_of_ble_eq_true rfl, Nat.le_of_ble_eq_true rfl⟩) hP hD hS hA [1, 2] [0] rfl rfl (by decide) (by decide) (fun r9 uu H locs hX9 hP hD hS => ?_)
          obtain rfl := hX9.symm
          have hP : va_P D vwCl [(a_r, .inl (cI.1, 20, .inl c_r)), (a_n, .inl (cI.1, 6, .inl c_n)), (a_g, .inl (cI.1, 7, .inl c_g))] H := hP
          have hD : va_D A [(a_r, .inl (cI.1, 20, .inl c_r)), (a_n, .inl (cI.1, 6, .inl c_n)), (a_g, .inl (cI.1, 7, .inl c_g))] := hD
          obtain ⟨u_6, e_6, hf⟩ := zbd hf
          refine zcall_i (wr := [(a_r, .inl (cI.1, 20, .inl c_r)), (a_n, .inl (cI.1, 6, .inl c_n)), (a_g, .inl (cI.1, 7, .inl c_g))]) (va_runS (As := [.int (c_r (x5).toNatClampNeg), .int u_4, .int u_5]) (rest := []) ⟨hx, hb, hml, hown, hts⟩ (c_L_isKept l D cI H.size (c_r (x5).toNatClampNeg) u_4 u_5 u_6 e_6) (va_cwS 3 hts (zG_S kw_410 kw_411 kw_408 kw_409) rfl rfl rfl hd_L_isKept ⟨Nat.le_of_ble_eq_true rfl, Nat.le_of_ble_eq_true rfl⟩) ⟨zblind, zpre hP hD hK hE [] rfl (by decide)⟩ rfl rfl hl.1 rfl (lv_room (Nat.le_of_ble_eq_true rfl)) dL_keeps_60 ⟨Nat.le_of_ble_eq_true rfl, Nat.le_of_ble_eq_true rfl⟩) hP hD hS hA [] [0, 1, 2] rfl rfl (by decide) (by decide) (fun r9 uu H locs hX9 hP hD hS => ?_)
          obtain ⟨hX8, hb_6⟩ := hX9
          obtain rfl := hX8.symm
          have hP : va_P D vwCl [(a_r, .inl (cI.1, 20, .inl c_r)), (a_n, .inl (cI.1, 6, .inl c_n)), (a_g, .inl (cI.1, 7, .inl c_g))] H := hP
          have hD : va_D A [(a_r, .inl (cI.1, 20, .inl c_r)), (a_n, .inl (cI.1, 6, .inl c_n)), (a_g, .inl (cI.1, 7, .inl c_g))] := hD
          refine lv_if_ne (tgt := 68) hx hb dL_keeps_63 (by decide) (fun c_7 => ?_) (fun c_7 => ?_)
          · replace hf := zif hf c_7
            refine lv_iinc (v := x5 + 1) (lv' := [(5, .int (x5 + 1)), (0, .ref a_n), (1, .ref a_r), (2, .ref a_g), (3, .int x3), (4, .int x4)]) hx hb dL_keeps_68 hl (k := 5) rfl rfl (by decide) rfl (fun ls hl => ?_)
            refine lv_goto (tgt := 3) hx hb dL_keeps_71 (by decide) ?_
            exact ih_3 (x5 + 1)  hf _ _ (hP.sub [1, 0, 2] rfl) (hD.sub [1, 0, 2] (by decide) rfl) hS _ (lv_sub hl [1, 2, 3, 4, 5, 0] rfl)
          · replace hf := zit hf c_7
            refine lv_iconst (v := 0) hx hb dL_keeps_66 (by decide) ?_
            obtain rfl := Option.some.inj hf
            exact zret_i hx hb hr rfl ⟨rfl, rfl⟩ () hP hD hS [1, 0, 2] rfl (by decide) dL_keeps_67 hlocks
  refine lv_iconst (v := 0) hx hb dL_keeps_0 (by decide) ?_
  refine lv_istore (lv' := [(5, .int 0), (0, .ref a_n), (1, .ref a_r), (2, .ref a_g), (3, .int x3), (4, .int x4)]) hx hb dL_keeps_1 hl (by decide) rfl (fun ls hl => ?_)
  exact w_L3 fu (0 : Int32)  hf _ _ (hP.sub [0, 1, 2] rfl) (hD.sub [0, 1, 2] (by decide) rfl) hS _ (lv_sub hl [1, 2, 3, 4, 5, 0] rfl)
noncomputable def m_L_hasChoices_L3_b (fu : Nat) (x3 : Int32) (x4 : Int32) (c_n : Nat → Int32) (c_c : Nat → Int32) (c_g : Nat → Int32)  (k3 : Int32 → Option (Int32)) (x5 : Int32) : Option (Int32) :=
  if c_g ((0 : Int32)).toNatClampNeg ≤ x5 then some (1 : Int32) else if (x3 >>> (x5 &&& 31)) &&& (1 : Int32) = (1 : Int32) then if x5 < 0 ∨ 6 ≤ (x5).toNatClampNeg then none else if c_c (x5).toNatClampNeg ≤ (0 : Int32) then k3 (x5 + 1) else (m_L_digit fu c_n c_g x4 x5).bind fun u_5 => if u_5 = (c_c (x5).toNatClampNeg) - (1 : Int32) then k3 (x5 + 1) else some (0 : Int32) else k3 (x5 + 1)
noncomputable def m_L_hasChoices_L3 (fu : Nat) (x3 : Int32) (x4 : Int32) (c_n : Nat → Int32) (c_c : Nat → Int32) (c_g : Nat → Int32)  (n : Nat) : Int32 → Option (Int32) :=
  Nat.rec (motive := fun _ => Int32 → Option (Int32)) (fun _ => none) (fun _ ih => m_L_hasChoices_L3_b fu x3 x4 c_n c_c c_g  ih) n
noncomputable def m_L_hasChoices (fu : Nat) (c_n : Nat → Int32) (c_c : Nat → Int32) (c_g : Nat → Int32) (x3 : Int32) (x4 : Int32) : Option (Int32) :=
  m_L_hasChoices_L3 fu x3 x4 c_n c_c c_g fu (0 : Int32)
def rm_L_hasChoices : Room := { frames := 1, cells := 0, slots := 0, locals := 25 }
theorem hd_L_hasChoices : yL_hasChoices.cls ≠ "java/lang/invoke/MethodHandle" ∧ yL_hasChoices.cls ≠ "java/lang/invoke/VarHandle" ∧ (parseMethodDescriptor yL_hasChoices.desc).map (fun d => d.parameters.length) = some 5 := by decide +kernel
set_option maxHeartbeats 4000000 in
set_option maxRecDepth 100000 in
theorem c_L_hasChoices (l : Launch) (D : va_G) (cI : ClassId × ClassId) (sz : Nat) (a_n : Nat) (a_c : Nat) (a_g : Nat) (fu : Nat) (c_n : Nat → Int32) (c_c : Nat → Int32) (c_g : Nat → Int32) (x3 : Int32) (x4 : Int32) (r : Int32) (hf : m_L_hasChoices fu c_n c_c c_g x3 x4 = some r) : Met l yL_hasChoices (zw (Cond.code yL_hasChoices cL_hasChoices 6 (some .boolean))) rm_L_hasChoices (va_Pc [.ref a_n, .ref a_c, .ref a_g, .int x3, .int x4] (zA D cI [(a_n, .inl (cI.1, 6, .inl c_n)), (a_c, .inl (cI.1, 6, .inl c_c)), (a_g, .inl (cI.1, 7, .inl c_g))] sz)) (zQi D (va_A [(a_n, .inl (cI.1, 6, .inl c_n)), (a_c, .inl (cI.1, 6, .inl c_c)), (a_g, .inl (cI.1, 7, .inl c_g))] sz) (fun v => v = r ∧ narrow .boolean (.int v) = .int v) (fun (u : Unit) => ([(a_n, .inl (cI.1, 6, .inl c_n)), (a_c, .inl (cI.1, 6, .inl c_c)), (a_g, .inl (cI.1, 7, .inl c_g))] : va_W))) 0 0 (va_A [(a_n, .inl (cI.1, 6, .inl c_n)), (a_c, .inl (cI.1, 6, .inl c_c)), (a_g, .inl (cI.1, 7, .inl c_g))] sz) := by
  unfold m_L_hasChoices at hf
  refine zhead (C := RL) (by decide +kernel) rfl ?_
  intro p e s m below meth c hx hb hr hlocks hml hown hnm hts hE hK H hP hS hD hA
  generalize va_A [(a_n, .inl (cI.1, 6, .inl c_n)), (a_c, .inl (cI.1, 6, .inl c_c)), (a_g, .inl (cI.1, 7, .inl c_g))] sz = A at hS hD hA ⊢
  have hl := lv_entry ([.ref a_n, .ref a_c, .ref a_g, .int x3, .int x4]) (n := 6) (Nat.le_of_ble_eq_true rfl)
  rw [lg_entry_eq]
  generalize (lg_sl ([.ref a_n, .ref a_c, .ref a_g, .int x3, .int x4]) ++ List.replicate (6 - (lg_sl ([.ref a_n, .ref a_c, .ref a_g, .int x3, .int x4])).length) Slot.unset).toArray = ls at hl ⊢
  have hl : lv_has ls 6 [(0, .ref a_n), (1, .ref a_c), (2, .ref a_g), (3, .int x3), (4, .int x4)] := hl

  have w_L3 : ∀ (n : Nat) (x5 : Int32), m_L_hasChoices_L3 fu x3 x4 c_n c_c c_g n x5 = some r → ∀ (H : Heap) (locs : List Loc), va_P D vwCl [(a_n, .inl (cI.1, 6, .inl c_n)), (a_c, .inl (cI.1, 6, .inl c_c)), (a_g, .inl (cI.1, 7, .inl c_g))] H → va_D A [(a_n, .inl (cI.1, 6, .inl c_n)), (a_c, .inl (cI.1, 6, .inl c_c)), (a_g, .inl (cI.1, 7, .inl c_g))] → va_S A s.heap H locs → ∀ ls : Array Slot, lv_has ls 6 [(0, .ref a_n), (1, .ref a_c), (2, .ref a_g), (3, .int x3), (4, .int x4), (5, .int x5)] → W p l e rm_L_hasChoices s m ([.ref a_n, .ref a_c, .ref a_g, .int x3, .int x4] : List Value).toArray below meth c H locs 0 0 (MQ below (zQi D A (fun v => v = r ∧ narrow .boolean (.int v) = .int v) (fun (u : Unit) => ([(a_n, .inl (cI.1, 6, .inl c_n)), (a_c, .inl (cI.1, 6, .inl c_c)), (a_g, .inl (cI.1, 7, .inl c_g))] : va_W))) ([.ref a_n, .ref a_c, .ref a_g, .int x3, .int x4] : List Value).toArray s 0 0 A) (F0 m 3 ls []) := by
    intro n_3
    induction n_3 with
    | zero => intro x5  hf; exact absurd hf (fun h => by cases h)
    | succ n_3 ih_3 =>
      intro x5  hf H locs hP hD hS ls hl
      replace hf : m_L_hasChoices_L3_b fu x3 x4 c_n c_c c_g  (m_L_hasChoices_L3 fu x3 x4 c_n c_c c_g n_3) x5 = some r := hf
      unfold m_L_hasChoices_L3_b at hf
      refine lv_iload hx hb dL_hasChoices_3 (lv_at hl 5 rfl) ?_
      refine lv_aload_n hx hb dL_hasChoices_5 rfl (lv_at hl 2 rfl) ?_
      refine lv_iconst (v := 0) hx hb dL_hasChoices_6 (by decide) ?_
      refine va_iald hx hb hK hP 2 0 (cA := cI.1) rfl rfl (show ¬ ((0 : Int32) < 0 ∨ 7 ≤ (0 : Int32).toNatClampNeg) by decide) dL_hasChoices_7 ?_
      refine lv_icmp_ge (tgt := 54) hx hb dL_hasChoices_8 (by decide) (fun c_1 => ?_) (fun c_1 => ?_)
      · replace hf := zit hf c_1
        refine lv_iconst (v := 1) hx hb dL_hasChoices_54 (by decide) ?_
        obtain rfl := Option.some.inj hf
        exact zret_i hx hb hr rfl ⟨rfl, rfl⟩ () hP hD hS [0, 1, 2] rfl (by decide) dL_hasChoices_55 hlocks
      · replace hf := zif hf c_1
        refine lv_iload_n hx hb dL_hasChoices_11 rfl (lv_at hl 3 rfl) ?_
        refine lv_iload hx hb dL_hasChoices_12 (lv_at hl 5 rfl) ?_
        refine lv_ishr hx hb dL_hasChoices_14 ?_
        refine lv_iconst (v := 1) hx hb dL_hasChoices_15 (by decide) ?_
        refine lv_iand hx hb dL_hasChoices_16 ?_
        refine lv_iconst (v := 1) hx hb dL_hasChoices_17 (by decide) ?_
        refine lv_icmp_ne (tgt := 48) hx hb dL_hasChoices_18 (by decide) (fun c_2 => ?_) (fun c_2 => ?_)
        · replace hf := zif hf c_2
          refine lv_iinc (v := x5 + 1) (lv' := [(5, .int (x5 + 1)), (0, .ref a_n), (1, .ref a_c), (2, .ref a_g), (3, .int x3), (4, .int x4)]) hx hb dL_hasChoices_48 hl (k := 5) rfl rfl (by decide) rfl (fun ls hl => ?_)
          refine lv_goto (tgt := 3) hx hb dL_hasChoices_51 (by decide) ?_
          exact ih_3 (x5 + 1)  hf _ _ (hP.sub [0, 1, 2] rfl) (hD.sub [0, 1, 2] (by decide) rfl) hS _ (lv_sub hl [1, 2, 3, 4, 5, 0] rfl)
        · replace hf := zit hf c_2
          refine lv_aload_n hx hb dL_hasChoices_21 rfl (lv_at hl 1 rfl) ?_
          refine lv_iload hx hb dL_hasChoices_22 (lv_at hl 5 rfl) ?_
          obtain ⟨b_3, hf⟩ := zib hf
          refine va_iald hx hb hK hP 1 0 (cA := cI.1) rfl rfl b_3 dL_hasChoices_24 ?_
          refine lv_if_le (tgt := 48) hx hb dL_hasChoices_25 (by decide) (fun c_4 => ?_) (fun c_4 => ?_)
          · replace hf := zit hf c_4
            refine lv_iinc (v := x5 + 1) (lv' := [(5, .int (x5 + 1)), (0, .ref a_n), (1, .ref a_c), (2, .ref a_g), (3, .int x3), (4, .int x4)]) hx hb dL_hasChoices_48 hl (k := 5) rfl rfl (by decide) rfl (fun ls hl => ?_)
            refine lv_goto (tgt := 3) hx hb dL_hasChoices_51 (by decide) ?_
            exact ih_3 (x5 + 1)  hf _ _ (hP.sub [0, 1, 2] rfl) (hD.sub [0, 1, 2] (by decide) rfl) hS _ (lv_sub hl [1, 2, 3, 4, 5, 0] rfl)
          · replace hf := zif hf c_4
            refine lv_aload_n hx hb dL_hasChoices_28 rfl (lv_at hl 0 rfl) ?_
            refine lv_aload_n hx hb dL_hasChoices_29 rfl (lv_at hl 2 rfl) ?_
            refine lv_iload hx hb dL_hasChoices_30 (lv_at hl 4 rfl) ?_
            refine lv_iload hx hb dL_hasChoices_32 (lv_at hl 5 rfl) ?_
            obtain ⟨u_5, e_5, hf⟩ := zbd hf
            refine zcall_i (wr := [(a_c, .inl (cI.1, 6, .inl c_c))]) (va_runS (As := [.ref a_n, .ref a_g, .int x4, .int x5]) (rest := []) ⟨hx, hb, hml, hown, hts⟩ (c_L_digit l D cI H.size a_n a_g fu c_n c_g x4 x5 u_5 e_5) (va_cwS 4 hts (zG_S kw_406 kw_407 kw_408 kw_405) rfl rfl rfl hd_L_digit ⟨Nat.le_of_ble_eq_true rfl, Nat.le_of_ble_eq_true rfl⟩) ⟨zblind, zpre hP hD hK hE [0, 2] rfl (by decide)⟩ rfl rfl hl.1 rfl (lv_room (Nat.le_of_ble_eq_true rfl)) dL_hasChoices_34 ⟨Nat.le_of_ble_eq_true rfl, Nat.le_of_ble_eq_true rfl⟩) hP hD hS hA [0, 2] [1] rfl rfl (by decide) (by decide) (fun r9 uu H locs hX9 hP hD hS => ?_)
            obtain rfl := hX9.symm
            have hP : va_P D vwCl [(a_c, .inl (cI.1, 6, .inl c_c)), (a_n, .inl (cI.1, 6, .inl c_n)), (a_g, .inl (cI.1, 7, .inl c_g))] H := hP
            have hD : va_D A [(a_c, .inl (cI.1, 6, .inl c_c)), (a_n, .inl (cI.1, 6, .inl c_n)), (a_g, .inl (cI.1, 7, .inl c_g))] := hD
            refine lv_aload_n hx hb dL_hasChoices_37 rfl (lv_at hl 1 rfl) ?_
            refine lv_iload hx hb dL_hasChoices_38 (lv_at hl 5 rfl) ?_
            refine va_iald hx hb hK hP 0 0 (cA := cI.1) rfl rfl b_3 dL_hasChoices_40 ?_
            refine lv_iconst (v := 1) hx hb dL_hasChoices_41 (by decide) ?_
            refine lv_isub hx hb dL_hasChoices_42 ?_
            refine lv_icmp_eq (tgt := 48) hx hb dL_hasChoices_43 (by decide) (fun c_6 => ?_) (fun c_6 => ?_)
            · replace hf := zit hf c_6
              refine lv_iinc (v := x5 + 1) (lv' := [(5, .int (x5 + 1)), (0, .ref a_n), (1, .ref a_c), (2, .ref a_g), (3, .int x3), (4, .int x4)]) hx hb dL_hasChoices_48 hl (k := 5) rfl rfl (by decide) rfl (fun ls hl => ?_)
              refine lv_goto (tgt := 3) hx hb dL_hasChoices_51 (by decide) ?_
              exact ih_3 (x5 + 1)  hf _ _ (hP.sub [1, 0, 2] rfl) (hD.sub [1, 0, 2] (by decide) rfl) hS _ (lv_sub hl [1, 2, 3, 4, 5, 0] rfl)
            · replace hf := zif hf c_6
              refine lv_iconst (v := 0) hx hb dL_hasChoices_46 (by decide) ?_
              obtain rfl := Option.some.inj hf
              exact zret_i hx hb hr rfl ⟨rfl, rfl⟩ () hP hD hS [1, 0, 2] rfl (by decide) dL_hasChoices_47 hlocks
  refine lv_iconst (v := 0) hx hb dL_hasChoices_0 (by decide) ?_
  refine lv_istore (lv' := [(5, .int 0), (0, .ref a_n), (1, .ref a_c), (2, .ref a_g), (3, .int x3), (4, .int x4)]) hx hb dL_hasChoices_1 hl (by decide) rfl (fun ls hl => ?_)
  exact w_L3 fu (0 : Int32)  hf _ _ (hP.sub [0, 1, 2] rfl) (hD.sub [0, 1, 2] (by decide) rfl) hS _ (lv_sub hl [1, 2, 3, 4, 5, 0] rfl)
noncomputable def m_L_some_L4_b (fu : Nat) (x4 : Int32) (x5 : Int32) (x6 : Int32) (x7 : Int32) (x8 : Int32) (c_n : Nat → Int32) (c_r : Nat → Int32) (c_c : Nat → Int32) (c_g : Nat → Int32)  (k4 : Int32 → Option (Int32)) (x9 : Int32) : Option (Int32) :=
  if c_g ((6 : Int32)).toNatClampNeg ≤ x9 then some (-1 : Int32) else if x6 < (0 : Int32) then (m_L_hasChoices fu c_n c_c c_g x5 x9).bind fun u_3 => if u_3 = (0 : Int32) then k4 (x9 + 1) else (m_L_keeps fu c_n c_r c_g x4 x9).bind fun u_5 => if u_5 = (0 : Int32) then k4 (x9 + 1) else some x9 else (m_L_digit fu c_n c_g x9 x6).bind fun u_7 => if u_7 = x7 then (m_L_hasChoices fu c_n c_c c_g x5 x9).bind fun u_9 => if u_9 = (0 : Int32) then k4 (x9 + 1) else (m_L_keeps fu c_n c_r c_g x4 x9).bind fun u_11 => if u_11 = (0 : Int32) then k4 (x9 + 1) else some x9 else k4 (x9 + 1)
noncomputable def m_L_some_L4 (fu : Nat) (x4 : Int32) (x5 : Int32) (x6 : Int32) (x7 : Int32) (x8 : Int32) (c_n : Nat → Int32) (c_r : Nat → Int32) (c_c : Nat → Int32) (c_g : Nat → Int32)  (n : Nat) : Int32 → Option (Int32) :=
  Nat.rec (motive := fun _ => Int32 → Option (Int32)) (fun _ => none) (fun _ ih => m_L_some_L4_b fu x4 x5 x6 x7 x8 c_n c_r c_c c_g  ih) n
noncomputable def m_L_some (fu : Nat) (c_n : Nat → Int32) (c_r : Nat → Int32) (c_c : Nat → Int32) (c_g : Nat → Int32) (x4 : Int32) (x5 : Int32) (x6 : Int32) (x7 : Int32) (x8 : Int32) : Option (Int32) :=
  m_L_some_L4 fu x4 x5 x6 x7 x8 c_n c_r c_c c_g fu x8
def rm_L_some : Room := { frames := 2, cells := 0, slots := 0, locals := 50 }
theorem hd_L_some : yL_some.cls ≠ "java/lang/invoke/MethodHandle" ∧ yL_some.cls ≠ "java/lang/invoke/VarHandle" ∧ (parseMethodDescriptor yL_some.desc).map (fun d => d.parameters.length) = some 9 := by decide +kernel
set_option maxHeartbeats 4000000 in
set_option maxRecDepth 100000 in
theorem c_L_some (l : Launch) (D : va_G) (cI : ClassId × ClassId) (sz : Nat) (a_n : Nat) (a_r : Nat) (a_c : Nat) (a_g : Nat) (fu : Nat) (c_n : Nat → Int32) (c_r : Nat → Int32) (c_c : Nat → Int32) (c_g : Nat → Int32) (x4 : Int32) (x5 : Int32) (x6 : Int32) (x7 : Int32) (x8 : Int32) (r : Int32) (hf : m_L_some fu c_n c_r c_c c_g x4 x5 x6 x7 x8 = some r) : Met l yL_some (zw (Cond.code yL_some cL_some 10 (some .int))) rm_L_some (va_Pc [.ref a_n, .ref a_r, .ref a_c, .ref a_g, .int x4, .int x5, .int x6, .int x7, .int x8] (zA D cI [(a_n, .inl (cI.1, 6, .inl c_n)), (a_r, .inl (cI.1, 20, .inl c_r)), (a_c, .inl (cI.1, 6, .inl c_c)), (a_g, .inl (cI.1, 7, .inl c_g))] sz)) (zQi D (va_A [(a_n, .inl (cI.1, 6, .inl c_n)), (a_r, .inl (cI.1, 20, .inl c_r)), (a_c, .inl (cI.1, 6, .inl c_c)), (a_g, .inl (cI.1, 7, .inl c_g))] sz) (fun v => v = r) (fun (u : Unit) => ([(a_n, .inl (cI.1, 6, .inl c_n)), (a_r, .inl (cI.1, 20, .inl c_r)), (a_c, .inl (cI.1, 6, .inl c_c)), (a_g, .inl (cI.1, 7, .inl c_g))] : va_W))) 0 0 (va_A [(a_n, .inl (cI.1, 6, .inl c_n)), (a_r, .inl (cI.1, 20, .inl c_r)), (a_c, .inl (cI.1, 6, .inl c_c)), (a_g, .inl (cI.1, 7, .inl c_g))] sz) := by
  unfold m_L_some at hf
  refine zhead (C := RL) (by decide +kernel) rfl ?_
  intro p e s m below meth c hx hb hr hlocks hml hown hnm hts hE hK H hP hS hD hA
  generalize va_A [(a_n, .inl (cI.1, 6, .inl c_n)), (a_r, .inl (cI.1, 20, .inl c_r)), (a_c, .inl (cI.1, 6, .inl c_c)), (a_g, .inl (cI.1, 7, .inl c_g))] sz = A at hS hD hA ⊢
  have hl := lv_entry ([.ref a_n, .ref a_r, .ref a_c, .ref a_g, .int x4, .int x5, .int x6, .int x7, .int x8]) (n := 10) (Nat.le_of_ble_eq_true rfl)
  rw [lg_entry_eq]
  generalize (lg_sl ([.ref a_n, .ref a_r, .ref a_c, .ref a_g, .int x4, .int x5, .int x6, .int x7, .int x8]) ++ List.replicate (10 - (lg_sl ([.ref a_n, .ref a_r, .ref a_c, .ref a_g, .int x4, .int x5, .int x6, .int x7, .int x8])).length) Slot.unset).toArray = ls at hl ⊢
  have hl : lv_has ls 10 [(0, .ref a_n), (1, .ref a_r), (2, .ref a_c), (3, .ref a_g), (4, .int x4), (5, .int x5), (6, .int x6), (7, .int x7), (8, .int x8)] := hl

  have w_L4 : ∀ (n : Nat) (x9 : Int32), m_L_some_L4 fu x4 x5 x6 x7 x8 c_n c_r c_c c_g n x9 = some r → ∀ (H : Heap) (locs : List Loc), va_P D vwCl [(a_n, .inl (cI.1, 6, .inl c_n)), (a_r, .inl (cI.1, 20, .inl c_r)), (a_c, .inl (cI.1, 6, .inl c_c)), (a_g, .inl (cI.1, 7, .inl c_g))] H → va_D A [(a_n, .inl (cI.1, 6, .inl c_n)), (a_r, .inl (cI.1, 20, .inl c_r)), (a_c, .inl (cI.1, 6, .inl c_c)), (a_g, .inl (cI.1, 7, .inl c_g))] → va_S A s.heap H locs → ∀ ls : Array Slot, lv_has ls 10 [(0, .ref a_n), (1, .ref a_r), (2, .ref a_c), (3, .ref a_g), (4, .int x4), (5, .int x5), (6, .int x6), (7, .int x7), (8, .int x8), (9, .int x9)] → W p l e rm_L_some s m ([.ref a_n, .ref a_r, .ref a_c, .ref a_g, .int x4, .int x5, .int x6, .int x7, .int x8] : List Value).toArray below meth c H locs 0 0 (MQ below (zQi D A (fun v => v = r) (fun (u : Unit) => ([(a_n, .inl (cI.1, 6, .inl c_n)), (a_r, .inl (cI.1, 20, .inl c_r)), (a_c, .inl (cI.1, 6, .inl c_c)), (a_g, .inl (cI.1, 7, .inl c_g))] : va_W))) ([.ref a_n, .ref a_r, .ref a_c, .ref a_g, .int x4, .int x5, .int x6, .int x7, .int x8] : List Value).toArray s 0 0 A) (F0 m 4 ls []) := by
    intro n_4
    induction n_4 with
    | zero => intro x9  hf; exact absurd hf (fun h => by cases h)
    | succ n_4 ih_4 =>
      intro x9  hf H locs hP hD hS ls hl
      replace hf : m_L_some_L4_b fu x4 x5 x6 x7 x8 c_n c_r c_c c_g  (m_L_some_L4 fu x4 x5 x6 x7 x8 c_n c_r c_c c_g n_4) x9 = some r := hf
      unfold m_L_some_L4_b at hf
      refine lv_iload hx hb dL_some_4 (lv_at hl 9 rfl) ?_
      refine lv_aload_n hx hb dL_some_6 rfl (lv_at hl 3 rfl) ?_
      refine lv_bipush (v := 6) hx hb dL_some_7 (by decide) ?_
      refine va_iald hx hb hK hP 3 0 (cA := cI.1) rfl rfl (show ¬ ((6 : Int32) < 0 ∨ 7 ≤ (6 : Int32).toNatClampNeg) by decide) dL_some_9 ?_
      refine lv_icmp_ge (tgt := 67) hx hb dL_some_10 (by decide) (fun c_1 => ?_) (fun c_1 => ?_)
      · replace hf := zit hf c_1
        refine lv_iconst (v := -1) hx hb dL_some_67 (by decide) ?_
        obtain rfl := Option.some.inj hf
        exact zret_i hx hb hr rfl rfl () hP hD hS [0, 1, 2, 3] rfl (by decide) dL_some_68 hlocks
      · replace hf := zif hf c_1
        refine lv_iload hx hb dL_some_13 (lv_at hl 6 rfl) ?_
        refine lv_if_lt (tgt := 32) hx hb dL_some_15 (by decide) (fun c_2 => ?_) (fun c_2 => ?_)
        · replace hf := zit hf c_2
          refine lv_aload_n hx hb dL_some_32 rfl (lv_at hl 0 rfl) ?_
          refine lv_aload_n hx hb dL_some_33 rfl (lv_at hl 2 rfl) ?_
          refine lv_aload_n hx hb dL_some_34 rfl (lv_at hl 3 rfl) ?_
          refine lv_iload hx hb dL_some_35 (lv_at hl 5 rfl) ?_
          refine lv_iload hx hb dL_some_37 (lv_at hl 9 rfl) ?_
          obtain ⟨u_3, e_3, hf⟩ := zbd hf
          refine zcall_i (wr := [(a_r, .inl (cI.1, 20, .inl c_r))]) (va_runS (As := [.ref a_n, .ref a_c, .ref a_g, .int x5, .int x9]) (rest := []) ⟨hx, hb, hml, hown, hts⟩ (c_L_hasChoices l D cI H.size a_n a_c a_g fu c_n c_c c_g x5 x9 u_3 e_3) (va_cwS 5 hts (zG_S kw_413 kw_414 kw_408 kw_412) rfl rfl rfl hd_L_hasChoices ⟨Nat.le_of_ble_eq_true rfl, Nat.le_of_ble_eq_true rfl⟩) ⟨zblind, zpre hP hD hK hE [0, 2, 3] rfl (by decide)⟩ rfl rfl hl.1 rfl (lv_room (Nat.le_of_ble_eq_true rfl)) dL_some_39 ⟨Nat.le_of_ble_eq_true rfl, Nat.le_of_ble_eq_true rfl⟩) hP hD hS hA [0, 2, 3] [1] rfl rfl (by decide) (by decide) (fun r9 uu H locs hX9 hP hD hS => ?_)
          obtain ⟨hX8, hb_3⟩ := hX9
          obtain rfl := hX8.symm
          have hP : va_P D vwCl [(a_r, .inl (cI.1, 20, .inl c_r)), (a_n, .inl (cI.1, 6, .inl c_n)), (a_c, .inl (cI.1, 6, .inl c_c)), (a_g, .inl (cI.1, 7, .inl c_g))] H := hP
          have hD : va_D A [(a_r, .inl (cI.1, 20, .inl c_r)), (a_n, .inl (cI.1, 6, .inl c_n)), (a_c, .inl (cI.1, 6, .inl c_c)), (a_g, .inl (cI.1, 7, .inl c_g))] := hD
          refine lv_if_eq (tgt := 61) hx hb dL_some_42 (by decide) (fun c_4 => ?_) (fun c_4 => ?_)
          · replace hf := zit hf c_4
            refine lv_iinc (v := x9 + 1) (lv' := [(9, .int (x9 + 1)), (0, .ref a_n), (1, .ref a_r), (2, .ref a_c), (3, .ref a_g), (4, .int x4), (5, .int x5), (6, .int x6), (7, .int x7), (8, .int x8)]) hx hb dL_some_61 hl (k := 9) rfl rfl (by decide) rfl (fun ls hl => ?_)
            refine lv_goto (tgt := 4) hx hb dL_some_64 (by decide) ?_
            exact ih_4 (x9 + 1)  hf _ _ (hP.sub [1, 0, 2, 3] rfl) (hD.sub [1, 0, 2, 3] (by decide) rfl) hS _ (lv_sub hl [1, 2, 3, 4, 5, 6, 7, 8, 9, 0] rfl)
          · replace hf := zif hf c_4
            refine lv_aload_n hx hb dL_some_45 rfl (lv_at hl 0 rfl) ?_
            refine lv_aload_n hx hb dL_some_46 rfl (lv_at hl 1 rfl) ?_
            refine lv_aload_n hx hb dL_some_47 rfl (lv_at hl 3 rfl) ?_
            refine lv_iload hx hb dL_some_48 (lv_at hl 4 rfl) ?_
            refine lv_iload hx hb dL_some_50 (lv_at hl 9 rfl) ?_
            obtain ⟨u_5, e_5, hf⟩ := zbd hf
            refine zcall_i (wr := [(a_c, .inl (cI.1, 6, .inl c_c))]) (va_runS (As := [.ref a_n, .ref a_r, .ref a_g, .int x4, .int x9]) (rest := []) ⟨hx, hb, hml, hown, hts⟩ (c_L_keeps l D cI H.size a_n a_r a_g fu c_n c_r c_g x4 x9 u_5 e_5) (va_cwS 5 hts (zG_S kw_416 kw_417 kw_408 kw_415) rfl rfl rfl hd_L_keeps ⟨Nat.le_of_ble_eq_true rfl, Nat.le_of_ble_eq_true rfl⟩) ⟨zblind, zpre hP hD hK hE [1, 0, 3] rfl (by decide)⟩ rfl rfl hl.1 rfl (lv_room (Nat.le_of_ble_eq_true rfl)) dL_some_52 ⟨Nat.le_of_ble_eq_true rfl, Nat.le_of_ble_eq_true rfl⟩) hP hD hS hA [1, 0, 3] [2] rfl rfl (by decide) (by decide) (fun r9 uu H locs hX9 hP hD hS => ?_)
            obtain ⟨hX8, hb_5⟩ := hX9
            obtain rfl := hX8.symm
            have hP : va_P D vwCl [(a_c, .inl (cI.1, 6, .inl c_c)), (a_n, .inl (cI.1, 6, .inl c_n)), (a_r, .inl (cI.1, 20, .inl c_r)), (a_g, .inl (cI.1, 7, .inl c_g))] H := hP
            have hD : va_D A [(a_c, .inl (cI.1, 6, .inl c_c)), (a_n, .inl (cI.1, 6, .inl c_n)), (a_r, .inl (cI.1, 20, .inl c_r)), (a_g, .inl (cI.1, 7, .inl c_g))] := hD
            refine lv_if_eq (tgt := 61) hx hb dL_some_55 (by decide) (fun c_6 => ?_) (fun c_6 => ?_)
            · replace hf := zit hf c_6
              refine lv_iinc (v := x9 + 1) (lv' := [(9, .int (x9 + 1)), (0, .ref a_n), (1, .ref a_r), (2, .ref a_c), (3, .ref a_g), (4, .int x4), (5, .int x5), (6, .int x6), (7, .int x7), (8, .int x8)]) hx hb dL_some_61 hl (k := 9) rfl rfl (by decide) rfl (fun ls hl => ?_)
              refine lv_goto (tgt := 4) hx hb dL_some_64 (by decide) ?_
              exact ih_4 (x9 + 1)  hf _ _ (hP.sub [1, 2, 0, 3] rfl) (hD.sub [1, 2, 0, 3] (by decide) rfl) hS _ (lv_sub hl [1, 2, 3, 4, 5, 6, 7, 8, 9, 0] rfl)
            · replace hf := zif hf c_6
              refine lv_iload hx hb dL_some_58 (lv_at hl 9 rfl) ?_
              obtain rfl := Option.some.inj hf
              exact zret_i hx hb hr rfl rfl () hP hD hS [1, 2, 0, 3] rfl (by decide) dL_some_60 hlocks
        · replace hf := zif hf c_2
          refine lv_aload_n hx hb dL_some_18 rfl (lv_at hl 0 rfl) ?_
          refine lv_aload_n hx hb dL_some_19 rfl (lv_at hl 3 rfl) ?_
          refine lv_iload hx hb dL_some_20 (lv_at hl 9 rfl) ?_
          refine lv_iload hx hb dL_some_22 (lv_at hl 6 rfl) ?_
          obtain ⟨u_7, e_7, hf⟩ := zbd hf
          refine zcall_i (wr := [(a_r, .inl (cI.1, 20, .inl c_r)), (a_c, .inl (cI.1, 6, .inl c_c))]) (va_runS (As := [.ref a_n, .ref a_g, .int x9, .int x6]) (rest := []) ⟨hx, hb, hml, hown, hts⟩ (c_L_digit l D cI H.size a_n a_g fu c_n c_g x9 x6 u_7 e_7) (va_cwS 4 hts (zG_S kw_406 kw_407 kw_408 kw_405) rfl rfl rfl hd_L_digit ⟨Nat.le_of_ble_eq_true rfl, Nat.le_of_ble_eq_true rfl⟩) ⟨zblind, zpre hP hD hK hE [0, 3] rfl (by decide)⟩ rfl rfl hl.1 rfl (lv_room (Nat.le_of_ble_eq_true rfl)) dL_some_24 ⟨Nat.le_of_ble_eq_true rfl, Nat.le_of_ble_eq_true rfl⟩) hP hD hS hA [0, 3] [1, 2] rfl rfl (by decide) (by decide) (fun r9 uu H locs hX9 hP hD hS => ?_)
          obtain rfl := hX9.symm
          have hP : va_P D vwCl [(a_r, .inl (cI.1, 20, .inl c_r)), (a_c, .inl (cI.1, 6, .inl c_c)), (a_n, .inl (cI.1, 6, .inl c_n)), (a_g, .inl (cI.1, 7, .inl c_g))] H := hP
          have hD : va_D A [(a_r, .inl (cI.1, 20, .inl c_r)), (a_c, .inl (cI.1, 6, .inl c_c)), (a_n, .inl (cI.1, 6, .inl c_n)), (a_g, .inl (cI.1, 7, .inl c_g))] := hD
          refine lv_iload hx hb dL_some_27 (lv_at hl 7 rfl) ?_
          refine lv_icmp_ne (tgt := 61) hx hb dL_some_29 (by decide) (fun c_8 => ?_) (fun c_8 => ?_)
          · replace hf := zif hf c_8
            refine lv_iinc (v := x9 + 1) (lv' := [(9, .int (x9 + 1)), (0, .ref a_n), (1, .ref a_r), (2, .ref a_c), (3, .ref a_g), (4, .int x4), (5, .int x5), (6, .int x6), (7, .int x7), (8, .int x8)]) hx hb dL_some_61 hl (k := 9) rfl rfl (by decide) rfl (fun ls hl => ?_)
            refine lv_goto (tgt := 4) hx hb dL_some_64 (by decide) ?_
            exact ih_4 (x9 + 1)  hf _ _ (hP.sub [2, 0, 1, 3] rfl) (hD.sub [2, 0, 1, 3] (by decide) rfl) hS _ (lv_sub hl [1, 2, 3, 4, 5, 6, 7, 8, 9, 0] rfl)
          · replace hf := zit hf c_8
            refine lv_aload_n hx hb dL_some_32 rfl (lv_at hl 0 rfl) ?_
            refine lv_aload_n hx hb dL_some_33 rfl (lv_at hl 2 rfl) ?_
            refine lv_aload_n hx hb dL_some_34 rfl (lv_at hl 3 rfl) ?_
            refine lv_iload hx hb dL_some_35 (lv_at hl 5 rfl) ?_
            refine lv_iload hx hb dL_some_37 (lv_at hl 9 rfl) ?_
            obtain ⟨u_9, e_9, hf⟩ := zbd hf
            refine zcall_i (wr := [(a_r, .inl (cI.1, 20, .inl c_r))]) (va_runS (As := [.ref a_n, .ref a_c, .ref a_g, .int x5, .int x9]) (rest := []) ⟨hx, hb, hml, hown, hts⟩ (c_L_hasChoices l D cI H.size a_n a_c a_g fu c_n c_c c_g x5 x9 u_9 e_9) (va_cwS 5 hts (zG_S kw_413 kw_414 kw_408 kw_412) rfl rfl rfl hd_L_hasChoices ⟨Nat.le_of_ble_eq_true rfl, Nat.le_of_ble_eq_true rfl⟩) ⟨zblind, zpre hP hD hK hE [2, 1, 3] rfl (by decide)⟩ rfl rfl hl.1 rfl (lv_room (Nat.le_of_ble_eq_true rfl)) dL_some_39 ⟨Nat.le_of_ble_eq_true rfl, Nat.le_of_ble_eq_true rfl⟩) hP hD hS hA [2, 1, 3] [0] rfl rfl (by decide) (by decide) (fun r9 uu H locs hX9 hP hD hS => ?_)
            obtain ⟨hX8, hb_9⟩ := hX9
            obtain rfl := hX8.symm
            have hP : va_P D vwCl [(a_r, .inl (cI.1, 20, .inl c_r)), (a_n, .inl (cI.1, 6, .inl c_n)), (a_c, .inl (cI.1, 6, .inl c_c)), (a_g, .inl (cI.1, 7, .inl c_g))] H := hP
            have hD : va_D A [(a_r, .inl (cI.1, 20, .inl c_r)), (a_n, .inl (cI.1, 6, .inl c_n)), (a_c, .inl (cI.1, 6, .inl c_c)), (a_g, .inl (cI.1, 7, .inl c_g))] := hD
            refine lv_if_eq (tgt := 61) hx hb dL_some_42 (by decide) (fun c_10 => ?_) (fun c_10 => ?_)
            · replace hf := zit hf c_10
              refine lv_iinc (v := x9 + 1) (lv' := [(9, .int (x9 + 1)), (0, .ref a_n), (1, .ref a_r), (2, .ref a_c), (3, .ref a_g), (4, .int x4), (5, .int x5), (6, .int x6), (7, .int x7), (8, .int x8)]) hx hb dL_some_61 hl (k := 9) rfl rfl (by decide) rfl (fun ls hl => ?_)
              refine lv_goto (tgt := 4) hx hb dL_some_64 (by decide) ?_
              exact ih_4 (x9 + 1)  hf _ _ (hP.sub [1, 0, 2, 3] rfl) (hD.sub [1, 0, 2, 3] (by decide) rfl) hS _ (lv_sub hl [1, 2, 3, 4, 5, 6, 7, 8, 9, 0] rfl)
            · replace hf := zif hf c_10
              refine lv_aload_n hx hb dL_some_45 rfl (lv_at hl 0 rfl) ?_
              refine lv_aload_n hx hb dL_some_46 rfl (lv_at hl 1 rfl) ?_
              refine lv_aload_n hx hb dL_some_47 rfl (lv_at hl 3 rfl) ?_
              refine lv_iload hx hb dL_some_48 (lv_at hl 4 rfl) ?_
              refine lv_iload hx hb dL_some_50 (lv_at hl 9 rfl) ?_
              obtain ⟨u_11, e_11, hf⟩ := zbd hf
              refine zcall_i (wr := [(a_c, .inl (cI.1, 6, .inl c_c))]) (va_runS (As := [.ref a_n, .ref a_r, .ref a_g, .int x4, .int x9]) (rest := []) ⟨hx, hb, hml, hown, hts⟩ (c_L_keeps l D cI H.size a_n a_r a_g fu c_n c_r c_g x4 x9 u_11 e_11) (va_cwS 5 hts (zG_S kw_416 kw_417 kw_408 kw_415) rfl rfl rfl hd_L_keeps ⟨Nat.le_of_ble_eq_true rfl, Nat.le_of_ble_eq_true rfl⟩) ⟨zblind, zpre hP hD hK hE [1, 0, 3] rfl (by decide)⟩ rfl rfl hl.1 rfl (lv_room (Nat.le_of_ble_eq_true rfl)) dL_some_52 ⟨Nat.le_of_ble_eq_true rfl, Nat.le_of_ble_eq_true rfl⟩) hP hD hS hA [1, 0, 3] [2] rfl rfl (by decide) (by decide) (fun r9 uu H locs hX9 hP hD hS => ?_)
              obtain ⟨hX8, hb_11⟩ := hX9
              obtain rfl := hX8.symm
              have hP : va_P D vwCl [(a_c, .inl (cI.1, 6, .inl c_c)), (a_n, .inl (cI.1, 6, .inl c_n)), (a_r, .inl (cI.1, 20, .inl c_r)), (a_g, .inl (cI.1, 7, .inl c_g))] H := hP
              have hD : va_D A [(a_c, .inl (cI.1, 6, .inl c_c)), (a_n, .inl (cI.1, 6, .inl c_n)), (a_r, .inl (cI.1, 20, .inl c_r)), (a_g, .inl (cI.1, 7, .inl c_g))] := hD
              refine lv_if_eq (tgt := 61) hx hb dL_some_55 (by decide) (fun c_12 => ?_) (fun c_12 => ?_)
              · replace hf := zit hf c_12
                refine lv_iinc (v := x9 + 1) (lv' := [(9, .int (x9 + 1)), (0, .ref a_n), (1, .ref a_r), (2, .ref a_c), (3, .ref a_g), (4, .int x4), (5, .int x5), (6, .int x6), (7, .int x7), (8, .int x8)]) hx hb dL_some_61 hl (k := 9) rfl rfl (by decide) rfl (fun ls hl => ?_)
                refine lv_goto (tgt := 4) hx hb dL_some_64 (by decide) ?_
                exact ih_4 (x9 + 1)  hf _ _ (hP.sub [1, 2, 0, 3] rfl) (hD.sub [1, 2, 0, 3] (by decide) rfl) hS _ (lv_sub hl [1, 2, 3, 4, 5, 6, 7, 8, 9, 0] rfl)
              · replace hf := zif hf c_12
                refine lv_iload hx hb dL_some_58 (lv_at hl 9 rfl) ?_
                obtain rfl := Option.some.inj hf
                exact zret_i hx hb hr rfl rfl () hP hD hS [1, 2, 0, 3] rfl (by decide) dL_some_60 hlocks
  refine lv_iload hx hb dL_some_0 (lv_at hl 8 rfl) ?_
  refine lv_istore (lv' := [(9, .int x8), (0, .ref a_n), (1, .ref a_r), (2, .ref a_c), (3, .ref a_g), (4, .int x4), (5, .int x5), (6, .int x6), (7, .int x7), (8, .int x8)]) hx hb dL_some_2 hl (by decide) rfl (fun ls hl => ?_)
  exact w_L4 fu x8  hf _ _ (hP.sub [0, 1, 2, 3] rfl) (hD.sub [0, 1, 2, 3] (by decide) rfl) hS _ (lv_sub hl [1, 2, 3, 4, 5, 6, 7, 8, 9, 0] rfl)
noncomputable def m_L_isOffered (fu : Nat) (c_n : Nat → Int32) (c_r : Nat → Int32) (c_c : Nat → Int32) (c_g : Nat → Int32) (x4 : Int32) (x5 : Int32) : Option (Int32) :=
  (m_L_some fu c_n c_r c_c c_g (c_g ((2 : Int32)).toNatClampNeg) (63 : Int32) x4 x5 (0 : Int32)).bind fun u_1 => if u_1 < (0 : Int32) then some (0 : Int32) else some (1 : Int32)
def rm_L_isOffered : Room := { frames := 3, cells := 0, slots := 0, locals := 79 }
theorem hd_L_isOffered : yL_isOffered.cls ≠ "java/lang/invoke/MethodHandle" ∧ yL_isOffered.cls ≠ "java/lang/invoke/VarHandle" ∧ (parseMethodDescriptor yL_isOffered.desc).map (fun d => d.parameters.length) = some 6 := by decide +kernel
set_option maxHeartbeats 4000000 in
set_option maxRecDepth 100000 in
theorem c_L_isOffered (l : Launch) (D : va_G) (cI : ClassId × ClassId) (sz : Nat) (a_n : Nat) (a_r : Nat) (a_c : Nat) (a_g : Nat) (fu : Nat) (c_n : Nat → Int32) (c_r : Nat → Int32) (c_c : Nat → Int32) (c_g : Nat → Int32) (x4 : Int32) (x5 : Int32) (r : Int32) (hf : m_L_isOffered fu c_n c_r c_c c_g x4 x5 = some r) : Met l yL_isOffered (zw (Cond.code yL_isOffered cL_isOffered 6 (some .boolean))) rm_L_isOffered (va_Pc [.ref a_n, .ref a_r, .ref a_c, .ref a_g, .int x4, .int x5] (zA D cI [(a_n, .inl (cI.1, 6, .inl c_n)), (a_r, .inl (cI.1, 20, .inl c_r)), (a_c, .inl (cI.1, 6, .inl c_c)), (a_g, .inl (cI.1, 7, .inl c_g))] sz)) (zQi D (va_A [(a_n, .inl (cI.1, 6, .inl c_n)), (a_r, .inl (cI.1, 20, .inl c_r)), (a_c, .inl (cI.1, 6, .inl c_c)), (a_g, .inl (cI.1, 7, .inl c_g))] sz) (fun v => v = r ∧ narrow .boolean (.int v) = .int v) (fun (u : Unit) => ([(a_n, .inl (cI.1, 6, .inl c_n)), (a_r, .inl (cI.1, 20, .inl c_r)), (a_c, .inl (cI.1, 6, .inl c_c)), (a_g, .inl (cI.1, 7, .inl c_g))] : va_W))) 0 0 (va_A [(a_n, .inl (cI.1, 6, .inl c_n)), (a_r, .inl (cI.1, 20, .inl c_r)), (a_c, .inl (cI.1, 6, .inl c_c)), (a_g, .inl (cI.1, 7, .inl c_g))] sz) := by
  unfold m_L_isOffered at hf
  refine zhead (C := RL) (by decide +kernel) rfl ?_
  intro p e s m below meth c hx hb hr hlocks hml hown hnm hts hE hK H hP hS hD hA
  generalize va_A [(a_n, .inl (cI.1, 6, .inl c_n)), (a_r, .inl (cI.1, 20, .inl c_r)), (a_c, .inl (cI.1, 6, .inl c_c)), (a_g, .inl (cI.1, 7, .inl c_g))] sz = A at hS hD hA ⊢
  have hl := lv_entry ([.ref a_n, .ref a_r, .ref a_c, .ref a_g, .int x4, .int x5]) (n := 6) (Nat.le_of_ble_eq_true rfl)
  rw [lg_entry_eq]
  generalize (lg_sl ([.ref a_n, .ref a_r, .ref a_c, .ref a_g, .int x4, .int x5]) ++ List.replicate (6 - (lg_sl ([.ref a_n, .ref a_r, .ref a_c, .ref a_g, .int x4, .int x5])).length) Slot.unset).toArray = ls at hl ⊢
  have hl : lv_has ls 6 [(0, .ref a_n), (1, .ref a_r), (2, .ref a_c), (3, .ref a_g), (4, .int x4), (5, .int x5)] := hl

  refine lv_aload_n hx hb dL_isOffered_0 rfl (lv_at hl 0 rfl) ?_
  refine lv_aload_n hx hb dL_isOffered_1 rfl (lv_at hl 1 rfl) ?_
  refine lv_aload_n hx hb dL_isOffered_2 rfl (lv_at hl 2 rfl) ?_
  refine lv_aload_n hx hb dL_isOffered_3 rfl (lv_at hl 3 rfl) ?_
  refine lv_aload_n hx hb dL_isOffered_4 rfl (lv_at hl 3 rfl) ?_
  refine lv_iconst (v := 2) hx hb dL_isOffered_5 (by decide) ?_
  refine va_iald hx hb hK hP 3 0 (cA := cI.1) rfl rfl (show ¬ ((2 : Int32) < 0 ∨ 7 ≤ (2 : Int32).toNatClampNeg) by decide) dL_isOffered_6 ?_
  refine lv_bipush (v := 63) hx hb dL_isOffered_7 (by decide) ?_
  refine lv_iload hx hb dL_isOffered_9 (lv_at hl 4 rfl) ?_
  refine lv_iload hx hb dL_isOffered_11 (lv_at hl 5 rfl) ?_
  refine lv_iconst (v := 0) hx hb dL_isOffered_13 (by decide) ?_
  obtain ⟨u_1, e_1, hf⟩ := zbd hf
  refine zcall_i (wr := []) (va_runS (As := [.ref a_n, .ref a_r, .ref a_c, .ref a_g, .int (c_g ((2 : Int32)).toNatClampNeg), .int 63, .int x4, .int x5, .int 0]) (rest := []) ⟨hx, hb, hml, hown, hts⟩ (c_L_some l D cI H.size a_n a_r a_c a_g fu c_n c_r c_c c_g (c_g ((2 : Int32)).toNatClampNeg) (63 : Int32) x4 x5 (0 : Int32) u_1 e_1) (va_cwS 9 hts (zG_S kw_419 kw_420 kw_408 kw_418) rfl rfl rfl hd_L_some ⟨Nat.le_of_ble_eq_true rfl, Nat.le_of_ble_eq_true rfl⟩) ⟨zblind, zpre hP hD hK hE [0, 1, 2, 3] rfl (by decide)⟩ rfl rfl hl.1 rfl (lv_room (Nat.le_of_ble_eq_true rfl)) dL_isOffered_14 ⟨Nat.le_of_ble_eq_true rfl, Nat.le_of_ble_eq_true rfl⟩) hP hD hS hA [0, 1, 2, 3] [] rfl rfl (by decide) (by decide) (fun r9 uu H locs hX9 hP hD hS => ?_)
  obtain rfl := hX9.symm
  have hP : va_P D vwCl [(a_n, .inl (cI.1, 6, .inl c_n)), (a_r, .inl (cI.1, 20, .inl c_r)), (a_c, .inl (cI.1, 6, .inl c_c)), (a_g, .inl (cI.1, 7, .inl c_g))] H := hP
  have hD : va_D A [(a_n, .inl (cI.1, 6, .inl c_n)), (a_r, .inl (cI.1, 20, .inl c_r)), (a_c, .inl (cI.1, 6, .inl c_c)), (a_g, .inl (cI.1, 7, .inl c_g))] := hD
  refine lv_if_lt (tgt := 24) hx hb dL_isOffered_17 (by decide) (fun c_2 => ?_) (fun c_2 => ?_)
  · replace hf := zit hf c_2
    refine lv_iconst (v := 0) hx hb dL_isOffered_24 (by decide) ?_
    obtain rfl := Option.some.inj hf
    exact zret_i hx hb hr rfl ⟨rfl, rfl⟩ () hP hD hS [0, 1, 2, 3] rfl (by decide) dL_isOffered_25 hlocks
  · replace hf := zif hf c_2
    refine lv_iconst (v := 1) hx hb dL_isOffered_20 (by decide) ?_
    refine lv_goto (tgt := 25) hx hb dL_isOffered_21 (by decide) ?_
    obtain rfl := Option.some.inj hf
    exact zret_i hx hb hr rfl ⟨rfl, rfl⟩ () hP hD hS [0, 1, 2, 3] rfl (by decide) dL_isOffered_25 hlocks
noncomputable def m_L_chooses (c_q : Nat → Int32) (c_c : Nat → Int32) (c_g : Nat → Int32) (x3 : Int32) (x4 : Int32) : Option (Int32 × (Nat → Int32) × (Nat → Int32) × (Nat → Int32)) :=
  if x3 < 0 ∨ 6 ≤ (x3).toNatClampNeg then none else if c_g ((5 : Int32)).toNatClampNeg < 0 ∨ 6 ≤ (c_g ((5 : Int32)).toNatClampNeg).toNatClampNeg then none else some ((0 : Int32), upd c_q (c_g ((5 : Int32)).toNatClampNeg).toNatClampNeg x3, upd c_c (x3).toNatClampNeg (x4 + (1 : Int32)), upd c_g ((5 : Int32)).toNatClampNeg ((c_g ((5 : Int32)).toNatClampNeg) + (1 : Int32)))
def rm_L_chooses : Room := { frames := 0, cells := 0, slots := 0, locals := 0 }
theorem hd_L_chooses : yL_chooses.cls ≠ "java/lang/invoke/MethodHandle" ∧ yL_chooses.cls ≠ "java/lang/invoke/VarHandle" ∧ (parseMethodDescriptor yL_chooses.desc).map (fun d => d.parameters.length) = some 5 := by decide +kernel
set_option maxHeartbeats 4000000 in
set_option maxRecDepth 100000 in
theorem c_L_chooses (l : Launch) (D : va_G) (cI : ClassId × ClassId) (sz : Nat) (a_q : Nat) (a_c : Nat) (a_g : Nat) (c_q : Nat → Int32) (c_c : Nat → Int32) (c_g : Nat → Int32) (x3 : Int32) (x4 : Int32) (r : Int32 × (Nat → Int32) × (Nat → Int32) × (Nat → Int32)) (hf : m_L_chooses c_q c_c c_g x3 x4 = some r) : Met l yL_chooses (zw (Cond.code yL_chooses cL_chooses 5 none)) rm_L_chooses (va_Pc [.ref a_q, .ref a_c, .ref a_g, .int x3, .int x4] (zA D cI [(a_q, .inl (cI.1, 6, .inl c_q)), (a_c, .inl (cI.1, 6, .inl c_c)), (a_g, .inl (cI.1, 7, .inl c_g))] sz)) (zQv D (va_A [(a_q, .inl (cI.1, 6, .inl c_q)), (a_c, .inl (cI.1, 6, .inl c_c)), (a_g, .inl (cI.1, 7, .inl c_g))] sz) (True) (fun (u : Unit) => ([(a_q, .inl (cI.1, 6, .inl r.2.1)), (a_c, .inl (cI.1, 6, .inl r.2.2.1)), (a_g, .inl (cI.1, 7, .inl r.2.2.2))] : va_W))) 0 0 (va_A [(a_q, .inl (cI.1, 6, .inl c_q)), (a_c, .inl (cI.1, 6, .inl c_c)), (a_g, .inl (cI.1, 7, .inl c_g))] sz) := by
  unfold m_L_chooses at hf
  refine zhead (C := RL) (by decide +kernel) rfl ?_
  intro p e s m below meth c hx hb hr hlocks hml hown hnm hts hE hK H hP hS hD hA
  generalize va_A [(a_q, .inl (cI.1, 6, .inl c_q)), (a_c, .inl (cI.1, 6, .inl c_c)), (a_g, .inl (cI.1, 7, .inl c_g))] sz = A at hS hD hA ⊢
  have hl := lv_entry ([.ref a_q, .ref a_c, .ref a_g, .int x3, .int x4]) (n := 5) (Nat.le_of_ble_eq_true rfl)
  rw [lg_entry_eq]
  generalize (lg_sl ([.ref a_q, .ref a_c, .ref a_g, .int x3, .int x4]) ++ List.replicate (5 - (lg_sl ([.ref a_q, .ref a_c, .ref a_g, .int x3, .int x4])).length) Slot.unset).toArray = ls at hl ⊢
  have hl : lv_has ls 5 [(0, .ref a_q), (1, .ref a_c), (2, .ref a_g), (3, .int x3), (4, .int x4)] := hl

  refine lv_aload_n hx hb dL_chooses_0 rfl (lv_at hl 1 rfl) ?_
  refine lv_iload_n hx hb dL_chooses_1 rfl (lv_at hl 3 rfl) ?_
  refine lv_iload hx hb dL_chooses_2 (lv_at hl 4 rfl) ?_
  refine lv_iconst (v := 1) hx hb dL_chooses_4 (by decide) ?_
  refine lv_iadd hx hb dL_chooses_5 ?_
  obtain ⟨b_1, hf⟩ := zib hf
  refine va_iast hx hb hK hP hD hS 1 0 (cA := cI.1) rfl rfl b_1 dL_chooses_6 (fun H locs hP hD hS => ?_)
  have hP : va_P D vwCl [(a_q, .inl (cI.1, 6, .inl c_q)), (a_c, .inl (cI.1, 6, .inl (upd c_c (x3).toNatClampNeg (x4 + (1 : Int32))))), (a_g, .inl (cI.1, 7, .inl c_g))] H := hP
  have hD : va_D A [(a_q, .inl (cI.1, 6, .inl c_q)), (a_c, .inl (cI.1, 6, .inl (upd c_c (x3).toNatClampNeg (x4 + (1 : Int32))))), (a_g, .inl (cI.1, 7, .inl c_g))] := hD
  refine lv_aload_n hx hb dL_chooses_7 rfl (lv_at hl 0 rfl) ?_
  refine lv_aload_n hx hb dL_chooses_8 rfl (lv_at hl 2 rfl) ?_
  refine lv_iconst (v := 5) hx hb dL_chooses_9 (by decide) ?_
  refine va_iald hx hb hK hP 2 0 (cA := cI.1) rfl rfl (show ¬ ((5 : Int32) < 0 ∨ 7 ≤ (5 : Int32).toNatClampNeg) by decide) dL_chooses_10 ?_
  refine lv_iload_n hx hb dL_chooses_11 rfl (lv_at hl 3 rfl) ?_
  obtain ⟨b_2, hf⟩ := zib hf
  refine va_iast hx hb hK hP hD hS 0 0 (cA := cI.1) rfl rfl b_2 dL_chooses_12 (fun H locs hP hD hS => ?_)
  have hP : va_P D vwCl [(a_q, .inl (cI.1, 6, .inl (upd c_q (c_g ((5 : Int32)).toNatClampNeg).toNatClampNeg x3))), (a_c, .inl (cI.1, 6, .inl (upd c_c (x3).toNatClampNeg (x4 + (1 : Int32))))), (a_g, .inl (cI.1, 7, .inl c_g))] H := hP
  have hD : va_D A [(a_q, .inl (cI.1, 6, .inl (upd c_q (c_g ((5 : Int32)).toNatClampNeg).toNatClampNeg x3))), (a_c, .inl (cI.1, 6, .inl (upd c_c (x3).toNatClampNeg (x4 + (1 : Int32))))), (a_g, .inl (cI.1, 7, .inl c_g))] := hD
  refine lv_aload_n hx hb dL_chooses_13 rfl (lv_at hl 2 rfl) ?_
  refine lv_iconst (v := 5) hx hb dL_chooses_14 (by decide) ?_
  refine lv_dup2_11 hx hb dL_chooses_15 rfl rfl ?_
  refine va_iald hx hb hK hP 2 0 (cA := cI.1) rfl rfl (show ¬ ((5 : Int32) < 0 ∨ 7 ≤ (5 : Int32).toNatClampNeg) by decide) dL_chooses_16 ?_
  refine lv_iconst (v := 1) hx hb dL_chooses_17 (by decide) ?_
  refine lv_iadd hx hb dL_chooses_18 ?_
  refine va_iast hx hb hK hP hD hS 2 0 (cA := cI.1) rfl rfl (show ¬ ((5 : Int32) < 0 ∨ 7 ≤ (5 : Int32).toNatClampNeg) by decide) dL_chooses_19 (fun H locs hP hD hS => ?_)
  have hP : va_P D vwCl [(a_q, .inl (cI.1, 6, .inl (upd c_q (c_g ((5 : Int32)).toNatClampNeg).toNatClampNeg x3))), (a_c, .inl (cI.1, 6, .inl (upd c_c (x3).toNatClampNeg (x4 + (1 : Int32))))), (a_g, .inl (cI.1, 7, .inl (upd c_g ((5 : Int32)).toNatClampNeg ((c_g ((5 : Int32)).toNatClampNeg) + (1 : Int32)))))] H := hP
  have hD : va_D A [(a_q, .inl (cI.1, 6, .inl (upd c_q (c_g ((5 : Int32)).toNatClampNeg).toNatClampNeg x3))), (a_c, .inl (cI.1, 6, .inl (upd c_c (x3).toNatClampNeg (x4 + (1 : Int32))))), (a_g, .inl (cI.1, 7, .inl (upd c_g ((5 : Int32)).toNatClampNeg ((c_g ((5 : Int32)).toNatClampNeg) + (1 : Int32)))))] := hD
  obtain rfl := Option.some.inj hf
  exact zret_v hx hb hr trivial () hP hD hS [0, 1, 2] rfl (by decide) dL_chooses_20 hlocks
noncomputable def m_L_takesBack_L28_b (fu : Nat) (x3 : Int32)  (k28 : Int32 → Int32 → (Nat → Int32) → (Nat → Int32) → (Nat → Int32) → Option (Int32 × (Nat → Int32) × (Nat → Int32) × (Nat → Int32))) (x4 : Int32) (x5 : Int32) (c_q : Nat → Int32) (c_c : Nat → Int32) (c_g : Nat → Int32) : Option (Int32 × (Nat → Int32) × (Nat → Int32) × (Nat → Int32)) :=
  if c_g ((5 : Int32)).toNatClampNeg ≤ x5 then if x3 < 0 ∨ 6 ≤ (x3).toNatClampNeg then none else some ((0 : Int32), c_q, upd c_c (x3).toNatClampNeg (0 : Int32), c_g) else if x5 + (1 : Int32) < 0 ∨ 6 ≤ (x5 + (1 : Int32)).toNatClampNeg then none else if x5 < 0 ∨ 6 ≤ (x5).toNatClampNeg then none else k28 x4 (x5 + 1) (upd c_q (x5).toNatClampNeg (c_q (x5 + (1 : Int32)).toNatClampNeg)) c_c c_g
noncomputable def m_L_takesBack_L28 (fu : Nat) (x3 : Int32)  (n : Nat) : Int32 → Int32 → (Nat → Int32) → (Nat → Int32) → (Nat → Int32) → Option (Int32 × (Nat → Int32) × (Nat → Int32) × (Nat → Int32)) :=
  Nat.rec (motive := fun _ => Int32 → Int32 → (Nat → Int32) → (Nat → Int32) → (Nat → Int32) → Option (Int32 × (Nat → Int32) × (Nat → Int32) × (Nat → Int32))) (fun _ _ _ _ _ => none) (fun _ ih => m_L_takesBack_L28_b fu x3  ih) n
noncomputable def m_L_takesBack_L3_b (fu : Nat) (x3 : Int32)  (k3 : Int32 → (Nat → Int32) → (Nat → Int32) → (Nat → Int32) → Option (Int32 × (Nat → Int32) × (Nat → Int32) × (Nat → Int32))) (x4 : Int32) (c_q : Nat → Int32) (c_c : Nat → Int32) (c_g : Nat → Int32) : Option (Int32 × (Nat → Int32) × (Nat → Int32) × (Nat → Int32)) :=
  if x4 < 0 ∨ 6 ≤ (x4).toNatClampNeg then none else if c_q (x4).toNatClampNeg = x3 then m_L_takesBack_L28 fu x3 fu x4 x4 c_q c_c (upd c_g ((5 : Int32)).toNatClampNeg ((c_g ((5 : Int32)).toNatClampNeg) - (1 : Int32))) else k3 (x4 + 1) c_q c_c c_g
noncomputable def m_L_takesBack_L3 (fu : Nat) (x3 : Int32)  (n : Nat) : Int32 → (Nat → Int32) → (Nat → Int32) → (Nat → Int32) → Option (Int32 × (Nat → Int32) × (Nat → Int32) × (Nat → Int32)) :=
  Nat.rec (motive := fun _ => Int32 → (Nat → Int32) → (Nat → Int32) → (Nat → Int32) → Option (Int32 × (Nat → Int32) × (Nat → Int32) × (Nat → Int32))) (fun _ _ _ _ => none) (fun _ ih => m_L_takesBack_L3_b fu x3  ih) n
noncomputable def m_L_takesBack (fu : Nat) (c_q : Nat → Int32) (c_c : Nat → Int32) (c_g : Nat → Int32) (x3 : Int32) : Option (Int32 × (Nat → Int32) × (Nat → Int32) × (Nat → Int32)) :=
  m_L_takesBack_L3 fu x3 fu (0 : Int32) c_q c_c c_g
def rm_L_takesBack : Room := { frames := 0, cells := 0, slots := 0, locals := 0 }
theorem hd_L_takesBack : yL_takesBack.cls ≠ "java/lang/invoke/MethodHandle" ∧ yL_takesBack.cls ≠ "java/lang/invoke/VarHandle" ∧ (parseMethodDescriptor yL_takesBack.desc).map (fun d => d.parameters.length) = some 4 := by decide +kernel
set_option maxHeartbeats 4000000 in
set_option maxRecDepth 100000 in
theorem c_L_takesBack (l : Launch) (D : va_G) (cI : ClassId × ClassId) (sz : Nat) (a_q : Nat) (a_c : Nat) (a_g : Nat) (fu : Nat) (c_q : Nat → Int32) (c_c : Nat → Int32) (c_g : Nat → Int32) (x3 : Int32) (r : Int32 × (Nat → Int32) × (Nat → Int32) × (Nat → Int32)) (hf : m_L_takesBack fu c_q c_c c_g x3 = some r) : Met l yL_takesBack (zw (Cond.code yL_takesBack cL_takesBack 6 none)) rm_L_takesBack (va_Pc [.ref a_q, .ref a_c, .ref a_g, .int x3] (zA D cI [(a_q, .inl (cI.1, 6, .inl c_q)), (a_c, .inl (cI.1, 6, .inl c_c)), (a_g, .inl (cI.1, 7, .inl c_g))] sz)) (zQv D (va_A [(a_q, .inl (cI.1, 6, .inl c_q)), (a_c, .inl (cI.1, 6, .inl c_c)), (a_g, .inl (cI.1, 7, .inl c_g))] sz) (True) (fun (u : Unit) => ([(a_q, .inl (cI.1, 6, .inl r.2.1)), (a_c, .inl (cI.1, 6, .inl r.2.2.1)), (a_g, .inl (cI.1, 7, .inl r.2.2.2))] : va_W))) 0 0 (va_A [(a_q, .inl (cI.1, 6, .inl c_q)), (a_c, .inl (cI.1, 6, .inl c_c)), (a_g, .inl (cI.1, 7, .inl c_g))] sz) := by
  unfold m_L_takesBack at hf
  refine zhead (C := RL) (by decide +kernel) rfl ?_
  intro p e s m below meth c hx hb hr hlocks hml hown hnm hts hE hK H hP hS hD hA
  generalize va_A [(a_q, .inl (cI.1, 6, .inl c_q)), (a_c, .inl (cI.1, 6, .inl c_c)), (a_g, .inl (cI.1, 7, .inl c_g))] sz = A at hS hD hA ⊢
  have hl := lv_entry ([.ref a_q, .ref a_c, .ref a_g, .int x3]) (n := 6) (Nat.le_of_ble_eq_true rfl)
  rw [lg_entry_eq]
  generalize (lg_sl ([.ref a_q, .ref a_c, .ref a_g, .int x3]) ++ List.replicate (6 - (lg_sl ([.ref a_q, .ref a_c, .ref a_g, .int x3])).length) Slot.unset).toArray = ls at hl ⊢
  have hl : lv_has ls 6 [(0, .ref a_q), (1, .ref a_c), (2, .ref a_g), (3, .int x3)] := hl

  have w_L28 : ∀ (n : Nat) (x4 : Int32) (x5 : Int32) (c_q : Nat → Int32) (c_c : Nat → Int32) (c_g : Nat → Int32), m_L_takesBack_L28 fu x3 n x4 x5 c_q c_c c_g = some r → ∀ (H : Heap) (locs : List Loc), va_P D vwCl [(a_q, .inl (cI.1, 6, .inl c_q)), (a_c, .inl (cI.1, 6, .inl c_c)), (a_g, .inl (cI.1, 7, .inl c_g))] H → va_D A [(a_q, .inl (cI.1, 6, .inl c_q)), (a_c, .inl (cI.1, 6, .inl c_c)), (a_g, .inl (cI.1, 7, .inl c_g))] → va_S A s.heap H locs → ∀ ls : Array Slot, lv_has ls 6 [(0, .ref a_q), (1, .ref a_c), (2, .ref a_g), (3, .int x3), (4, .int x4), (5, .int x5)] → W p l e rm_L_takesBack s m ([.ref a_q, .ref a_c, .ref a_g, .int x3] : List Value).toArray below meth c H locs 0 0 (MQ below (zQv D A (True) (fun (u : Unit) => ([(a_q, .inl (cI.1, 6, .inl r.2.1)), (a_c, .inl (cI.1, 6, .inl r.2.2.1)), (a_g, .inl (cI.1, 7, .inl r.2.2.2))] : va_W))) ([.ref a_q, .ref a_c, .ref a_g, .int x3] : List Value).toArray s 0 0 A) (F0 m 28 ls []) := by
    intro n_28
    induction n_28 with
    | zero => intro x4 x5 c_q c_c c_g  hf; exact absurd hf (fun h => by cases h)
    | succ n_28 ih_28 =>
      intro x4 x5 c_q c_c c_g  hf H locs hP hD hS ls hl
      replace hf : m_L_takesBack_L28_b fu x3  (m_L_takesBack_L28 fu x3 n_28) x4 x5 c_q c_c c_g = some r := hf
      unfold m_L_takesBack_L28_b at hf
      refine lv_iload hx hb dL_takesBack_28 (lv_at hl 5 rfl) ?_
      refine lv_aload_n hx hb dL_takesBack_30 rfl (lv_at hl 2 rfl) ?_
      refine lv_iconst (v := 5) hx hb dL_takesBack_31 (by decide) ?_
      refine va_iald hx hb hK hP 2 0 (cA := cI.1) rfl rfl (show ¬ ((5 : Int32) < 0 ∨ 7 ≤ (5 : Int32).toNatClampNeg) by decide) dL_takesBack_32 ?_
      refine lv_icmp_ge (tgt := 52) hx hb dL_takesBack_33 (by decide) (fun c_3 => ?_) (fun c_3 => ?_)
      · replace hf := zit hf c_3
        refine lv_aload_n hx hb dL_takesBack_52 rfl (lv_at hl 1 rfl) ?_
        refine lv_iload_n hx hb dL_takesBack_53 rfl (lv_at hl 3 rfl) ?_
        refine lv_iconst (v := 0) hx hb dL_takesBack_54 (by decide) ?_
        obtain ⟨b_4, hf⟩ := zib hf
        refine va_iast hx hb hK hP hD hS 1 0 (cA := cI.1) rfl rfl b_4 dL_takesBack_55 (fun H locs hP hD hS => ?_)
        have hP : va_P D vwCl [(a_q, .inl (cI.1, 6, .inl c_q)), (a_c, .inl (cI.1, 6, .inl (upd c_c (x3).toNatClampNeg (0 : Int32)))), (a_g, .inl (cI.1, 7, .inl c_g))] H := hP
        have hD : va_D A [(a_q, .inl (cI.1, 6, .inl c_q)), (a_c, .inl (cI.1, 6, .inl (upd c_c (x3).toNatClampNeg (0 : Int32)))), (a_g, .inl (cI.1, 7, .inl c_g))] := hD
        obtain rfl := Option.some.inj hf
        exact zret_v hx hb hr trivial () hP hD hS [0, 1, 2] rfl (by decide) dL_takesBack_56 hlocks
      · replace hf := zif hf c_3
        refine lv_aload_n hx hb dL_takesBack_36 rfl (lv_at hl 0 rfl) ?_
        refine lv_iload hx hb dL_takesBack_37 (lv_at hl 5 rfl) ?_
        refine lv_aload_n hx hb dL_takesBack_39 rfl (lv_at hl 0 rfl) ?_
        refine lv_iload hx hb dL_takesBack_40 (lv_at hl 5 rfl) ?_
        refine lv_iconst (v := 1) hx hb dL_takesBack_42 (by decide) ?_
        refine lv_iadd hx hb dL_takesBack_43 ?_
        obtain ⟨b_5, hf⟩ := zib hf
        refine va_iald hx hb hK hP 0 0 (cA := cI.1) rfl rfl b_5 dL_takesBack_44 ?_
        obtain ⟨b_6, hf⟩ := zib hf
        refine va_iast hx hb hK hP hD hS 0 0 (cA := cI.1) rfl rfl b_6 dL_takesBack_45 (fun H locs hP hD hS => ?_)
        have hP : va_P D vwCl [(a_q, .inl (cI.1, 6, .inl (upd c_q (x5).toNatClampNeg (c_q (x5 + (1 : Int32)).toNatClampNeg)))), (a_c, .inl (cI.1, 6, .inl c_c)), (a_g, .inl (cI.1, 7, .inl c_g))] H := hP
        have hD : va_D A [(a_q, .inl (cI.1, 6, .inl (upd c_q (x5).toNatClampNeg (c_q (x5 + (1 : Int32)).toNatClampNeg)))), (a_c, .inl (cI.1, 6, .inl c_c)), (a_g, .inl (cI.1, 7, .inl c_g))] := hD
        refine lv_iinc (v := x5 + 1) (lv' := [(5, .int (x5 + 1)), (0, .ref a_q), (1, .ref a_c), (2, .ref a_g), (3, .int x3), (4, .int x4)]) hx hb dL_takesBack_46 hl (k := 5) rfl rfl (by decide) rfl (fun ls hl => ?_)
        refine lv_goto (tgt := 28) hx hb dL_takesBack_49 (by decide) ?_
        exact ih_28 x4 (x5 + 1) (upd c_q (x5).toNatClampNeg (c_q (x5 + (1 : Int32)).toNatClampNeg)) c_c c_g  hf _ _ (hP.sub [0, 1, 2] rfl) (hD.sub [0, 1, 2] (by decide) rfl) hS _ (lv_sub hl [1, 2, 3, 4, 5, 0] rfl)
  have w_L3 : ∀ (n : Nat) (x4 : Int32) (c_q : Nat → Int32) (c_c : Nat → Int32) (c_g : Nat → Int32), m_L_takesBack_L3 fu x3 n x4 c_q c_c c_g = some r → ∀ (H : Heap) (locs : List Loc), va_P D vwCl [(a_q, .inl (cI.1, 6, .inl c_q)), (a_c, .inl (cI.1, 6, .inl c_c)), (a_g, .inl (cI.1, 7, .inl c_g))] H → va_D A [(a_q, .inl (cI.1, 6, .inl c_q)), (a_c, .inl (cI.1, 6, .inl c_c)), (a_g, .inl (cI.1, 7, .inl c_g))] → va_S A s.heap H locs → ∀ ls : Array Slot, lv_has ls 6 [(0, .ref a_q), (1, .ref a_c), (2, .ref a_g), (3, .int x3), (4, .int x4)] → W p l e rm_L_takesBack s m ([.ref a_q, .ref a_c, .ref a_g, .int x3] : List Value).toArray below meth c H locs 0 0 (MQ below (zQv D A (True) (fun (u : Unit) => ([(a_q, .inl (cI.1, 6, .inl r.2.1)), (a_c, .inl (cI.1, 6, .inl r.2.2.1)), (a_g, .inl (cI.1, 7, .inl r.2.2.2))] : va_W))) ([.ref a_q, .ref a_c, .ref a_g, .int x3] : List Value).toArray s 0 0 A) (F0 m 3 ls []) := by
    intro n_3
    induction n_3 with
    | zero => intro x4 c_q c_c c_g  hf; exact absurd hf (fun h => by cases h)
    | succ n_3 ih_3 =>
      intro x4 c_q c_c c_g  hf H locs hP hD hS ls hl
      replace hf : m_L_takesBack_L3_b fu x3  (m_L_takesBack_L3 fu x3 n_3) x4 c_q c_c c_g = some r := hf
      unfold m_L_takesBack_L3_b at hf
      refine lv_aload_n hx hb dL_takesBack_3 rfl (lv_at hl 0 rfl) ?_
      refine lv_iload hx hb dL_takesBack_4 (lv_at hl 4 rfl) ?_
      obtain ⟨b_1, hf⟩ := zib hf
      refine va_iald hx hb hK hP 0 0 (cA := cI.1) rfl rfl b_1 dL_takesBack_6 ?_
      refine lv_iload_n hx hb dL_takesBack_7 rfl (lv_at hl 3 rfl) ?_
      refine lv_icmp_eq (tgt := 17) hx hb dL_takesBack_8 (by decide) (fun c_2 => ?_) (fun c_2 => ?_)
      · replace hf := zit hf c_2
        refine lv_aload_n hx hb dL_takesBack_17 rfl (lv_at hl 2 rfl) ?_
        refine lv_iconst (v := 5) hx hb dL_takesBack_18 (by decide) ?_
        refine lv_dup2_11 hx hb dL_takesBack_19 rfl rfl ?_
        refine va_iald hx hb hK hP 2 0 (cA := cI.1) rfl rfl (show ¬ ((5 : Int32) < 0 ∨ 7 ≤ (5 : Int32).toNatClampNeg) by decide) dL_takesBack_20 ?_
        refine lv_iconst (v := 1) hx hb dL_takesBack_21 (by decide) ?_
        refine lv_isub hx hb dL_takesBack_22 ?_
        refine va_iast hx hb hK hP hD hS 2 0 (cA := cI.1) rfl rfl (show ¬ ((5 : Int32) < 0 ∨ 7 ≤ (5 : Int32).toNatClampNeg) by decide) dL_takesBack_23 (fun H locs hP hD hS => ?_)
        have hP : va_P D vwCl [(a_q, .inl (cI.1, 6, .inl c_q)), (a_c, .inl (cI.1, 6, .inl c_c)), (a_g, .inl (cI.1, 7, .inl (upd c_g ((5 : Int32)).toNatClampNeg ((c_g ((5 : Int32)).toNatClampNeg) - (1 : Int32)))))] H := hP
        have hD : va_D A [(a_q, .inl (cI.1, 6, .inl c_q)), (a_c, .inl (cI.1, 6, .inl c_c)), (a_g, .inl (cI.1, 7, .inl (upd c_g ((5 : Int32)).toNatClampNeg ((c_g ((5 : Int32)).toNatClampNeg) - (1 : Int32)))))] := hD
        refine lv_iload hx hb dL_takesBack_24 (lv_at hl 4 rfl) ?_
        refine lv_istore (lv' := [(5, .int x4), (0, .ref a_q), (1, .ref a_c), (2, .ref a_g), (3, .int x3), (4, .int x4)]) hx hb dL_takesBack_26 hl (by decide) rfl (fun ls hl => ?_)
        exact w_L28 fu x4 x4 c_q c_c (upd c_g ((5 : Int32)).toNatClampNeg ((c_g ((5 : Int32)).toNatClampNeg) - (1 : Int32)))  hf _ _ (hP.sub [0, 1, 2] rfl) (hD.sub [0, 1, 2] (by decide) rfl) hS _ (lv_sub hl [1, 2, 3, 4, 5, 0] rfl)
      · replace hf := zif hf c_2
        refine lv_iinc (v := x4 + 1) (lv' := [(4, .int (x4 + 1)), (0, .ref a_q), (1, .ref a_c), (2, .ref a_g), (3, .int x3)]) hx hb dL_takesBack_11 hl (k := 4) rfl rfl (by decide) rfl (fun ls hl => ?_)
        refine lv_goto (tgt := 3) hx hb dL_takesBack_14 (by decide) ?_
        exact ih_3 (x4 + 1) c_q c_c c_g  hf _ _ (hP.sub [0, 1, 2] rfl) (hD.sub [0, 1, 2] (by decide) rfl) hS _ (lv_sub hl [1, 2, 3, 4, 0] rfl)
  refine lv_iconst (v := 0) hx hb dL_takesBack_0 (by decide) ?_
  refine lv_istore (lv' := [(4, .int 0), (0, .ref a_q), (1, .ref a_c), (2, .ref a_g), (3, .int x3)]) hx hb dL_takesBack_1 hl (by decide) rfl (fun ls hl => ?_)
  exact w_L3 fu (0 : Int32) c_q c_c c_g  hf _ _ (hP.sub [0, 1, 2] rfl) (hD.sub [0, 1, 2] (by decide) rfl) hS _ (lv_sub hl [1, 2, 3, 4, 0] rfl)
noncomputable def m_L_explain_L156_b (fu : Nat) (x5 : Int32) (x6 : Int32) (c_n : Nat → Int32) (c_r : Nat → Int32) (c_q : Nat → Int32) (c_c : Nat → Int32) (c_g : Nat → Int32)  (k156 : Int32 → Int32 → Int32 → Option (Int32)) (x7 : Int32) (x8 : Int32) (x9 : Int32) : Option (Int32) :=
  if x9 < (0 : Int32) then some (((64 : Int32) * x7) + x8) else if x9 < 0 ∨ 6 ≤ (x9).toNatClampNeg then none else if (x8 >>> ((c_q (x9).toNatClampNeg) &&& 31)) &&& (1 : Int32) = (1 : Int32) then (m_L_some fu c_n c_r c_c c_g x7 (x8 ^^^ ((1 : Int32) <<< ((c_q (x9).toNatClampNeg) &&& 31))) x5 x6 (0 : Int32)).bind fun u_13 => if (0 : Int32) ≤ u_13 then k156 x7 x8 (x9 + (-1)) else k156 x7 (x8 ^^^ ((1 : Int32) <<< ((c_q (x9).toNatClampNeg) &&& 31))) (x9 + (-1)) else k156 x7 x8 (x9 + (-1))
noncomputable def m_L_explain_L156 (fu : Nat) (x5 : Int32) (x6 : Int32) (c_n : Nat → Int32) (c_r : Nat → Int32) (c_q : Nat → Int32) (c_c : Nat → Int32) (c_g : Nat → Int32)  (n : Nat) : Int32 → Int32 → Int32 → Option (Int32) :=
  Nat.rec (motive := fun _ => Int32 → Int32 → Int32 → Option (Int32)) (fun _ _ _ => none) (fun _ ih => m_L_explain_L156_b fu x5 x6 c_n c_r c_q c_c c_g  ih) n
noncomputable def m_L_explain_L92_b (fu : Nat) (x5 : Int32) (x6 : Int32) (c_n : Nat → Int32) (c_r : Nat → Int32) (c_q : Nat → Int32) (c_c : Nat → Int32) (c_g : Nat → Int32)  (k92 : Int32 → Int32 → Int32 → Option (Int32)) (x7 : Int32) (x8 : Int32) (x9 : Int32) : Option (Int32) :=
  if x9 < (0 : Int32) then m_L_explain_L156 fu x5 x6 c_n c_r c_q c_c c_g fu x7 x8 ((c_g ((5 : Int32)).toNatClampNeg) - (1 : Int32)) else if (x7 >>> (x9 &&& 31)) &&& (1 : Int32) = (1 : Int32) then (m_L_some fu c_n c_r c_c c_g (x7 ^^^ ((1 : Int32) <<< (x9 &&& 31))) x8 x5 x6 (0 : Int32)).bind fun u_8 => if (0 : Int32) ≤ u_8 then k92 x7 x8 (x9 + (-1)) else k92 (x7 ^^^ ((1 : Int32) <<< (x9 &&& 31))) x8 (x9 + (-1)) else k92 x7 x8 (x9 + (-1))
noncomputable def m_L_explain_L92 (fu : Nat) (x5 : Int32) (x6 : Int32) (c_n : Nat → Int32) (c_r : Nat → Int32) (c_q : Nat → Int32) (c_c : Nat → Int32) (c_g : Nat → Int32)  (n : Nat) : Int32 → Int32 → Int32 → Option (Int32) :=
  Nat.rec (motive := fun _ => Int32 → Int32 → Int32 → Option (Int32)) (fun _ _ _ => none) (fun _ ih => m_L_explain_L92_b fu x5 x6 c_n c_r c_q c_c c_g  ih) n
noncomputable def m_L_explain_L20_b (fu : Nat) (x5 : Int32) (x6 : Int32) (c_n : Nat → Int32) (c_r : Nat → Int32) (c_q : Nat → Int32) (c_c : Nat → Int32) (c_g : Nat → Int32)  (k20 : Int32 → Int32 → Int32 → Option (Int32)) (x7 : Int32) (x8 : Int32) (x9 : Int32) : Option (Int32) :=
  if c_g ((0 : Int32)).toNatClampNeg ≤ x9 then (m_L_some fu c_n c_r c_c c_g x7 (x8 &&& (((1 : Int32) <<< ((c_g ((0 : Int32)).toNatClampNeg) &&& 31)) - (1 : Int32))) x5 x6 (0 : Int32)).bind fun u_2 => if u_2 < (0 : Int32) then m_L_explain_L92 fu x5 x6 c_n c_r c_q c_c c_g fu x7 (x8 &&& (((1 : Int32) <<< ((c_g ((0 : Int32)).toNatClampNeg) &&& 31)) - (1 : Int32))) (19 : Int32) else some (-1 : Int32) else if x9 < 0 ∨ 6 ≤ (x9).toNatClampNeg then none else if c_c (x9).toNatClampNeg = (0 : Int32) then k20 x7 (x8 &&& (((1 : Int32) <<< (x9 &&& 31)) ^^^ (-1 : Int32))) (x9 + 1) else k20 x7 x8 (x9 + 1)
noncomputable def m_L_explain_L20 (fu : Nat) (x5 : Int32) (x6 : Int32) (c_n : Nat → Int32) (c_r : Nat → Int32) (c_q : Nat → Int32) (c_c : Nat → Int32) (c_g : Nat → Int32)  (n : Nat) : Int32 → Int32 → Int32 → Option (Int32) :=
  Nat.rec (motive := fun _ => Int32 → Int32 → Int32 → Option (Int32)) (fun _ _ _ => none) (fun _ ih => m_L_explain_L20_b fu x5 x6 c_n c_r c_q c_c c_g  ih) n
noncomputable def m_L_explain (fu : Nat) (c_n : Nat → Int32) (c_r : Nat → Int32) (c_q : Nat → Int32) (c_c : Nat → Int32) (c_g : Nat → Int32) (x5 : Int32) (x6 : Int32) : Option (Int32) :=
  m_L_explain_L20 fu x5 x6 c_n c_r c_q c_c c_g fu (c_g ((2 : Int32)).toNatClampNeg) ((63 : Int32) &&& (((1 : Int32) <<< (x5 &&& 31)) ^^^ (-1 : Int32))) (0 : Int32)
def rm_L_explain : Room := { frames := 3, cells := 0, slots := 0, locals := 79 }
theorem hd_L_explain : yL_explain.cls ≠ "java/lang/invoke/MethodHandle" ∧ yL_explain.cls ≠ "java/lang/invoke/VarHandle" ∧ (parseMethodDescriptor yL_explain.desc).map (fun d => d.parameters.length) = some 7 := by decide +kernel
set_option maxHeartbeats 4000000 in
set_option maxRecDepth 100000 in
theorem c_L_explain (l : Launch) (D : va_G) (cI : ClassId × ClassId) (sz : Nat) (a_n : Nat) (a_r : Nat) (a_q : Nat) (a_c : Nat) (a_g : Nat) (fu : Nat) (c_n : Nat → Int32) (c_r : Nat → Int32) (c_q : Nat → Int32) (c_c : Nat → Int32) (c_g : Nat → Int32) (x5 : Int32) (x6 : Int32) (r : Int32) (hf : m_L_explain fu c_n c_r c_q c_c c_g x5 x6 = some r) : Met l yL_explain (zw (Cond.code yL_explain cL_explain 10 (some .int))) rm_L_explain (va_Pc [.ref a_n, .ref a_r, .ref a_q, .ref a_c, .ref a_g, .int x5, .int x6] (zA D cI [(a_n, .inl (cI.1, 6, .inl c_n)), (a_r, .inl (cI.1, 20, .inl c_r)), (a_q, .inl (cI.1, 6, .inl c_q)), (a_c, .inl (cI.1, 6, .inl c_c)), (a_g, .inl (cI.1, 7, .inl c_g))] sz)) (zQi D (va_A [(a_n, .inl (cI.1, 6, .inl c_n)), (a_r, .inl (cI.1, 20, .inl c_r)), (a_q, .inl (cI.1, 6, .inl c_q)), (a_c, .inl (cI.1, 6, .inl c_c)), (a_g, .inl (cI.1, 7, .inl c_g))] sz) (fun v => v = r) (fun (u : Unit) => ([(a_n, .inl (cI.1, 6, .inl c_n)), (a_r, .inl (cI.1, 20, .inl c_r)), (a_q, .inl (cI.1, 6, .inl c_q)), (a_c, .inl (cI.1, 6, .inl c_c)), (a_g, .inl (cI.1, 7, .inl c_g))] : va_W))) 0 0 (va_A [(a_n, .inl (cI.1, 6, .inl c_n)), (a_r, .inl (cI.1, 20, .inl c_r)), (a_q, .inl (cI.1, 6, .inl c_q)), (a_c, .inl (cI.1, 6, .inl c_c)), (a_g, .inl (cI.1, 7, .inl c_g))] sz) := by
  unfold m_L_explain at hf
  refine zhead (C := RL) (by decide +kernel) rfl ?_
  intro p e s m below meth c hx hb hr hlocks hml hown hnm hts hE hK H hP hS hD hA
  generalize va_A [(a_n, .inl (cI.1, 6, .inl c_n)), (a_r, .inl (cI.1, 20, .inl c_r)), (a_q, .inl (cI.1, 6, .inl c_q)), (a_c, .inl (cI.1, 6, .inl c_c)), (a_g, .inl (cI.1, 7, .inl c_g))] sz = A at hS hD hA ⊢
  have hl := lv_entry ([.ref a_n, .ref a_r, .ref a_q, .ref a_c, .ref a_g, .int x5, .int x6]) (n := 10) (Nat.le_of_ble_eq_true rfl)
  rw [lg_entry_eq]
  generalize (lg_sl ([.ref a_n, .ref a_r, .ref a_q, .ref a_c, .ref a_g, .int x5, .int x6]) ++ List.replicate (10 - (lg_sl ([.ref a_n, .ref a_r, .ref a_q, .ref a_c, .ref a_g, .int x5, .int x6])).length) Slot.unset).toArray = ls at hl ⊢
  have hl : lv_has ls 10 [(0, .ref a_n), (1, .ref a_r), (2, .ref a_q), (3, .ref a_c), (4, .ref a_g), (5, .int x5), (6, .int x6)] := hl

  have w_L156 : ∀ (n : Nat) (x7 : Int32) (x8 : Int32) (x9 : Int32), m_L_explain_L156 fu x5 x6 c_n c_r c_q c_c c_g n x7 x8 x9 = some r → ∀ (H : Heap) (locs : List Loc), va_P D vwCl [(a_n, .inl (cI.1, 6, .inl c_n)), (a_r, .inl (cI.1, 20, .inl c_r)), (a_q, .inl (cI.1, 6, .inl c_q)), (a_c, .inl (cI.1, 6, .inl c_c)), (a_g, .inl (cI.1, 7, .inl c_g))] H → va_D A [(a_n, .inl (cI.1, 6, .inl c_n)), (a_r, .inl (cI.1, 20, .inl c_r)), (a_q, .inl (cI.1, 6, .inl c_q)), (a_c, .inl (cI.1, 6, .inl c_c)), (a_g, .inl (cI.1, 7, .inl c_g))] → va_S A s.heap H locs → ∀ ls : Array Slot, lv_has ls 10 [(0, .ref a_n), (1, .ref a_r), (2, .ref a_q), (3, .ref a_c), (4, .ref a_g), (5, .int x5), (6, .int x6), (7, .int x7), (8, .int x8), (9, .int x9)] → W p l e rm_L_explain s m ([.ref a_n, .ref a_r, .ref a_q, .ref a_c, .ref a_g, .int x5, .int x6] : List Value).toArray below meth c H locs 0 0 (MQ below (zQi D A (fun v => v = r) (fun (u : Unit) => ([(a_n, .inl (cI.1, 6, .inl c_n)), (a_r, .inl (cI.1, 20, .inl c_r)), (a_q, .inl (cI.1, 6, .inl c_q)), (a_c, .inl (cI.1, 6, .inl c_c)), (a_g, .inl (cI.1, 7, .inl c_g))] : va_W))) ([.ref a_n, .ref a_r, .ref a_q, .ref a_c, .ref a_g, .int x5, .int x6] : List Value).toArray s 0 0 A) (F0 m 156 ls []) := by
    intro n_156
    induction n_156 with
    | zero => intro x7 x8 x9  hf; exact absurd hf (fun h => by cases h)
    | succ n_156 ih_156 =>
      intro x7 x8 x9  hf H locs hP hD hS ls hl
      replace hf : m_L_explain_L156_b fu x5 x6 c_n c_r c_q c_c c_g  (m_L_explain_L156 fu x5 x6 c_n c_r c_q c_c c_g n_156) x7 x8 x9 = some r := hf
      unfold m_L_explain_L156_b at hf
      refine lv_iload hx hb dL_explain_156 (lv_at hl 9 rfl) ?_
      refine lv_if_lt (tgt := 218) hx hb dL_explain_158 (by decide) (fun c_10 => ?_) (fun c_10 => ?_)
      · replace hf := zit hf c_10
        refine lv_bipush (v := 64) hx hb dL_explain_218 (by decide) ?_
        refine lv_iload hx hb dL_explain_220 (lv_at hl 7 rfl) ?_
        refine lv_imul hx hb dL_explain_222 ?_
        refine lv_iload hx hb dL_explain_223 (lv_at hl 8 rfl) ?_
        refine lv_iadd hx hb dL_explain_225 ?_
        obtain rfl := Option.some.inj hf
        exact zret_i hx hb hr rfl rfl () hP hD hS [0, 1, 2, 3, 4] rfl (by decide) dL_explain_226 hlocks
      · replace hf := zif hf c_10
        refine lv_iload hx hb dL_explain_161 (lv_at hl 8 rfl) ?_
        refine lv_aload_n hx hb dL_explain_163 rfl (lv_at hl 2 rfl) ?_
        refine lv_iload hx hb dL_explain_164 (lv_at hl 9 rfl) ?_
        obtain ⟨b_11, hf⟩ := zib hf
        refine va_iald hx hb hK hP 2 0 (cA := cI.1) rfl rfl b_11 dL_explain_166 ?_
        refine lv_ishr hx hb dL_explain_167 ?_
        refine lv_iconst (v := 1) hx hb dL_explain_168 (by decide) ?_
        refine lv_iand hx hb dL_explain_169 ?_
        refine lv_iconst (v := 1) hx hb dL_explain_170 (by decide) ?_
        refine lv_icmp_ne (tgt := 212) hx hb dL_explain_171 (by decide) (fun c_12 => ?_) (fun c_12 => ?_)
        · replace hf := zif hf c_12
          refine lv_iinc (v := x9 + (-1)) (lv' := [(9, .int (x9 + (-1))), (0, .ref a_n), (1, .ref a_r), (2, .ref a_q), (3, .ref a_c), (4, .ref a_g), (5, .int x5), (6, .int x6), (7, .int x7), (8, .int x8)]) hx hb dL_explain_212 hl (k := 9) rfl rfl (by decide) rfl (fun ls hl => ?_)
          refine lv_goto (tgt := 156) hx hb dL_explain_215 (by decide) ?_
          exact ih_156 x7 x8 (x9 + (-1))  hf _ _ (hP.sub [0, 1, 2, 3, 4] rfl) (hD.sub [0, 1, 2, 3, 4] (by decide) rfl) hS _ (lv_sub hl [1, 2, 3, 4, 5, 6, 7, 8, 9, 0] rfl)
        · replace hf := zit hf c_12
          refine lv_aload_n hx hb dL_explain_174 rfl (lv_at hl 0 rfl) ?_
          refine lv_aload_n hx hb dL_explain_175 rfl (lv_at hl 1 rfl) ?_
          refine lv_aload_n hx hb dL_explain_176 rfl (lv_at hl 3 rfl) ?_
          refine lv_aload hx hb dL_explain_177 (lv_at hl 4 rfl) ?_
          refine lv_iload hx hb dL_explain_179 (lv_at hl 7 rfl) ?_
          refine lv_iload hx hb dL_explain_181 (lv_at hl 8 rfl) ?_
          refine lv_iconst (v := 1) hx hb dL_explain_183 (by decide) ?_
          refine lv_aload_n hx hb dL_explain_184 rfl (lv_at hl 2 rfl) ?_
          refine lv_iload hx hb dL_explain_185 (lv_at hl 9 rfl) ?_
          refine va_iald hx hb hK hP 2 0 (cA := cI.1) rfl rfl b_11 dL_explain_187 ?_
          refine lv_ishl hx hb dL_explain_188 ?_
          refine lv_ixor hx hb dL_explain_189 ?_
          refine lv_iload hx hb dL_explain_190 (lv_at hl 5 rfl) ?_
          refine lv_iload hx hb dL_explain_192 (lv_at hl 6 rfl) ?_
          refine lv_iconst (v := 0) hx hb dL_explain_194 (by decide) ?_
          obtain ⟨u_13, e_13, hf⟩ := zbd hf
          refine zcall_i (wr := [(a_q, .inl (cI.1, 6, .inl c_q))]) (va_runS (As := [.ref a_n, .ref a_r, .ref a_c, .ref a_g, .int x7, .int (x8 ^^^ ((1 : Int32) <<< ((c_q (x9).toNatClampNeg) &&& 31))), .int x5, .int x6, .int 0]) (rest := []) ⟨hx, hb, hml, hown, hts⟩ (c_L_some l D cI H.size a_n a_r a_c a_g fu c_n c_r c_c c_g x7 (x8 ^^^ ((1 : Int32) <<< ((c_q (x9).toNatClampNeg) &&& 31))) x5 x6 (0 : Int32) u_13 e_13) (va_cwS 9 hts (zG_S kw_419 kw_420 kw_408 kw_418) rfl rfl rfl hd_L_some ⟨Nat.le_of_ble_eq_true rfl, Nat.le_of_ble_eq_true rfl⟩) ⟨zblind, zpre hP hD hK hE [0, 1, 3, 4] rfl (by decide)⟩ rfl rfl hl.1 rfl (lv_room (Nat.le_of_ble_eq_true rfl)) dL_explain_195 ⟨Nat.le_of_ble_eq_true rfl, Nat.le_of_ble_eq_true rfl⟩) hP hD hS hA [0, 1, 3, 4] [2] rfl rfl (by decide) (by decide) (fun r9 uu H locs hX9 hP hD hS => ?_)
          obtain rfl := hX9.symm
          have hP : va_P D vwCl [(a_q, .inl (cI.1, 6, .inl c_q)), (a_n, .inl (cI.1, 6, .inl c_n)), (a_r, .inl (cI.1, 20, .inl c_r)), (a_c, .inl (cI.1, 6, .inl c_c)), (a_g, .inl (cI.1, 7, .inl c_g))] H := hP
          have hD : va_D A [(a_q, .inl (cI.1, 6, .inl c_q)), (a_n, .inl (cI.1, 6, .inl c_n)), (a_r, .inl (cI.1, 20, .inl c_r)), (a_c, .inl (cI.1, 6, .inl c_c)), (a_g, .inl (cI.1, 7, .inl c_g))] := hD
          refine lv_if_ge (tgt := 212) hx hb dL_explain_198 (by decide) (fun c_14 => ?_) (fun c_14 => ?_)
          · replace hf := zit hf c_14
            refine lv_iinc (v := x9 + (-1)) (lv' := [(9, .int (x9 + (-1))), (0, .ref a_n), (1, .ref a_r), (2, .ref a_q), (3, .ref a_c), (4, .ref a_g), (5, .int x5), (6, .int x6), (7, .int x7), (8, .int x8)]) hx hb dL_explain_212 hl (k := 9) rfl rfl (by decide) rfl (fun ls hl => ?_)
            refine lv_goto (tgt := 156) hx hb dL_explain_215 (by decide) ?_
            exact ih_156 x7 x8 (x9 + (-1))  hf _ _ (hP.sub [1, 2, 0, 3, 4] rfl) (hD.sub [1, 2, 0, 3, 4] (by decide) rfl) hS _ (lv_sub hl [1, 2, 3, 4, 5, 6, 7, 8, 9, 0] rfl)
          · replace hf := zif hf c_14
            refine lv_iload hx hb dL_explain_201 (lv_at hl 8 rfl) ?_
            refine lv_iconst (v := 1) hx hb dL_explain_203 (by decide) ?_
            refine lv_aload_n hx hb dL_explain_204 rfl (lv_at hl 2 rfl) ?_
            refine lv_iload hx hb dL_explain_205 (lv_at hl 9 rfl) ?_
            refine va_iald hx hb hK hP 0 0 (cA := cI.1) rfl rfl b_11 dL_explain_207 ?_
            refine lv_ishl hx hb dL_explain_208 ?_
            refine lv_ixor hx hb dL_explain_209 ?_
            refine lv_istore (lv' := [(8, .int (x8 ^^^ ((1 : Int32) <<< ((c_q (x9).toNatClampNeg) &&& 31)))), (0, .ref a_n), (1, .ref a_r), (2, .ref a_q), (3, .ref a_c), (4, .ref a_g), (5, .int x5), (6, .int x6), (7, .int x7), (9, .int x9)]) hx hb dL_explain_210 hl (by decide) rfl (fun ls hl => ?_)
            refine lv_iinc (v := x9 + (-1)) (lv' := [(9, .int (x9 + (-1))), (8, .int (x8 ^^^ ((1 : Int32) <<< ((c_q (x9).toNatClampNeg) &&& 31)))), (0, .ref a_n), (1, .ref a_r), (2, .ref a_q), (3, .ref a_c), (4, .ref a_g), (5, .int x5), (6, .int x6), (7, .int x7)]) hx hb dL_explain_212 hl (k := 9) rfl rfl (by decide) rfl (fun ls hl => ?_)
            refine lv_goto (tgt := 156) hx hb dL_explain_215 (by decide) ?_
            exact ih_156 x7 (x8 ^^^ ((1 : Int32) <<< ((c_q (x9).toNatClampNeg) &&& 31))) (x9 + (-1))  hf _ _ (hP.sub [1, 2, 0, 3, 4] rfl) (hD.sub [1, 2, 0, 3, 4] (by decide) rfl) hS _ (lv_sub hl [2, 3, 4, 5, 6, 7, 8, 9, 1, 0] rfl)
  have w_L92 : ∀ (n : Nat) (x7 : Int32) (x8 : Int32) (x9 : Int32), m_L_explain_L92 fu x5 x6 c_n c_r c_q c_c c_g n x7 x8 x9 = some r → ∀ (H : Heap) (locs : List Loc), va_P D vwCl [(a_n, .inl (cI.1, 6, .inl c_n)), (a_r, .inl (cI.1, 20, .inl c_r)), (a_q, .inl (cI.1, 6, .inl c_q)), (a_c, .inl (cI.1, 6, .inl c_c)), (a_g, .inl (cI.1, 7, .inl c_g))] H → va_D A [(a_n, .inl (cI.1, 6, .inl c_n)), (a_r, .inl (cI.1, 20, .inl c_r)), (a_q, .inl (cI.1, 6, .inl c_q)), (a_c, .inl (cI.1, 6, .inl c_c)), (a_g, .inl (cI.1, 7, .inl c_g))] → va_S A s.heap H locs → ∀ ls : Array Slot, lv_has ls 10 [(0, .ref a_n), (1, .ref a_r), (2, .ref a_q), (3, .ref a_c), (4, .ref a_g), (5, .int x5), (6, .int x6), (7, .int x7), (8, .int x8), (9, .int x9)] → W p l e rm_L_explain s m ([.ref a_n, .ref a_r, .ref a_q, .ref a_c, .ref a_g, .int x5, .int x6] : List Value).toArray below meth c H locs 0 0 (MQ below (zQi D A (fun v => v = r) (fun (u : Unit) => ([(a_n, .inl (cI.1, 6, .inl c_n)), (a_r, .inl (cI.1, 20, .inl c_r)), (a_q, .inl (cI.1, 6, .inl c_q)), (a_c, .inl (cI.1, 6, .inl c_c)), (a_g, .inl (cI.1, 7, .inl c_g))] : va_W))) ([.ref a_n, .ref a_r, .ref a_q, .ref a_c, .ref a_g, .int x5, .int x6] : List Value).toArray s 0 0 A) (F0 m 92 ls []) := by
    intro n_92
    induction n_92 with
    | zero => intro x7 x8 x9  hf; exact absurd hf (fun h => by cases h)
    | succ n_92 ih_92 =>
      intro x7 x8 x9  hf H locs hP hD hS ls hl
      replace hf : m_L_explain_L92_b fu x5 x6 c_n c_r c_q c_c c_g  (m_L_explain_L92 fu x5 x6 c_n c_r c_q c_c c_g n_92) x7 x8 x9 = some r := hf
      unfold m_L_explain_L92_b at hf
      refine lv_iload hx hb dL_explain_92 (lv_at hl 9 rfl) ?_
      refine lv_if_lt (tgt := 148) hx hb dL_explain_94 (by decide) (fun c_6 => ?_) (fun c_6 => ?_)
      · replace hf := zit hf c_6
        refine lv_aload hx hb dL_explain_148 (lv_at hl 4 rfl) ?_
        refine lv_iconst (v := 5) hx hb dL_explain_150 (by decide) ?_
        refine va_iald hx hb hK hP 4 0 (cA := cI.1) rfl rfl (show ¬ ((5 : Int32) < 0 ∨ 7 ≤ (5 : Int32).toNatClampNeg) by decide) dL_explain_151 ?_
        refine lv_iconst (v := 1) hx hb dL_explain_152 (by decide) ?_
        refine lv_isub hx hb dL_explain_153 ?_
        refine lv_istore (lv' := [(9, .int ((c_g ((5 : Int32)).toNatClampNeg) - (1 : Int32))), (0, .ref a_n), (1, .ref a_r), (2, .ref a_q), (3, .ref a_c), (4, .ref a_g), (5, .int x5), (6, .int x6), (7, .int x7), (8, .int x8)]) hx hb dL_explain_154 hl (by decide) rfl (fun ls hl => ?_)
        exact w_L156 fu x7 x8 ((c_g ((5 : Int32)).toNatClampNeg) - (1 : Int32))  hf _ _ (hP.sub [0, 1, 2, 3, 4] rfl) (hD.sub [0, 1, 2, 3, 4] (by decide) rfl) hS _ (lv_sub hl [1, 2, 3, 4, 5, 6, 7, 8, 9, 0] rfl)
      · replace hf := zif hf c_6
        refine lv_iload hx hb dL_explain_97 (lv_at hl 7 rfl) ?_
        refine lv_iload hx hb dL_explain_99 (lv_at hl 9 rfl) ?_
        refine lv_ishr hx hb dL_explain_101 ?_
        refine lv_iconst (v := 1) hx hb dL_explain_102 (by decide) ?_
        refine lv_iand hx hb dL_explain_103 ?_
        refine lv_iconst (v := 1) hx hb dL_explain_104 (by decide) ?_
        refine lv_icmp_ne (tgt := 142) hx hb dL_explain_105 (by decide) (fun c_7 => ?_) (fun c_7 => ?_)
        · replace hf := zif hf c_7
          refine lv_iinc (v := x9 + (-1)) (lv' := [(9, .int (x9 + (-1))), (0, .ref a_n), (1, .ref a_r), (2, .ref a_q), (3, .ref a_c), (4, .ref a_g), (5, .int x5), (6, .int x6), (7, .int x7), (8, .int x8)]) hx hb dL_explain_142 hl (k := 9) rfl rfl (by decide) rfl (fun ls hl => ?_)
          refine lv_goto (tgt := 92) hx hb dL_explain_145 (by decide) ?_
          exact ih_92 x7 x8 (x9 + (-1))  hf _ _ (hP.sub [0, 1, 2, 3, 4] rfl) (hD.sub [0, 1, 2, 3, 4] (by decide) rfl) hS _ (lv_sub hl [1, 2, 3, 4, 5, 6, 7, 8, 9, 0] rfl)
        · replace hf := zit hf c_7
          refine lv_aload_n hx hb dL_explain_108 rfl (lv_at hl 0 rfl) ?_
          refine lv_aload_n hx hb dL_explain_109 rfl (lv_at hl 1 rfl) ?_
          refine lv_aload_n hx hb dL_explain_110 rfl (lv_at hl 3 rfl) ?_
          refine lv_aload hx hb dL_explain_111 (lv_at hl 4 rfl) ?_
          refine lv_iload hx hb dL_explain_113 (lv_at hl 7 rfl) ?_
          refine lv_iconst (v := 1) hx hb dL_explain_115 (by decide) ?_
          refine lv_iload hx hb dL_explain_116 (lv_at hl 9 rfl) ?_
          refine lv_ishl hx hb dL_explain_118 ?_
          refine lv_ixor hx hb dL_explain_119 ?_
          refine lv_iload hx hb dL_explain_120 (lv_at hl 8 rfl) ?_
          refine lv_iload hx hb dL_explain_122 (lv_at hl 5 rfl) ?_
          refine lv_iload hx hb dL_explain_124 (lv_at hl 6 rfl) ?_
          refine lv_iconst (v := 0) hx hb dL_explain_126 (by decide) ?_
          obtain ⟨u_8, e_8, hf⟩ := zbd hf
          refine zcall_i (wr := [(a_q, .inl (cI.1, 6, .inl c_q))]) (va_runS (As := [.ref a_n, .ref a_r, .ref a_c, .ref a_g, .int (x7 ^^^ ((1 : Int32) <<< (x9 &&& 31))), .int x8, .int x5, .int x6, .int 0]) (rest := []) ⟨hx, hb, hml, hown, hts⟩ (c_L_some l D cI H.size a_n a_r a_c a_g fu c_n c_r c_c c_g (x7 ^^^ ((1 : Int32) <<< (x9 &&& 31))) x8 x5 x6 (0 : Int32) u_8 e_8) (va_cwS 9 hts (zG_S kw_419 kw_420 kw_408 kw_418) rfl rfl rfl hd_L_some ⟨Nat.le_of_ble_eq_true rfl, Nat.le_of_ble_eq_true rfl⟩) ⟨zblind, zpre hP hD hK hE [0, 1, 3, 4] rfl (by decide)⟩ rfl rfl hl.1 rfl (lv_room (Nat.le_of_ble_eq_true rfl)) dL_explain_127 ⟨Nat.le_of_ble_eq_true rfl, Nat.le_of_ble_eq_true rfl⟩) hP hD hS hA [0, 1, 3, 4] [2] rfl rfl (by decide) (by decide) (fun r9 uu H locs hX9 hP hD hS => ?_)
          obtain rfl := hX9.symm
          have hP : va_P D vwCl [(a_q, .inl (cI.1, 6, .inl c_q)), (a_n, .inl (cI.1, 6, .inl c_n)), (a_r, .inl (cI.1, 20, .inl c_r)), (a_c, .inl (cI.1, 6, .inl c_c)), (a_g, .inl (cI.1, 7, .inl c_g))] H := hP
          have hD : va_D A [(a_q, .inl (cI.1, 6, .inl c_q)), (a_n, .inl (cI.1, 6, .inl c_n)), (a_r, .inl (cI.1, 20, .inl c_r)), (a_c, .inl (cI.1, 6, .inl c_c)), (a_g, .inl (cI.1, 7, .inl c_g))] := hD
          refine lv_if_ge (tgt := 142) hx hb dL_explain_130 (by decide) (fun c_9 => ?_) (fun c_9 => ?_)
          · replace hf := zit hf c_9
            refine lv_iinc (v := x9 + (-1)) (lv' := [(9, .int (x9 + (-1))), (0, .ref a_n), (1, .ref a_r), (2, .ref a_q), (3, .ref a_c), (4, .ref a_g), (5, .int x5), (6, .int x6), (7, .int x7), (8, .int x8)]) hx hb dL_explain_142 hl (k := 9) rfl rfl (by decide) rfl (fun ls hl => ?_)
            refine lv_goto (tgt := 92) hx hb dL_explain_145 (by decide) ?_
            exact ih_92 x7 x8 (x9 + (-1))  hf _ _ (hP.sub [1, 2, 0, 3, 4] rfl) (hD.sub [1, 2, 0, 3, 4] (by decide) rfl) hS _ (lv_sub hl [1, 2, 3, 4, 5, 6, 7, 8, 9, 0] rfl)
          · replace hf := zif hf c_9
            refine lv_iload hx hb dL_explain_133 (lv_at hl 7 rfl) ?_
            refine lv_iconst (v := 1) hx hb dL_explain_135 (by decide) ?_
            refine lv_iload hx hb dL_explain_136 (lv_at hl 9 rfl) ?_
            refine lv_ishl hx hb dL_explain_138 ?_
            refine lv_ixor hx hb dL_explain_139 ?_
            refine lv_istore (lv' := [(7, .int (x7 ^^^ ((1 : Int32) <<< (x9 &&& 31)))), (0, .ref a_n), (1, .ref a_r), (2, .ref a_q), (3, .ref a_c), (4, .ref a_g), (5, .int x5), (6, .int x6), (8, .int x8), (9, .int x9)]) hx hb dL_explain_140 hl (by decide) rfl (fun ls hl => ?_)
            refine lv_iinc (v := x9 + (-1)) (lv' := [(9, .int (x9 + (-1))), (7, .int (x7 ^^^ ((1 : Int32) <<< (x9 &&& 31)))), (0, .ref a_n), (1, .ref a_r), (2, .ref a_q), (3, .ref a_c), (4, .ref a_g), (5, .int x5), (6, .int x6), (8, .int x8)]) hx hb dL_explain_142 hl (k := 9) rfl rfl (by decide) rfl (fun ls hl => ?_)
            refine lv_goto (tgt := 92) hx hb dL_explain_145 (by decide) ?_
            exact ih_92 (x7 ^^^ ((1 : Int32) <<< (x9 &&& 31))) x8 (x9 + (-1))  hf _ _ (hP.sub [1, 2, 0, 3, 4] rfl) (hD.sub [1, 2, 0, 3, 4] (by decide) rfl) hS _ (lv_sub hl [2, 3, 4, 5, 6, 7, 8, 1, 9, 0] rfl)
  have w_L20 : ∀ (n : Nat) (x7 : Int32) (x8 : Int32) (x9 : Int32), m_L_explain_L20 fu x5 x6 c_n c_r c_q c_c c_g n x7 x8 x9 = some r → ∀ (H : Heap) (locs : List Loc), va_P D vwCl [(a_n, .inl (cI.1, 6, .inl c_n)), (a_r, .inl (cI.1, 20, .inl c_r)), (a_q, .inl (cI.1, 6, .inl c_q)), (a_c, .inl (cI.1, 6, .inl c_c)), (a_g, .inl (cI.1, 7, .inl c_g))] H → va_D A [(a_n, .inl (cI.1, 6, .inl c_n)), (a_r, .inl (cI.1, 20, .inl c_r)), (a_q, .inl (cI.1, 6, .inl c_q)), (a_c, .inl (cI.1, 6, .inl c_c)), (a_g, .inl (cI.1, 7, .inl c_g))] → va_S A s.heap H locs → ∀ ls : Array Slot, lv_has ls 10 [(0, .ref a_n), (1, .ref a_r), (2, .ref a_q), (3, .ref a_c), (4, .ref a_g), (5, .int x5), (6, .int x6), (7, .int x7), (8, .int x8), (9, .int x9)] → W p l e rm_L_explain s m ([.ref a_n, .ref a_r, .ref a_q, .ref a_c, .ref a_g, .int x5, .int x6] : List Value).toArray below meth c H locs 0 0 (MQ below (zQi D A (fun v => v = r) (fun (u : Unit) => ([(a_n, .inl (cI.1, 6, .inl c_n)), (a_r, .inl (cI.1, 20, .inl c_r)), (a_q, .inl (cI.1, 6, .inl c_q)), (a_c, .inl (cI.1, 6, .inl c_c)), (a_g, .inl (cI.1, 7, .inl c_g))] : va_W))) ([.ref a_n, .ref a_r, .ref a_q, .ref a_c, .ref a_g, .int x5, .int x6] : List Value).toArray s 0 0 A) (F0 m 20 ls []) := by
    intro n_20
    induction n_20 with
    | zero => intro x7 x8 x9  hf; exact absurd hf (fun h => by cases h)
    | succ n_20 ih_20 =>
      intro x7 x8 x9  hf H locs hP hD hS ls hl
      replace hf : m_L_explain_L20_b fu x5 x6 c_n c_r c_q c_c c_g  (m_L_explain_L20 fu x5 x6 c_n c_r c_q c_c c_g n_20) x7 x8 x9 = some r := hf
      unfold m_L_explain_L20_b at hf
      refine lv_iload hx hb dL_explain_20 (lv_at hl 9 rfl) ?_
      refine lv_aload hx hb dL_explain_22 (lv_at hl 4 rfl) ?_
      refine lv_iconst (v := 0) hx hb dL_explain_24 (by decide) ?_
      refine va_iald hx hb hK hP 4 0 (cA := cI.1) rfl rfl (show ¬ ((0 : Int32) < 0 ∨ 7 ≤ (0 : Int32).toNatClampNeg) by decide) dL_explain_25 ?_
      refine lv_icmp_ge (tgt := 53) hx hb dL_explain_26 (by decide) (fun c_1 => ?_) (fun c_1 => ?_)
      · replace hf := zit hf c_1
        refine lv_iload hx hb dL_explain_53 (lv_at hl 8 rfl) ?_
        refine lv_iconst (v := 1) hx hb dL_explain_55 (by decide) ?_
        refine lv_aload hx hb dL_explain_56 (lv_at hl 4 rfl) ?_
        refine lv_iconst (v := 0) hx hb dL_explain_58 (by decide) ?_
        refine va_iald hx hb hK hP 4 0 (cA := cI.1) rfl rfl (show ¬ ((0 : Int32) < 0 ∨ 7 ≤ (0 : Int32).toNatClampNeg) by decide) dL_explain_59 ?_
        refine lv_ishl hx hb dL_explain_60 ?_
        refine lv_iconst (v := 1) hx hb dL_explain_61 (by decide) ?_
        refine lv_isub hx hb dL_explain_62 ?_
        refine lv_iand hx hb dL_explain_63 ?_
        refine lv_istore (lv' := [(8, .int (x8 &&& (((1 : Int32) <<< ((c_g ((0 : Int32)).toNatClampNeg) &&& 31)) - (1 : Int32)))), (0, .ref a_n), (1, .ref a_r), (2, .ref a_q), (3, .ref a_c), (4, .ref a_g), (5, .int x5), (6, .int x6), (7, .int x7), (9, .int x9)]) hx hb dL_explain_64 hl (by decide) rfl (fun ls hl => ?_)
        refine lv_aload_n hx hb dL_explain_66 rfl (lv_at hl 1 rfl) ?_
        refine lv_aload_n hx hb dL_explain_67 rfl (lv_at hl 2 rfl) ?_
        refine lv_aload_n hx hb dL_explain_68 rfl (lv_at hl 4 rfl) ?_
        refine lv_aload hx hb dL_explain_69 (lv_at hl 5 rfl) ?_
        refine lv_iload hx hb dL_explain_71 (lv_at hl 8 rfl) ?_
        refine lv_iload hx hb dL_explain_73 (lv_at hl 0 rfl) ?_
        refine lv_iload hx hb dL_explain_75 (lv_at hl 6 rfl) ?_
        refine lv_iload hx hb dL_explain_77 (lv_at hl 7 rfl) ?_
        refine lv_iconst (v := 0) hx hb dL_explain_79 (by decide) ?_
        obtain ⟨u_2, e_2, hf⟩ := zbd hf
        refine zcall_i (wr := [(a_q, .inl (cI.1, 6, .inl c_q))]) (va_runS (As := [.ref a_n, .ref a_r, .ref a_c, .ref a_g, .int x7, .int (x8 &&& (((1 : Int32) <<< ((c_g ((0 : Int32)).toNatClampNeg) &&& 31)) - (1 : Int32))), .int x5, .int x6, .int 0]) (rest := []) ⟨hx, hb, hml, hown, hts⟩ (c_L_some l D cI H.size a_n a_r a_c a_g fu c_n c_r c_c c_g x7 (x8 &&& (((1 : Int32) <<< ((c_g ((0 : Int32)).toNatClampNeg) &&& 31)) - (1 : Int32))) x5 x6 (0 : Int32) u_2 e_2) (va_cwS 9 hts (zG_S kw_419 kw_420 kw_408 kw_418) rfl rfl rfl hd_L_some ⟨Nat.le_of_ble_eq_true rfl, Nat.le_of_ble_eq_true rfl⟩) ⟨zblind, zpre hP hD hK hE [0, 1, 3, 4] rfl (by decide)⟩ rfl rfl hl.1 rfl (lv_room (Nat.le_of_ble_eq_true rfl)) dL_explain_80 ⟨Nat.le_of_ble_eq_true rfl, Nat.le_of_ble_eq_true rfl⟩) hP hD hS hA [0, 1, 3, 4] [2] rfl rfl (by decide) (by decide) (fun r9 uu H locs hX9 hP hD hS => ?_)
        obtain rfl := hX9.symm
        have hP : va_P D vwCl [(a_q, .inl (cI.1, 6, .inl c_q)), (a_n, .inl (cI.1, 6, .inl c_n)), (a_r, .inl (cI.1, 20, .inl c_r)), (a_c, .inl (cI.1, 6, .inl c_c)), (a_g, .inl (cI.1, 7, .inl c_g))] H := hP
        have hD : va_D A [(a_q, .inl (cI.1, 6, .inl c_q)), (a_n, .inl (cI.1, 6, .inl c_n)), (a_r, .inl (cI.1, 20, .inl c_r)), (a_c, .inl (cI.1, 6, .inl c_c)), (a_g, .inl (cI.1, 7, .inl c_g))] := hD
        refine lv_if_lt (tgt := 88) hx hb dL_explain_83 (by decide) (fun c_3 => ?_) (fun c_3 => ?_)
        · replace hf := zit hf c_3
          refine lv_bipush (v := 19) hx hb dL_explain_88 (by decide) ?_
          refine lv_istore (lv' := [(9, .int 19), (8, .int (x8 &&& (((1 : Int32) <<< ((c_g ((0 : Int32)).toNatClampNeg) &&& 31)) - (1 : Int32)))), (0, .ref a_n), (1, .ref a_r), (2, .ref a_q), (3, .ref a_c), (4, .ref a_g), (5, .int x5), (6, .int x6), (7, .int x7)]) hx hb dL_explain_90 hl (by decide) rfl (fun ls hl => ?_)
          exact w_L92 fu x7 (x8 &&& (((1 : Int32) <<< ((c_g ((0 : Int32)).toNatClampNeg) &&& 31)) - (1 : Int32))) (19 : Int32)  hf _ _ (hP.sub [1, 2, 0, 3, 4] rfl) (hD.sub [1, 2, 0, 3, 4] (by decide) rfl) hS _ (lv_sub hl [2, 3, 4, 5, 6, 7, 8, 9, 1, 0] rfl)
        · replace hf := zif hf c_3
          refine lv_iconst (v := -1) hx hb dL_explain_86 (by decide) ?_
          obtain rfl := Option.some.inj hf
          exact zret_i hx hb hr rfl rfl () hP hD hS [1, 2, 0, 3, 4] rfl (by decide) dL_explain_87 hlocks
      · replace hf := zif hf c_1
        refine lv_aload_n hx hb dL_explain_29 rfl (lv_at hl 3 rfl) ?_
        refine lv_iload hx hb dL_explain_30 (lv_at hl 9 rfl) ?_
        obtain ⟨b_4, hf⟩ := zib hf
        refine va_iald hx hb hK hP 3 0 (cA := cI.1) rfl rfl b_4 dL_explain_32 ?_
        refine lv_if_ne (tgt := 47) hx hb dL_explain_33 (by decide) (fun c_5 => ?_) (fun c_5 => ?_)
        · replace hf := zif hf c_5
          refine lv_iinc (v := x9 + 1) (lv' := [(9, .int (x9 + 1)), (0, .ref a_n), (1, .ref a_r), (2, .ref a_q), (3, .ref a_c), (4, .ref a_g), (5, .int x5), (6, .int x6), (7, .int x7), (8, .int x8)]) hx hb dL_explain_47 hl (k := 9) rfl rfl (by decide) rfl (fun ls hl => ?_)
          refine lv_goto (tgt := 20) hx hb dL_explain_50 (by decide) ?_
          exact ih_20 x7 x8 (x9 + 1)  hf _ _ (hP.sub [0, 1, 2, 3, 4] rfl) (hD.sub [0, 1, 2, 3, 4] (by decide) rfl) hS _ (lv_sub hl [1, 2, 3, 4, 5, 6, 7, 8, 9, 0] rfl)
        · replace hf := zit hf c_5
          refine lv_iload hx hb dL_explain_36 (lv_at hl 8 rfl) ?_
          refine lv_iconst (v := 1) hx hb dL_explain_38 (by decide) ?_
          refine lv_iload hx hb dL_explain_39 (lv_at hl 9 rfl) ?_
          refine lv_ishl hx hb dL_explain_41 ?_
          refine lv_iconst (v := -1) hx hb dL_explain_42 (by decide) ?_
          refine lv_ixor hx hb dL_explain_43 ?_
          refine lv_iand hx hb dL_explain_44 ?_
          refine lv_istore (lv' := [(8, .int (x8 &&& (((1 : Int32) <<< (x9 &&& 31)) ^^^ (-1 : Int32)))), (0, .ref a_n), (1, .ref a_r), (2, .ref a_q), (3, .ref a_c), (4, .ref a_g), (5, .int x5), (6, .int x6), (7, .int x7), (9, .int x9)]) hx hb dL_explain_45 hl (by decide) rfl (fun ls hl => ?_)
          refine lv_iinc (v := x9 + 1) (lv' := [(9, .int (x9 + 1)), (8, .int (x8 &&& (((1 : Int32) <<< (x9 &&& 31)) ^^^ (-1 : Int32)))), (0, .ref a_n), (1, .ref a_r), (2, .ref a_q), (3, .ref a_c), (4, .ref a_g), (5, .int x5), (6, .int x6), (7, .int x7)]) hx hb dL_explain_47 hl (k := 9) rfl rfl (by decide) rfl (fun ls hl => ?_)
          refine lv_goto (tgt := 20) hx hb dL_explain_50 (by decide) ?_
          exact ih_20 x7 (x8 &&& (((1 : Int32) <<< (x9 &&& 31)) ^^^ (-1 : Int32))) (x9 + 1)  hf _ _ (hP.sub [0, 1, 2, 3, 4] rfl) (hD.sub [0, 1, 2, 3, 4] (by decide) rfl) hS _ (lv_sub hl [2, 3, 4, 5, 6, 7, 8, 9, 1, 0] rfl)
  refine lv_aload hx hb dL_explain_0 (lv_at hl 4 rfl) ?_
  refine lv_iconst (v := 2) hx hb dL_explain_2 (by decide) ?_
  refine va_iald hx hb hK hP 4 0 (cA := cI.1) rfl rfl (show ¬ ((2 : Int32) < 0 ∨ 7 ≤ (2 : Int32).toNatClampNeg) by decide) dL_explain_3 ?_
  refine lv_istore (lv' := [(7, .int (c_g ((2 : Int32)).toNatClampNeg)), (0, .ref a_n), (1, .ref a_r), (2, .ref a_q), (3, .ref a_c), (4, .ref a_g), (5, .int x5), (6, .int x6)]) hx hb dL_explain_4 hl (by decide) rfl (fun ls hl => ?_)
  refine lv_bipush (v := 63) hx hb dL_explain_6 (by decide) ?_
  refine lv_iconst (v := 1) hx hb dL_explain_8 (by decide) ?_
  refine lv_iload hx hb dL_explain_9 (lv_at hl 6 rfl) ?_
  refine lv_ishl hx hb dL_explain_11 ?_
  refine lv_iconst (v := -1) hx hb dL_explain_12 (by decide) ?_
  refine lv_ixor hx hb dL_explain_13 ?_
  refine lv_iand hx hb dL_explain_14 ?_
  refine lv_istore (lv' := [(8, .int ((63 : Int32) &&& (((1 : Int32) <<< (x5 &&& 31)) ^^^ (-1 : Int32)))), (7, .int (c_g ((2 : Int32)).toNatClampNeg)), (0, .ref a_n), (1, .ref a_r), (2, .ref a_q), (3, .ref a_c), (4, .ref a_g), (5, .int x5), (6, .int x6)]) hx hb dL_explain_15 hl (by decide) rfl (fun ls hl => ?_)
  refine lv_iconst (v := 0) hx hb dL_explain_17 (by decide) ?_
  refine lv_istore (lv' := [(9, .int 0), (8, .int ((63 : Int32) &&& (((1 : Int32) <<< (x5 &&& 31)) ^^^ (-1 : Int32)))), (7, .int (c_g ((2 : Int32)).toNatClampNeg)), (0, .ref a_n), (1, .ref a_r), (2, .ref a_q), (3, .ref a_c), (4, .ref a_g), (5, .int x5), (6, .int x6)]) hx hb dL_explain_18 hl (by decide) rfl (fun ls hl => ?_)
  exact w_L20 fu (c_g ((2 : Int32)).toNatClampNeg) ((63 : Int32) &&& (((1 : Int32) <<< (x5 &&& 31)) ^^^ (-1 : Int32))) (0 : Int32)  hf _ _ (hP.sub [0, 1, 2, 3, 4] rfl) (hD.sub [0, 1, 2, 3, 4] (by decide) rfl) hS _ (lv_sub hl [3, 4, 5, 6, 7, 8, 9, 2, 1, 0] rfl)
noncomputable def m_L_cost_L44_b (fu : Nat) (x4 : Int32) (c_n : Nat → Int32) (c_p : Nat → Int32) (c_u : Nat → Int32) (c_g : Nat → Int32)  (k44 : Int32 → Int32 → Option (Int32)) (x5 : Int32) (x6 : Int32) : Option (Int32) :=
  if c_g ((3 : Int32)).toNatClampNeg ≤ x6 then some x5 else if x6 < 0 ∨ 10 ≤ (x6).toNatClampNeg then none else (m_L_digit fu c_n c_g x4 (((c_u (x6).toNatClampNeg) / (1000 : Int32)) - ((c_u (x6).toNatClampNeg) / (1000 : Int32)) / (10 : Int32) * (10 : Int32))).bind fun u_6 => if u_6 = ((c_u (x6).toNatClampNeg) / (100 : Int32)) - ((c_u (x6).toNatClampNeg) / (100 : Int32)) / (10 : Int32) * (10 : Int32) then (m_L_digit fu c_n c_g x4 (((c_u (x6).toNatClampNeg) / (10 : Int32)) - ((c_u (x6).toNatClampNeg) / (10 : Int32)) / (10 : Int32) * (10 : Int32))).bind fun u_8 => if u_8 = (c_u (x6).toNatClampNeg) - (c_u (x6).toNatClampNeg) / (10 : Int32) * (10 : Int32) then k44 (x5 + (((c_u (x6).toNatClampNeg) / (10000 : Int32)) - (500 : Int32))) (x6 + 1) else k44 x5 (x6 + 1) else k44 x5 (x6 + 1)
noncomputable def m_L_cost_L44 (fu : Nat) (x4 : Int32) (c_n : Nat → Int32) (c_p : Nat → Int32) (c_u : Nat → Int32) (c_g : Nat → Int32)  (n : Nat) : Int32 → Int32 → Option (Int32) :=
  Nat.rec (motive := fun _ => Int32 → Int32 → Option (Int32)) (fun _ _ => none) (fun _ ih => m_L_cost_L44_b fu x4 c_n c_p c_u c_g  ih) n
noncomputable def m_L_cost_L6_b (fu : Nat) (x4 : Int32) (c_n : Nat → Int32) (c_p : Nat → Int32) (c_u : Nat → Int32) (c_g : Nat → Int32)  (k6 : Int32 → Int32 → Option (Int32)) (x5 : Int32) (x6 : Int32) : Option (Int32) :=
  if c_g ((0 : Int32)).toNatClampNeg ≤ x6 then m_L_cost_L44 fu x4 c_n c_p c_u c_g fu x5 (0 : Int32) else (m_L_digit fu c_n c_g x4 x6).bind fun u_2 => if ((5 : Int32) * x6) + u_2 < 0 ∨ 30 ≤ (((5 : Int32) * x6) + u_2).toNatClampNeg then none else k6 (x5 + (c_p (((5 : Int32) * x6) + u_2).toNatClampNeg)) (x6 + 1)
noncomputable def m_L_cost_L6 (fu : Nat) (x4 : Int32) (c_n : Nat → Int32) (c_p : Nat → Int32) (c_u : Nat → Int32) (c_g : Nat → Int32)  (n : Nat) : Int32 → Int32 → Option (Int32) :=
  Nat.rec (motive := fun _ => Int32 → Int32 → Option (Int32)) (fun _ _ => none) (fun _ ih => m_L_cost_L6_b fu x4 c_n c_p c_u c_g  ih) n
noncomputable def m_L_cost (fu : Nat) (c_n : Nat → Int32) (c_p : Nat → Int32) (c_u : Nat → Int32) (c_g : Nat → Int32) (x4 : Int32) : Option (Int32) :=
  m_L_cost_L6 fu x4 c_n c_p c_u c_g fu (0 : Int32) (0 : Int32)
def rm_L_cost : Room := { frames := 1, cells := 0, slots := 0, locals := 25 }
theorem hd_L_cost : yL_cost.cls ≠ "java/lang/invoke/MethodHandle" ∧ yL_cost.cls ≠ "java/lang/invoke/VarHandle" ∧ (parseMethodDescriptor yL_cost.desc).map (fun d => d.parameters.length) = some 5 := by decide +kernel
set_option maxHeartbeats 4000000 in
set_option maxRecDepth 100000 in
theorem c_L_cost (l : Launch) (D : va_G) (cI : ClassId × ClassId) (sz : Nat) (a_n : Nat) (a_p : Nat) (a_u : Nat) (a_g : Nat) (fu : Nat) (c_n : Nat → Int32) (c_p : Nat → Int32) (c_u : Nat → Int32) (c_g : Nat → Int32) (x4 : Int32) (r : Int32) (hf : m_L_cost fu c_n c_p c_u c_g x4 = some r) : Met l yL_cost (zw (Cond.code yL_cost cL_cost 7 (some .int))) rm_L_cost (va_Pc [.ref a_n, .ref a_p, .ref a_u, .ref a_g, .int x4] (zA D cI [(a_n, .inl (cI.1, 6, .inl c_n)), (a_p, .inl (cI.1, 30, .inl c_p)), (a_u, .inl (cI.1, 10, .inl c_u)), (a_g, .inl (cI.1, 7, .inl c_g))] sz)) (zQi D (va_A [(a_n, .inl (cI.1, 6, .inl c_n)), (a_p, .inl (cI.1, 30, .inl c_p)), (a_u, .inl (cI.1, 10, .inl c_u)), (a_g, .inl (cI.1, 7, .inl c_g))] sz) (fun v => v = r) (fun (u : Unit) => ([(a_n, .inl (cI.1, 6, .inl c_n)), (a_p, .inl (cI.1, 30, .inl c_p)), (a_u, .inl (cI.1, 10, .inl c_u)), (a_g, .inl (cI.1, 7, .inl c_g))] : va_W))) 0 0 (va_A [(a_n, .inl (cI.1, 6, .inl c_n)), (a_p, .inl (cI.1, 30, .inl c_p)), (a_u, .inl (cI.1, 10, .inl c_u)), (a_g, .inl (cI.1, 7, .inl c_g))] sz) := by
  unfold m_L_cost at hf
  refine zhead (C := RL) (by decide +kernel) rfl ?_
  intro p e s m below meth c hx hb hr hlocks hml hown hnm hts hE hK H hP hS hD hA
  generalize va_A [(a_n, .inl (cI.1, 6, .inl c_n)), (a_p, .inl (cI.1, 30, .inl c_p)), (a_u, .inl (cI.1, 10, .inl c_u)), (a_g, .inl (cI.1, 7, .inl c_g))] sz = A at hS hD hA ⊢
  have hl := lv_entry ([.ref a_n, .ref a_p, .ref a_u, .ref a_g, .int x4]) (n := 7) (Nat.le_of_ble_eq_true rfl)
  rw [lg_entry_eq]
  generalize (lg_sl ([.ref a_n, .ref a_p, .ref a_u, .ref a_g, .int x4]) ++ List.replicate (7 - (lg_sl ([.ref a_n, .ref a_p, .ref a_u, .ref a_g, .int x4])).length) Slot.unset).toArray = ls at hl ⊢
  have hl : lv_has ls 7 [(0, .ref a_n), (1, .ref a_p), (2, .ref a_u), (3, .ref a_g), (4, .int x4)] := hl

  have w_L44 : ∀ (n : Nat) (x5 : Int32) (x6 : Int32), m_L_cost_L44 fu x4 c_n c_p c_u c_g n x5 x6 = some r → ∀ (H : Heap) (locs : List Loc), va_P D vwCl [(a_n, .inl (cI.1, 6, .inl c_n)), (a_p, .inl (cI.1, 30, .inl c_p)), (a_u, .inl (cI.1, 10, .inl c_u)), (a_g, .inl (cI.1, 7, .inl c_g))] H → va_D A [(a_n, .inl (cI.1, 6, .inl c_n)), (a_p, .inl (cI.1, 30, .inl c_p)), (a_u, .inl (cI.1, 10, .inl c_u)), (a_g, .inl (cI.1, 7, .inl c_g))] → va_S A s.heap H locs → ∀ ls : Array Slot, lv_has ls 7 [(0, .ref a_n), (1, .ref a_p), (2, .ref a_u), (3, .ref a_g), (4, .int x4), (5, .int x5), (6, .int x6)] → W p l e rm_L_cost s m ([.ref a_n, .ref a_p, .ref a_u, .ref a_g, .int x4] : List Value).toArray below meth c H locs 0 0 (MQ below (zQi D A (fun v => v = r) (fun (u : Unit) => ([(a_n, .inl (cI.1, 6, .inl c_n)), (a_p, .inl (cI.1, 30, .inl c_p)), (a_u, .inl (cI.1, 10, .inl c_u)), (a_g, .inl (cI.1, 7, .inl c_g))] : va_W))) ([.ref a_n, .ref a_p, .ref a_u, .ref a_g, .int x4] : List Value).toArray s 0 0 A) (F0 m 44 ls []) := by
    intro n_44
    induction n_44 with
    | zero => intro x5 x6  hf; exact absurd hf (fun h => by cases h)
    | succ n_44 ih_44 =>
      intro x5 x6  hf H locs hP hD hS ls hl
      replace hf : m_L_cost_L44_b fu x4 c_n c_p c_u c_g  (m_L_cost_L44 fu x4 c_n c_p c_u c_g n_44) x5 x6 = some r := hf
      unfold m_L_cost_L44_b at hf
      refine lv_iload hx hb dL_cost_44 (lv_at hl 6 rfl) ?_
      refine lv_aload_n hx hb dL_cost_46 rfl (lv_at hl 3 rfl) ?_
      refine lv_iconst (v := 3) hx hb dL_cost_47 (by decide) ?_
      refine va_iald hx hb hK hP 3 0 (cA := cI.1) rfl rfl (show ¬ ((3 : Int32) < 0 ∨ 7 ≤ (3 : Int32).toNatClampNeg) by decide) dL_cost_48 ?_
      refine lv_icmp_ge (tgt := 133) hx hb dL_cost_49 (by decide) (fun c_4 => ?_) (fun c_4 => ?_)
      · replace hf := zit hf c_4
        refine lv_iload hx hb dL_cost_133 (lv_at hl 5 rfl) ?_
        obtain rfl := Option.some.inj hf
        exact zret_i hx hb hr rfl rfl () hP hD hS [0, 1, 2, 3] rfl (by decide) dL_cost_135 hlocks
      · replace hf := zif hf c_4
        refine lv_aload_n hx hb dL_cost_52 rfl (lv_at hl 0 rfl) ?_
        refine lv_aload_n hx hb dL_cost_53 rfl (lv_at hl 3 rfl) ?_
        refine lv_iload hx hb dL_cost_54 (lv_at hl 4 rfl) ?_
        refine lv_aload_n hx hb dL_cost_56 rfl (lv_at hl 2 rfl) ?_
        refine lv_iload hx hb dL_cost_57 (lv_at hl 6 rfl) ?_
        obtain ⟨b_5, hf⟩ := zib hf
        refine va_iald hx hb hK hP 2 0 (cA := cI.1) rfl rfl b_5 dL_cost_59 ?_
        refine lv_sipush (v := 1000) hx hb dL_cost_60 (by decide) ?_
        refine lv_idiv hx hb dL_cost_63 (by decide) ?_
        refine lv_bipush (v := 10) hx hb dL_cost_64 (by decide) ?_
        refine lv_irem hx hb dL_cost_66 (by decide) ?_
        obtain ⟨u_6, e_6, hf⟩ := zbd hf
        refine zcall_i (wr := [(a_p, .inl (cI.1, 30, .inl c_p)), (a_u, .inl (cI.1, 10, .inl c_u))]) (va_runS (As := [.ref a_n, .ref a_g, .int x4, .int (((c_u (x6).toNatClampNeg) / (1000 : Int32)) - ((c_u (x6).toNatClampNeg) / (1000 : Int32)) / (10 : Int32) * (10 : Int32))]) (rest := []) ⟨hx, hb, hml, hown, hts⟩ (c_L_digit l D cI H.size a_n a_g fu c_n c_g x4 (((c_u (x6).toNatClampNeg) / (1000 : Int32)) - ((c_u (x6).toNatClampNeg) / (1000 : Int32)) / (10 : Int32) * (10 : Int32)) u_6 e_6) (va_cwS 4 hts (zG_S kw_406 kw_407 kw_408 kw_405) rfl rfl rfl hd_L_digit ⟨Nat.le_of_ble_eq_true rfl, Nat.le_of_ble_eq_true rfl⟩) ⟨zblind, zpre hP hD hK hE [0, 3] rfl (by decide)⟩ rfl rfl hl.1 rfl (lv_room (Nat.le_of_ble_eq_true rfl)) dL_cost_67 ⟨Nat.le_of_ble_eq_true rfl, Nat.le_of_ble_eq_true rfl⟩) hP hD hS hA [0, 3] [1, 2] rfl rfl (by decide) (by decide) (fun r9 uu H locs hX9 hP hD hS => ?_)
        obtain rfl := hX9.symm
        have hP : va_P D vwCl [(a_p, .inl (cI.1, 30, .inl c_p)), (a_u, .inl (cI.1, 10, .inl c_u)), (a_n, .inl (cI.1, 6, .inl c_n)), (a_g, .inl (cI.1, 7, .inl c_g))] H := hP
        have hD : va_D A [(a_p, .inl (cI.1, 30, .inl c_p)), (a_u, .inl (cI.1, 10, .inl c_u)), (a_n, .inl (cI.1, 6, .inl c_n)), (a_g, .inl (cI.1, 7, .inl c_g))] := hD
        refine lv_aload_n hx hb dL_cost_70 rfl (lv_at hl 2 rfl) ?_
        refine lv_iload hx hb dL_cost_71 (lv_at hl 6 rfl) ?_
        refine va_iald hx hb hK hP 1 0 (cA := cI.1) rfl rfl b_5 dL_cost_73 ?_
        refine lv_bipush (v := 100) hx hb dL_cost_74 (by decide) ?_
        refine lv_idiv hx hb dL_cost_76 (by decide) ?_
        refine lv_bipush (v := 10) hx hb dL_cost_77 (by decide) ?_
        refine lv_irem hx hb dL_cost_79 (by decide) ?_
        refine lv_icmp_ne (tgt := 127) hx hb dL_cost_80 (by decide) (fun c_7 => ?_) (fun c_7 => ?_)
        · replace hf := zif hf c_7
          refine lv_iinc (v := x6 + 1) (lv' := [(6, .int (x6 + 1)), (0, .ref a_n), (1, .ref a_p), (2, .ref a_u), (3, .ref a_g), (4, .int x4), (5, .int x5)]) hx hb dL_cost_127 hl (k := 6) rfl rfl (by decide) rfl (fun ls hl => ?_)
          refine lv_goto (tgt := 44) hx hb dL_cost_130 (by decide) ?_
          exact ih_44 x5 (x6 + 1)  hf _ _ (hP.sub [2, 0, 1, 3] rfl) (hD.sub [2, 0, 1, 3] (by decide) rfl) hS _ (lv_sub hl [1, 2, 3, 4, 5, 6, 0] rfl)
        · replace hf := zit hf c_7
          refine lv_aload_n hx hb dL_cost_83 rfl (lv_at hl 0 rfl) ?_
          refine lv_aload_n hx hb dL_cost_84 rfl (lv_at hl 3 rfl) ?_
          refine lv_iload hx hb dL_cost_85 (lv_at hl 4 rfl) ?_
          refine lv_aload_n hx hb dL_cost_87 rfl (lv_at hl 2 rfl) ?_
          refine lv_iload hx hb dL_cost_88 (lv_at hl 6 rfl) ?_
          refine va_iald hx hb hK hP 1 0 (cA := cI.1) rfl rfl b_5 dL_cost_90 ?_
          refine lv_bipush (v := 10) hx hb dL_cost_91 (by decide) ?_
          refine lv_idiv hx hb dL_cost_93 (by decide) ?_
          refine lv_bipush (v := 10) hx hb dL_cost_94 (by decide) ?_
          refine lv_irem hx hb dL_cost_96 (by decide) ?_
          obtain ⟨u_8, e_8, hf⟩ := zbd hf
          refine zcall_i (wr := [(a_p, .inl (cI.1, 30, .inl c_p)), (a_u, .inl (cI.1, 10, .inl c_u))]) (va_runS (As := [.ref a_n, .ref a_g, .int x4, .int (((c_u (x6).toNatClampNeg) / (10 : Int32)) - ((c_u (x6).toNatClampNeg) / (10 : Int32)) / (10 : Int32) * (10 : Int32))]) (rest := []) ⟨hx, hb, hml, hown, hts⟩ (c_L_digit l D cI H.size a_n a_g fu c_n c_g x4 (((c_u (x6).toNatClampNeg) / (10 : Int32)) - ((c_u (x6).toNatClampNeg) / (10 : Int32)) / (10 : Int32) * (10 : Int32)) u_8 e_8) (va_cwS 4 hts (zG_S kw_406 kw_407 kw_408 kw_405) rfl rfl rfl hd_L_digit ⟨Nat.le_of_ble_eq_true rfl, Nat.le_of_ble_eq_true rfl⟩) ⟨zblind, zpre hP hD hK hE [2, 3] rfl (by decide)⟩ rfl rfl hl.1 rfl (lv_room (Nat.le_of_ble_eq_true rfl)) dL_cost_97 ⟨Nat.le_of_ble_eq_true rfl, Nat.le_of_ble_eq_true rfl⟩) hP hD hS hA [2, 3] [0, 1] rfl rfl (by decide) (by decide) (fun r9 uu H locs hX9 hP hD hS => ?_)
          obtain rfl := hX9.symm
          have hP : va_P D vwCl [(a_p, .inl (cI.1, 30, .inl c_p)), (a_u, .inl (cI.1, 10, .inl c_u)), (a_n, .inl (cI.1, 6, .inl c_n)), (a_g, .inl (cI.1, 7, .inl c_g))] H := hP
          have hD : va_D A [(a_p, .inl (cI.1, 30, .inl c_p)), (a_u, .inl (cI.1, 10, .inl c_u)), (a_n, .inl (cI.1, 6, .inl c_n)), (a_g, .inl (cI.1, 7, .inl c_g))] := hD
          refine lv_aload_n hx hb dL_cost_100 rfl (lv_at hl 2 rfl) ?_
          refine lv_iload hx hb dL_cost_101 (lv_at hl 6 rfl) ?_
          refine va_iald hx hb hK hP 1 0 (cA := cI.1) rfl rfl b_5 dL_cost_103 ?_
          refine lv_bipush (v := 10) hx hb dL_cost_104 (by decide) ?_
          refine lv_irem hx hb dL_cost_106 (by decide) ?_
          refine lv_icmp_ne (tgt := 127) hx hb dL_cost_107 (by decide) (fun c_9 => ?_) (fun c_9 => ?_)
          · replace hf := zif hf c_9
            refine lv_iinc (v := x6 + 1) (lv' := [(6, .int (x6 + 1)), (0, .ref a_n), (1, .ref a_p), (2, .ref a_u), (3, .ref a_g), (4, .int x4), (5, .int x5)]) hx hb dL_cost_127 hl (k := 6) rfl rfl (by decide) rfl (fun ls hl => ?_)
            refine lv_goto (tgt := 44) hx hb dL_cost_130 (by decide) ?_
            exact ih_44 x5 (x6 + 1)  hf _ _ (hP.sub [2, 0, 1, 3] rfl) (hD.sub [2, 0, 1, 3] (by decide) rfl) hS _ (lv_sub hl [1, 2, 3, 4, 5, 6, 0] rfl)
          · replace hf := zit hf c_9
            refine lv_iload hx hb dL_cost_110 (lv_at hl 5 rfl) ?_
            refine lv_aload_n hx hb dL_cost_112 rfl (lv_at hl 2 rfl) ?_
            refine lv_iload hx hb dL_cost_113 (lv_at hl 6 rfl) ?_
            refine va_iald hx hb hK hP 1 0 (cA := cI.1) rfl rfl b_5 dL_cost_115 ?_
            refine lv_sipush (v := 10000) hx hb dL_cost_116 (by decide) ?_
            refine lv_idiv hx hb dL_cost_119 (by decide) ?_
            refine lv_sipush (v := 500) hx hb dL_cost_120 (by decide) ?_
            refine lv_isub hx hb dL_cost_123 ?_
            refine lv_iadd hx hb dL_cost_124 ?_
            refine lv_istore (lv' := [(5, .int (x5 + (((c_u (x6).toNatClampNeg) / (10000 : Int32)) - (500 : Int32)))), (0, .ref a_n), (1, .ref a_p), (2, .ref a_u), (3, .ref a_g), (4, .int x4), (6, .int x6)]) hx hb dL_cost_125 hl (by decide) rfl (fun ls hl => ?_)
            refine lv_iinc (v := x6 + 1) (lv' := [(6, .int (x6 + 1)), (5, .int (x5 + (((c_u (x6).toNatClampNeg) / (10000 : Int32)) - (500 : Int32)))), (0, .ref a_n), (1, .ref a_p), (2, .ref a_u), (3, .ref a_g), (4, .int x4)]) hx hb dL_cost_127 hl (k := 6) rfl rfl (by decide) rfl (fun ls hl => ?_)
            refine lv_goto (tgt := 44) hx hb dL_cost_130 (by decide) ?_
            exact ih_44 (x5 + (((c_u (x6).toNatClampNeg) / (10000 : Int32)) - (500 : Int32))) (x6 + 1)  hf _ _ (hP.sub [2, 0, 1, 3] rfl) (hD.sub [2, 0, 1, 3] (by decide) rfl) hS _ (lv_sub hl [2, 3, 4, 5, 6, 1, 0] rfl)
  have w_L6 : ∀ (n : Nat) (x5 : Int32) (x6 : Int32), m_L_cost_L6 fu x4 c_n c_p c_u c_g n x5 x6 = some r → ∀ (H : Heap) (locs : List Loc), va_P D vwCl [(a_n, .inl (cI.1, 6, .inl c_n)), (a_p, .inl (cI.1, 30, .inl c_p)), (a_u, .inl (cI.1, 10, .inl c_u)), (a_g, .inl (cI.1, 7, .inl c_g))] H → va_D A [(a_n, .inl (cI.1, 6, .inl c_n)), (a_p, .inl (cI.1, 30, .inl c_p)), (a_u, .inl (cI.1, 10, .inl c_u)), (a_g, .inl (cI.1, 7, .inl c_g))] → va_S A s.heap H locs → ∀ ls : Array Slot, lv_has ls 7 [(0, .ref a_n), (1, .ref a_p), (2, .ref a_u), (3, .ref a_g), (4, .int x4), (5, .int x5), (6, .int x6)] → W p l e rm_L_cost s m ([.ref a_n, .ref a_p, .ref a_u, .ref a_g, .int x4] : List Value).toArray below meth c H locs 0 0 (MQ below (zQi D A (fun v => v = r) (fun (u : Unit) => ([(a_n, .inl (cI.1, 6, .inl c_n)), (a_p, .inl (cI.1, 30, .inl c_p)), (a_u, .inl (cI.1, 10, .inl c_u)), (a_g, .inl (cI.1, 7, .inl c_g))] : va_W))) ([.ref a_n, .ref a_p, .ref a_u, .ref a_g, .int x4] : List Value).toArray s 0 0 A) (F0 m 6 ls []) := by
    intro n_6
    induction n_6 with
    | zero => intro x5 x6  hf; exact absurd hf (fun h => by cases h)
    | succ n_6 ih_6 =>
      intro x5 x6  hf H locs hP hD hS ls hl
      replace hf : m_L_cost_L6_b fu x4 c_n c_p c_u c_g  (m_L_cost_L6 fu x4 c_n c_p c_u c_g n_6) x5 x6 = some r := hf
      unfold m_L_cost_L6_b at hf
      refine lv_iload hx hb dL_cost_6 (lv_at hl 6 rfl) ?_
      refine lv_aload_n hx hb dL_cost_8 rfl (lv_at hl 3 rfl) ?_
      refine lv_iconst (v := 0) hx hb dL_cost_9 (by decide) ?_
      refine va_iald hx hb hK hP 3 0 (cA := cI.1) rfl rfl (show ¬ ((0 : Int32) < 0 ∨ 7 ≤ (0 : Int32).toNatClampNeg) by decide) dL_cost_10 ?_
      refine lv_icmp_ge (tgt := 41) hx hb dL_cost_11 (by decide) (fun c_1 => ?_) (fun c_1 => ?_)
      · replace hf := zit hf c_1
        refine lv_iconst (v := 0) hx hb dL_cost_41 (by decide) ?_
        refine lv_istore (lv' := [(6, .int 0), (0, .ref a_n), (1, .ref a_p), (2, .ref a_u), (3, .ref a_g), (4, .int x4), (5, .int x5)]) hx hb dL_cost_42 hl (by decide) rfl (fun ls hl => ?_)
        exact w_L44 fu x5 (0 : Int32)  hf _ _ (hP.sub [0, 1, 2, 3] rfl) (hD.sub [0, 1, 2, 3] (by decide) rfl) hS _ (lv_sub hl [1, 2, 3, 4, 5, 6, 0] rfl)
      · replace hf := zif hf c_1
        refine lv_iload hx hb dL_cost_14 (lv_at hl 5 rfl) ?_
        refine lv_aload_n hx hb dL_cost_16 rfl (lv_at hl 1 rfl) ?_
        refine lv_iconst (v := 5) hx hb dL_cost_17 (by decide) ?_
        refine lv_iload hx hb dL_cost_18 (lv_at hl 6 rfl) ?_
        refine lv_imul hx hb dL_cost_20 ?_
        refine lv_aload_n hx hb dL_cost_21 rfl (lv_at hl 0 rfl) ?_
        refine lv_aload_n hx hb dL_cost_22 rfl (lv_at hl 3 rfl) ?_
        refine lv_iload hx hb dL_cost_23 (lv_at hl 4 rfl) ?_
        refine lv_iload hx hb dL_cost_25 (lv_at hl 6 rfl) ?_
        obtain ⟨u_2, e_2, hf⟩ := zbd hf
        refine zcall_i (wr := [(a_p, .inl (cI.1, 30, .inl c_p)), (a_u, .inl (cI.1, 10, .inl c_u))]) (va_runS (As := [.ref a_n, .ref a_g, .int x4, .int x6]) (rest := [.int ((5 : Int32) * x6), .ref a_p, .int x5]) ⟨hx, hb, hml, hown, hts⟩ (c_L_digit l D cI H.size a_n a_g fu c_n c_g x4 x6 u_2 e_2) (va_cwS 4 hts (zG_S kw_406 kw_407 kw_408 kw_405) rfl rfl rfl hd_L_digit ⟨Nat.le_of_ble_eq_true rfl, Nat.le_of_ble_eq_true rfl⟩) ⟨zblind, zpre hP hD hK hE [0, 3] rfl (by decide)⟩ rfl rfl hl.1 rfl (lv_room (Nat.le_of_ble_eq_true rfl)) dL_cost_27 ⟨Nat.le_of_ble_eq_true rfl, Nat.le_of_ble_eq_true rfl⟩) hP hD hS hA [0, 3] [1, 2] rfl rfl (by decide) (by decide) (fun r9 uu H locs hX9 hP hD hS => ?_)
        obtain rfl := hX9.symm
        have hP : va_P D vwCl [(a_p, .inl (cI.1, 30, .inl c_p)), (a_u, .inl (cI.1, 10, .inl c_u)), (a_n, .inl (cI.1, 6, .inl c_n)), (a_g, .inl (cI.1, 7, .inl c_g))] H := hP
        have hD : va_D A [(a_p, .inl (cI.1, 30, .inl c_p)), (a_u, .inl (cI.1, 10, .inl c_u)), (a_n, .inl (cI.1, 6, .inl c_n)), (a_g, .inl (cI.1, 7, .inl c_g))] := hD
        refine lv_iadd hx hb dL_cost_30 ?_
        obtain ⟨b_3, hf⟩ := zib hf
        refine va_iald hx hb hK hP 0 0 (cA := cI.1) rfl rfl b_3 dL_cost_31 ?_
        refine lv_iadd hx hb dL_cost_32 ?_
        refine lv_istore (lv' := [(5, .int (x5 + (c_p (((5 : Int32) * x6) + u_2).toNatClampNeg))), (0, .ref a_n), (1, .ref a_p), (2, .ref a_u), (3, .ref a_g), (4, .int x4), (6, .int x6)]) hx hb dL_cost_33 hl (by decide) rfl (fun ls hl => ?_)
        refine lv_iinc (v := x6 + 1) (lv' := [(6, .int (x6 + 1)), (5, .int (x5 + (c_p (((5 : Int32) * x6) + u_2).toNatClampNeg))), (0, .ref a_n), (1, .ref a_p), (2, .ref a_u), (3, .ref a_g), (4, .int x4)]) hx hb dL_cost_35 hl (k := 6) rfl rfl (by decide) rfl (fun ls hl => ?_)
        refine lv_goto (tgt := 6) hx hb dL_cost_38 (by decide) ?_
        exact ih_6 (x5 + (c_p (((5 : Int32) * x6) + u_2).toNatClampNeg)) (x6 + 1)  hf _ _ (hP.sub [2, 0, 1, 3] rfl) (hD.sub [2, 0, 1, 3] (by decide) rfl) hS _ (lv_sub hl [2, 3, 4, 5, 6, 1, 0] rfl)
  refine lv_iconst (v := 0) hx hb dL_cost_0 (by decide) ?_
  refine lv_istore (lv' := [(5, .int 0), (0, .ref a_n), (1, .ref a_p), (2, .ref a_u), (3, .ref a_g), (4, .int x4)]) hx hb dL_cost_1 hl (by decide) rfl (fun ls hl => ?_)
  refine lv_iconst (v := 0) hx hb dL_cost_3 (by decide) ?_
  refine lv_istore (lv' := [(6, .int 0), (5, .int 0), (0, .ref a_n), (1, .ref a_p), (2, .ref a_u), (3, .ref a_g), (4, .int x4)]) hx hb dL_cost_4 hl (by decide) rfl (fun ls hl => ?_)
  exact w_L6 fu (0 : Int32) (0 : Int32)  hf _ _ (hP.sub [0, 1, 2, 3] rfl) (hD.sub [0, 1, 2, 3] (by decide) rfl) hS _ (lv_sub hl [2, 3, 4, 5, 6, 1, 0] rfl)
noncomputable def m_L_together_L3_b (fu : Nat) (x2 : Int32) (x3 : Int32) (x4 : Int32) (x5 : Int32) (c_r : Nat → Int32) (c_g : Nat → Int32)  (k3 : Int32 → Option (Int32)) (x6 : Int32) : Option (Int32) :=
  if c_g ((1 : Int32)).toNatClampNeg ≤ x6 then some (1 : Int32) else if ((c_g ((2 : Int32)).toNatClampNeg) >>> (x6 &&& 31)) &&& (1 : Int32) = (0 : Int32) then k3 (x6 + 1) else if x6 < 0 ∨ 20 ≤ (x6).toNatClampNeg then none else if ((c_r (x6).toNatClampNeg) / (1000 : Int32)) - ((c_r (x6).toNatClampNeg) / (1000 : Int32)) / (10 : Int32) * (10 : Int32) = x2 then if ((c_r (x6).toNatClampNeg) / (10 : Int32)) - ((c_r (x6).toNatClampNeg) / (10 : Int32)) / (10 : Int32) * (10 : Int32) = x4 then (m_L_isKept (c_r (x6).toNatClampNeg) x3 x5).bind fun u_14 => if u_14 = (0 : Int32) then some (0 : Int32) else if ((c_r (x6).toNatClampNeg) / (1000 : Int32)) - ((c_r (x6).toNatClampNeg) / (1000 : Int32)) / (10 : Int32) * (10 : Int32) = x4 then if ((c_r (x6).toNatClampNeg) / (10 : Int32)) - ((c_r (x6).toNatClampNeg) / (10 : Int32)) / (10 : Int32) * (10 : Int32) = x2 then (m_L_isKept (c_r (x6).toNatClampNeg) x5 x3).bind fun u_18 => if u_18 = (0 : Int32) then some (0 : Int32) else k3 (x6 + 1) else k3 (x6 + 1) else k3 (x6 + 1) else if ((c_r (x6).toNatClampNeg) / (1000 : Int32)) - ((c_r (x6).toNatClampNeg) / (1000 : Int32)) / (10 : Int32) * (10 : Int32) = x4 then if ((c_r (x6).toNatClampNeg) / (10 : Int32)) - ((c_r (x6).toNatClampNeg) / (10 : Int32)) / (10 : Int32) * (10 : Int32) = x2 then (m_L_isKept (c_r (x6).toNatClampNeg) x5 x3).bind fun u_12 => if u_12 = (0 : Int32) then some (0 : Int32) else k3 (x6 + 1) else k3 (x6 + 1) else k3 (x6 + 1) else if ((c_r (x6).toNatClampNeg) / (1000 : Int32)) - ((c_r (x6).toNatClampNeg) / (1000 : Int32)) / (10 : Int32) * (10 : Int32) = x4 then if ((c_r (x6).toNatClampNeg) / (10 : Int32)) - ((c_r (x6).toNatClampNeg) / (10 : Int32)) / (10 : Int32) * (10 : Int32) = x2 then (m_L_isKept (c_r (x6).toNatClampNeg) x5 x3).bind fun u_7 => if u_7 = (0 : Int32) then some (0 : Int32) else k3 (x6 + 1) else k3 (x6 + 1) else k3 (x6 + 1)
noncomputable def m_L_together_L3 (fu : Nat) (x2 : Int32) (x3 : Int32) (x4 : Int32) (x5 : Int32) (c_r : Nat → Int32) (c_g : Nat → Int32)  (n : Nat) : Int32 → Option (Int32) :=
  Nat.rec (motive := fun _ => Int32 → Option (Int32)) (fun _ => none) (fun _ ih => m_L_together_L3_b fu x2 x3 x4 x5 c_r c_g  ih) n
noncomputable def m_L_together (fu : Nat) (c_r : Nat → Int32) (c_g : Nat → Int32) (x2 : Int32) (x3 : Int32) (x4 : Int32) (x5 : Int32) : Option (Int32) :=
  m_L_together_L3 fu x2 x3 x4 x5 c_r c_g fu (0 : Int32)
def rm_L_together : Room := { frames := 1, cells := 0, slots := 0, locals := 24 }
theorem hd_L_together : yL_together.cls ≠ "java/lang/invoke/MethodHandle" ∧ yL_together.cls ≠ "java/lang/invoke/VarHandle" ∧ (parseMethodDescriptor yL_together.desc).map (fun d => d.parameters.length) = some 6 := by decide +kernel
set_option maxHeartbeats 4000000 in
set_option maxRecDepth 100000 in
theorem c_L_together (l : Launch) (D : va_G) (cI : ClassId × ClassId) (sz : Nat) (a_r : Nat) (a_g : Nat) (fu : Nat) (c_r : Nat → Int32) (c_g : Nat → Int32) (x2 : Int32) (x3 : Int32) (x4 : Int32) (x5 : Int32) (r : Int32) (hf : m_L_together fu c_r c_g x2 x3 x4 x5 = some r) : Met l yL_together (zw (Cond.code yL_together cL_together 9 (some .boolean))) rm_L_together (va_Pc [.ref a_r, .ref a_g, .int x2, .int x3, .int x4, .int x5] (zA D cI [(a_r, .inl (cI.1, 20, .inl c_r)), (a_g, .inl (cI.1, 7, .inl c_g))] sz)) (zQi D (va_A [(a_r, .inl (cI.1, 20, .inl c_r)), (a_g, .inl (cI.1, 7, .inl c_g))] sz) (fun v => v = r ∧ narrow .boolean (.int v) = .int v) (fun (u : Unit) => ([(a_r, .inl (cI.1, 20, .inl c_r)), (a_g, .inl (cI.1, 7, .inl c_g))] : va_W))) 0 0 (va_A [(a_r, .inl (cI.1, 20, .inl c_r)), (a_g, .inl (cI.1, 7, .inl c_g))] sz) := by
  unfold m_L_together at hf
  refine zhead (C := RL) (by decide +kernel) rfl ?_
  intro p e s m below meth c hx hb hr hlocks hml hown hnm hts hE hK H hP hS hD hA
  generalize va_A [(a_r, .inl (cI.1, 20, .inl c_r)), (a_g, .inl (cI.1, 7, .inl c_g))] sz = A at hS hD hA ⊢
  have hl := lv_entry ([.ref a_r, .ref a_g, .int x2, .int x3, .int x4, .int x5]) (n := 9) (Nat.le_of_ble_eq_true rfl)
  rw [lg_entry_eq]
  generalize (lg_sl ([.ref a_r, .ref a_g, .int x2, .int x3, .int x4, .int x5]) ++ List.replicate (9 - (lg_sl ([.ref a_r, .ref a_g, .int x2, .int x3, .int x4, .int x5])).length) Slot.unset).toArray = ls at hl ⊢
  have hl : lv_has ls 9 [(0, .ref a_r), (1, .ref a_g), (2, .int x2), (3, .int x3), (4, .int x4), (5, .int x5)] := hl

  have w_L3 : ∀ (n : Nat) (x6 : Int32), m_L_together_L3 fu x2 x3 x4 x5 c_r c_g n x6 = some r → ∀ (H : Heap) (locs : List Loc), va_P D vwCl [(a_r, .inl (cI.1, 20, .inl c_r)), (a_g, .inl (cI.1, 7, .inl c_g))] H → va_D A [(a_r, .inl (cI.1, 20, .inl c_r)), (a_g, .inl (cI.1, 7, .inl c_g))] → va_S A s.heap H locs → ∀ ls : Array Slot, lv_has ls 9 [(0, .ref a_r), (1, .ref a_g), (2, .int x2), (3, .int x3), (4, .int x4), (5, .int x5), (6, .int x6)] → W p l e rm_L_together s m ([.ref a_r, .ref a_g, .int x2, .int x3, .int x4, .int x5] : List Value).toArray below meth c H locs 0 0 (MQ below (zQi D A (fun v => v = r ∧ narrow .boolean (.int v) = .int v) (fun (u : Unit) => ([(a_r, .inl (cI.1, 20, .inl c_r)), (a_g, .inl (cI.1, 7, .inl c_g))] : va_W))) ([.ref a_r, .ref a_g, .int x2, .int x3, .int x4, .int x5] : List Value).toArray s 0 0 A) (F0 m 3 ls []) := by
    intro n_3
    induction n_3 with
    | zero => intro x6  hf; exact absurd hf (fun h => by cases h)
    | succ n_3 ih_3 =>
      intro x6  hf H locs hP hD hS ls hl
      replace hf : m_L_together_L3_b fu x2 x3 x4 x5 c_r c_g  (m_L_together_L3 fu x2 x3 x4 x5 c_r c_g n_3) x6 = some r := hf
      unfold m_L_together_L3_b at hf
      refine lv_iload hx hb dL_together_3 (lv_at hl 6 rfl) ?_
      refine lv_aload_n hx hb dL_together_5 rfl (lv_at hl 1 rfl) ?_
      refine lv_iconst (v := 1) hx hb dL_together_6 (by decide) ?_
      refine va_iald hx hb hK hP 1 0 (cA := cI.1) rfl rfl (show ¬ ((1 : Int32) < 0 ∨ 7 ≤ (1 : Int32).toNatClampNeg) by decide) dL_together_7 ?_
      refine lv_icmp_ge (tgt := 110) hx hb dL_together_8 (by decide) (fun c_1 => ?_) (fun c_1 => ?_)
      · replace hf := zit hf c_1
        refine lv_iconst (v := 1) hx hb dL_together_110 (by decide) ?_
        obtain rfl := Option.some.inj hf
        exact zret_i hx hb hr rfl ⟨rfl, rfl⟩ () hP hD hS [0, 1] rfl (by decide) dL_together_111 hlocks
      · replace hf := zif hf c_1
        refine lv_aload_n hx hb dL_together_11 rfl (lv_at hl 1 rfl) ?_
        refine lv_iconst (v := 2) hx hb dL_together_12 (by decide) ?_
        refine va_iald hx hb hK hP 1 0 (cA := cI.1) rfl rfl (show ¬ ((2 : Int32) < 0 ∨ 7 ≤ (2 : Int32).toNatClampNeg) by decide) dL_together_13 ?_
        refine lv_iload hx hb dL_together_14 (lv_at hl 6 rfl) ?_
        refine lv_ishr hx hb dL_together_16 ?_
        refine lv_iconst (v := 1) hx hb dL_together_17 (by decide) ?_
        refine lv_iand hx hb dL_together_18 ?_
        refine lv_if_ne (tgt := 25) hx hb dL_together_19 (by decide) (fun c_2 => ?_) (fun c_2 => ?_)
        · replace hf := zif hf c_2
          refine lv_aload_n hx hb dL_together_25 rfl (lv_at hl 0 rfl) ?_
          refine lv_iload hx hb dL_together_26 (lv_at hl 6 rfl) ?_
          obtain ⟨b_3, hf⟩ := zib hf
          refine va_iald hx hb hK hP 0 0 (cA := cI.1) rfl rfl b_3 dL_together_28 ?_
          refine lv_sipush (v := 1000) hx hb dL_together_29 (by decide) ?_
          refine lv_idiv hx hb dL_together_32 (by decide) ?_
          refine lv_bipush (v := 10) hx hb dL_together_33 (by decide) ?_
          refine lv_irem hx hb dL_together_35 (by decide) ?_
          refine lv_istore (lv' := [(7, .int (((c_r (x6).toNatClampNeg) / (1000 : Int32)) - ((c_r (x6).toNatClampNeg) / (1000 : Int32)) / (10 : Int32) * (10 : Int32))), (0, .ref a_r), (1, .ref a_g), (2, .int x2), (3, .int x3), (4, .int x4), (5, .int x5), (6, .int x6)]) hx hb dL_together_36 hl (by decide) rfl (fun ls hl => ?_)
          refine lv_aload_n hx hb dL_together_38 rfl (lv_at hl 1 rfl) ?_
          refine lv_iload hx hb dL_together_39 (lv_at hl 7 rfl) ?_
          refine va_iald hx hb hK hP 0 0 (cA := cI.1) rfl rfl b_3 dL_together_41 ?_
          refine lv_bipush (v := 10) hx hb dL_together_42 (by decide) ?_
          refine lv_idiv hx hb dL_together_44 (by decide) ?_
          refine lv_bipush (v := 10) hx hb dL_together_45 (by decide) ?_
          refine lv_irem hx hb dL_together_47 (by decide) ?_
          refine lv_istore (lv' := [(8, .int (((c_r (x6).toNatClampNeg) / (10 : Int32)) - ((c_r (x6).toNatClampNeg) / (10 : Int32)) / (10 : Int32) * (10 : Int32))), (7, .int (((c_r (x6).toNatClampNeg) / (1000 : Int32)) - ((c_r (x6).toNatClampNeg) / (1000 : Int32)) / (10 : Int32) * (10 : Int32))), (0, .ref a_r), (1, .ref a_g), (2, .int x2), (3, .int x3), (4, .int x4), (5, .int x5), (6, .int x6)]) hx hb dL_together_48 hl (by decide) rfl (fun ls hl => ?_)
          refine lv_iload hx hb dL_together_50 (lv_at hl 1 rfl) ?_
          refine lv_iload_n hx hb dL_together_52 rfl (lv_at hl 4 rfl) ?_
          refine lv_icmp_ne (tgt := 76) hx hb dL_together_53 (by decide) (fun c_4 => ?_) (fun c_4 => ?_)
          · replace hf := zif hf c_4
            refine lv_iload hx hb dL_together_76 (lv_at hl 1 rfl) ?_
            refine lv_iload hx hb dL_together_78 (lv_at hl 6 rfl) ?_
            refine lv_icmp_ne (tgt := 104) hx hb dL_together_80 (by decide) (fun c_5 => ?_) (fun c_5 => ?_)
            · replace hf := zif hf c_5
              refine lv_iinc (v := x6 + 1) (lv' := [(6, .int (x6 + 1)), (8, .int (((c_r (x6).toNatClampNeg) / (10 : Int32)) - ((c_r (x6).toNatClampNeg) / (10 : Int32)) / (10 : Int32) * (10 : Int32))), (7, .int (((c_r (x6).toNatClampNeg) / (1000 : Int32)) - ((c_r (x6).toNatClampNeg) / (1000 : Int32)) / (10 : Int32) * (10 : Int32))), (0, .ref a_r), (1, .ref a_g), (2, .int x2), (3, .int x3), (4, .int x4), (5, .int x5)]) hx hb dL_together_104 hl (k := 8) rfl rfl (by decide) rfl (fun ls hl => ?_)
              refine lv_goto (tgt := 3) hx hb dL_together_107 (by decide) ?_
              exact ih_3 (x6 + 1)  hf _ _ (hP.sub [0, 1] rfl) (hD.sub [0, 1] (by decide) rfl) hS _ (lv_sub hl [3, 4, 5, 6, 7, 8, 0] rfl)
            · replace hf := zit hf c_5
              refine lv_iload hx hb dL_together_83 (lv_at hl 0 rfl) ?_
              refine lv_iload_n hx hb dL_together_85 rfl (lv_at hl 4 rfl) ?_
              refine lv_icmp_ne (tgt := 104) hx hb dL_together_86 (by decide) (fun c_6 => ?_) (fun c_6 => ?_)
              · replace hf := zif hf c_6
                refine lv_iinc (v := x6 + 1) (lv' := [(6, .int (x6 + 1)), (8, .int (((c_r (x6).toNatClampNeg) / (10 : Int32)) - ((c_r (x6).toNatClampNeg) / (10 : Int32)) / (10 : Int32) * (10 : Int32))), (7, .int (((c_r (x6).toNatClampNeg) / (1000 : Int32)) - ((c_r (x6).toNatClampNeg) / (1000 : Int32)) / (10 : Int32) * (10 : Int32))), (0, .ref a_r), (1, .ref a_g), (2, .int x2), (3, .int x3), (4, .int x4), (5, .int x5)]) hx hb dL_together_104 hl (k := 8) rfl rfl (by decide) rfl (fun ls hl => ?_)
                refine lv_goto (tgt := 3) hx hb dL_together_107 (by decide) ?_
                exact ih_3 (x6 + 1)  hf _ _ (hP.sub [0, 1] rfl) (hD.sub [0, 1] (by decide) rfl) hS _ (lv_sub hl [3, 4, 5, 6, 7, 8, 0] rfl)
              · replace hf := zit hf c_6
                refine lv_aload_n hx hb dL_together_89 rfl (lv_at hl 2 rfl) ?_
                refine lv_iload hx hb dL_together_90 (lv_at hl 8 rfl) ?_
                refine va_iald hx hb hK hP 0 0 (cA := cI.1) rfl rfl b_3 dL_together_92 ?_
                refine lv_iload hx hb dL_together_93 (lv_at hl 7 rfl) ?_
                refine lv_iload_n hx hb dL_together_95 rfl (lv_at hl 5 rfl) ?_
                obtain ⟨u_7, e_7, hf⟩ := zbd hf
                refine zcall_i (wr := [(a_r, .inl (cI.1, 20, .inl c_r)), (a_g, .inl (cI.1, 7, .inl c_g))]) (va_runS (As := [.int (c_r (x6).toNatClampNeg), .int x5, .int x3]) (rest := []) ⟨hx, hb, hml, hown, hts⟩ (c_L_isKept l D cI H.size (c_r (x6).toNatClampNeg) x5 x3 u_7 e_7) (va_cwS 3 hts (zG_S kw_410 kw_411 kw_408 kw_409) rfl rfl rfl hd_L_isKept ⟨Nat.le_of_ble_eq_true rfl, Nat.le_of_ble_eq_true rfl⟩) ⟨zblind, zpre hP hD hK hE [] rfl (by decide)⟩ rfl rfl hl.1 rfl (lv_room (Nat.le_of_ble_eq_true rfl)) dL_together_96 ⟨Nat.le_of_ble_eq_true rfl, Nat.le_of_ble_eq_true rfl⟩) hP hD hS hA [] [0, 1] rfl rfl (by decide) (by decide) (fun r9 uu H locs hX9 hP hD hS => ?_)
                obtain ⟨hX8, hb_7⟩ := hX9
                obtain rfl := hX8.symm
                have hP : va_P D vwCl [(a_r, .inl (cI.1, 20, .inl c_r)), (a_g, .inl (cI.1, 7, .inl c_g))] H := hP
                have hD : va_D A [(a_r, .inl (cI.1, 20, .inl c_r)), (a_g, .inl (cI.1, 7, .inl c_g))] := hD
                refine lv_if_ne (tgt := 104) hx hb dL_together_99 (by decide) (fun c_8 => ?_) (fun c_8 => ?_)
                · replace hf := zif hf c_8
                  refine lv_iinc (v := x6 + 1) (lv' := [(6, .int (x6 + 1)), (8, .int (((c_r (x6).toNatClampNeg) / (10 : Int32)) - ((c_r (x6).toNatClampNeg) / (10 : Int32)) / (10 : Int32) * (10 : Int32))), (7, .int (((c_r (x6).toNatClampNeg) / (1000 : Int32)) - ((c_r (x6).toNatClampNeg) / (1000 : Int32)) / (10 : Int32) * (10 : Int32))), (0, .ref a_r), (1, .ref a_g), (2, .int x2), (3, .int x3), (4, .int x4), (5, .int x5)]) hx hb dL_together_104 hl (k := 8) rfl rfl (by decide) rfl (fun ls hl => ?_)
                  refine lv_goto (tgt := 3) hx hb dL_together_107 (by decide) ?_
                  exact ih_3 (x6 + 1)  hf _ _ (hP.sub [0, 1] rfl) (hD.sub [0, 1] (by decide) rfl) hS _ (lv_sub hl [3, 4, 5, 6, 7, 8, 0] rfl)
                · replace hf := zit hf c_8
                  refine lv_iconst (v := 0) hx hb dL_together_102 (by decide) ?_
                  obtain rfl := Option.some.inj hf
                  exact zret_i hx hb hr rfl ⟨rfl, rfl⟩ () hP hD hS [0, 1] rfl (by decide) dL_together_103 hlocks
          · replace hf := zit hf c_4
            refine lv_iload hx hb dL_together_56 (lv_at hl 0 rfl) ?_
            refine lv_iload hx hb dL_together_58 (lv_at hl 6 rfl) ?_
            refine lv_icmp_ne (tgt := 76) hx hb dL_together_60 (by decide) (fun c_9 => ?_) (fun c_9 => ?_)
            · replace hf := zif hf c_9
              refine lv_iload hx hb dL_together_76 (lv_at hl 1 rfl) ?_
              refine lv_iload hx hb dL_together_78 (lv_at hl 6 rfl) ?_
              refine lv_icmp_ne (tgt := 104) hx hb dL_together_80 (by decide) (fun c_10 => ?_) (fun c_10 => ?_)
              · replace hf := zif hf c_10
                refine lv_iinc (v := x6 + 1) (lv' := [(6, .int (x6 + 1)), (8, .int (((c_r (x6).toNatClampNeg) / (10 : Int32)) - ((c_r (x6).toNatClampNeg) / (10 : Int32)) / (10 : Int32) * (10 : Int32))), (7, .int (((c_r (x6).toNatClampNeg) / (1000 : Int32)) - ((c_r (x6).toNatClampNeg) / (1000 : Int32)) / (10 : Int32) * (10 : Int32))), (0, .ref a_r), (1, .ref a_g), (2, .int x2), (3, .int x3), (4, .int x4), (5, .int x5)]) hx hb dL_together_104 hl (k := 8) rfl rfl (by decide) rfl (fun ls hl => ?_)
                refine lv_goto (tgt := 3) hx hb dL_together_107 (by decide) ?_
                exact ih_3 (x6 + 1)  hf _ _ (hP.sub [0, 1] rfl) (hD.sub [0, 1] (by decide) rfl) hS _ (lv_sub hl [3, 4, 5, 6, 7, 8, 0] rfl)
              · replace hf := zit hf c_10
                refine lv_iload hx hb dL_together_83 (lv_at hl 0 rfl) ?_
                refine lv_iload_n hx hb dL_together_85 rfl (lv_at hl 4 rfl) ?_
                refine lv_icmp_ne (tgt := 104) hx hb dL_together_86 (by decide) (fun c_11 => ?_) (fun c_11 => ?_)
                · replace hf := zif hf c_11
                  refine lv_iinc (v := x6 + 1) (lv' := [(6, .int (x6 + 1)), (8, .int (((c_r (x6).toNatClampNeg) / (10 : Int32)) - ((c_r (x6).toNatClampNeg) / (10 : Int32)) / (10 : Int32) * (10 : Int32))), (7, .int (((c_r (x6).toNatClampNeg) / (1000 : Int32)) - ((c_r (x6).toNatClampNeg) / (1000 : Int32)) / (10 : Int32) * (10 : Int32))), (0, .ref a_r), (1, .ref a_g), (2, .int x2), (3, .int x3), (4, .int x4), (5, .int x5)]) hx hb dL_together_104 hl (k := 8) rfl rfl (by decide) rfl (fun ls hl => ?_)
                  refine lv_goto (tgt := 3) hx hb dL_together_107 (by decide) ?_
                  exact ih_3 (x6 + 1)  hf _ _ (hP.sub [0, 1] rfl) (hD.sub [0, 1] (by decide) rfl) hS _ (lv_sub hl [3, 4, 5, 6, 7, 8, 0] rfl)
                · replace hf := zit hf c_11
                  refine lv_aload_n hx hb dL_together_89 rfl (lv_at hl 2 rfl) ?_
                  refine lv_iload hx hb dL_together_90 (lv_at hl 8 rfl) ?_
                  refine va_iald hx hb hK hP 0 0 (cA := cI.1) rfl rfl b_3 dL_together_92 ?_
                  refine lv_iload hx hb dL_together_93 (lv_at hl 7 rfl) ?_
                  refine lv_iload_n hx hb dL_together_95 rfl (lv_at hl 5 rfl) ?_
                  obtain ⟨u_12, e_12, hf⟩ := zbd hf
                  refine zcall_i (wr := [(a_r, .inl (cI.1, 20, .inl c_r)), (a_g, .inl (cI.1, 7, .inl c_g))]) (va_runS (As := [.int (c_r (x6).toNatClampNeg), .int x5, .int x3]) (rest := []) ⟨hx, hb, hml, hown, hts⟩ (c_L_isKept l D cI H.size (c_r (x6).toNatClampNeg) x5 x3 u_12 e_12) (va_cwS 3 hts (zG_S kw_410 kw_411 kw_408 kw_409) rfl rfl rfl hd_L_isKept ⟨Nat.le_of_ble_eq_true rfl, Nat.le_of_ble_eq_true rfl⟩) ⟨zblind, zpre hP hD hK hE [] rfl (by decide)⟩ rfl rfl hl.1 rfl (lv_room (Nat.le_of_ble_eq_true rfl)) dL_together_96 ⟨Nat.le_of_ble_eq_true rfl, Nat.le_of_ble_eq_true rfl⟩) hP hD hS hA [] [0, 1] rfl rfl (by decide) (by decide) (fun r9 uu H locs hX9 hP hD hS => ?_)
                  obtain ⟨hX8, hb_12⟩ := hX9
                  obtain rfl := hX8.symm
                  have hP : va_P D vwCl [(a_r, .inl (cI.1, 20, .inl c_r)), (a_g, .inl (cI.1, 7, .inl c_g))] H := hP
                  have hD : va_D A [(a_r, .inl (cI.1, 20, .inl c_r)), (a_g, .inl (cI.1, 7, .inl c_g))] := hD
                  refine lv_if_ne (tgt := 104) hx hb dL_together_99 (by decide) (fun c_13 => ?_) (fun c_13 => ?_)
                  · replace hf := zif hf c_13
                    refine lv_iinc (v := x6 + 1) (lv' := [(6, .int (x6 + 1)), (8, .int (((c_r (x6).toNatClampNeg) / (10 : Int32)) - ((c_r (x6).toNatClampNeg) / (10 : Int32)) / (10 : Int32) * (10 : Int32))), (7, .int (((c_r (x6).toNatClampNeg) / (1000 : Int32)) - ((c_r (x6).toNatClampNeg) / (1000 : Int32)) / (10 : Int32) * (10 : Int32))), (0, .ref a_r), (1, .ref a_g), (2, .int x2), (3, .int x3), (4, .int x4), (5, .int x5)]) hx hb dL_together_104 hl (k := 8) rfl rfl (by decide) rfl (fun ls hl => ?_)
                    refine lv_goto (tgt := 3) hx hb dL_together_107 (by decide) ?_
                    exact ih_3 (x6 + 1)  hf _ _ (hP.sub [0, 1] rfl) (hD.sub [0, 1] (by decide) rfl) hS _ (lv_sub hl [3, 4, 5, 6, 7, 8, 0] rfl)
                  · replace hf := zit hf c_13
                    refine lv_iconst (v := 0) hx hb dL_together_102 (by decide) ?_
                    obtain rfl := Option.some.inj hf
                    exact zret_i hx hb hr rfl ⟨rfl, rfl⟩ () hP hD hS [0, 1] rfl (by decide) dL_together_103 hlocks
            · replace hf := zit hf c_9
              refine lv_aload_n hx hb dL_together_63 rfl (lv_at hl 2 rfl) ?_
              refine lv_iload hx hb dL_together_64 (lv_at hl 8 rfl) ?_
              refine va_iald hx hb hK hP 0 0 (cA := cI.1) rfl rfl b_3 dL_together_66 ?_
              refine lv_iload_n hx hb dL_together_67 rfl (lv_at hl 5 rfl) ?_
              refine lv_iload hx hb dL_together_68 (lv_at hl 7 rfl) ?_
              obtain ⟨u_14, e_14, hf⟩ := zbd hf
              refine zcall_i (wr := [(a_r, .inl (cI.1, 20, .inl c_r)), (a_g, .inl (cI.1, 7, .inl c_g))]) (va_runS (As := [.int (c_r (x6).toNatClampNeg), .int x3, .int x5]) (rest := []) ⟨hx, hb, hml, hown, hts⟩ (c_L_isKept l D cI H.size (c_r (x6).toNatClampNeg) x3 x5 u_14 e_14) (va_cwS 3 hts (zG_S kw_410 kw_411 kw_408 kw_409) rfl rfl rfl hd_L_isKept ⟨Nat.le_of_ble_eq_true rfl, Nat.le_of_ble_eq_true rfl⟩) ⟨zblind, zpre hP hD hK hE [] rfl (by decide)⟩ rfl rfl hl.1 rfl (lv_room (Nat.le_of_ble_eq_true rfl)) dL_together_70 ⟨Nat.le_of_ble_eq_true rfl, Nat.le_of_ble_eq_true rfl⟩) hP hD hS hA [] [0, 1] rfl rfl (by decide) (by decide) (fun r9 uu H locs hX9 hP hD hS => ?_)
              obtain ⟨hX8, hb_14⟩ := hX9
              obtain rfl := hX8.symm
              have hP : va_P D vwCl [(a_r, .inl (cI.1, 20, .inl c_r)), (a_g, .inl (cI.1, 7, .inl c_g))] H := hP
              have hD : va_D A [(a_r, .inl (cI.1, 20, .inl c_r)), (a_g, .inl (cI.1, 7, .inl c_g))] := hD
              refine lv_if_eq (tgt := 102) hx hb dL_together_73 (by decide) (fun c_15 => ?_) (fun c_15 => ?_)
              · replace hf := zit hf c_15
                refine lv_iconst (v := 0) hx hb dL_together_102 (by decide) ?_
                obtain rfl := Option.some.inj hf
                exact zret_i hx hb hr rfl ⟨rfl, rfl⟩ () hP hD hS [0, 1] rfl (by decide) dL_together_103 hlocks
              · replace hf := zif hf c_15
                refine lv_iload hx hb dL_together_76 (lv_at hl 1 rfl) ?_
                refine lv_iload hx hb dL_together_78 (lv_at hl 6 rfl) ?_
                refine lv_icmp_ne (tgt := 104) hx hb dL_together_80 (by decide) (fun c_16 => ?_) (fun c_16 => ?_)
                · replace hf := zif hf c_16
                  refine lv_iinc (v := x6 + 1) (lv' := [(6, .int (x6 + 1)), (8, .int (((c_r (x6).toNatClampNeg) / (10 : Int32)) - ((c_r (x6).toNatClampNeg) / (10 : Int32)) / (10 : Int32) * (10 : Int32))), (7, .int (((c_r (x6).toNatClampNeg) / (1000 : Int32)) - ((c_r (x6).toNatClampNeg) / (1000 : Int32)) / (10 : Int32) * (10 : Int32))), (0, .ref a_r), (1, .ref a_g), (2, .int x2), (3, .int x3), (4, .int x4), (5, .int x5)]) hx hb dL_together_104 hl (k := 8) rfl rfl (by decide) rfl (fun ls hl => ?_)
                  refine lv_goto (tgt := 3) hx hb dL_together_107 (by decide) ?_
                  exact ih_3 (x6 + 1)  hf _ _ (hP.sub [0, 1] rfl) (hD.sub [0, 1] (by decide) rfl) hS _ (lv_sub hl [3, 4, 5, 6, 7, 8, 0] rfl)
                · replace hf := zit hf c_16
                  refine lv_iload hx hb dL_together_83 (lv_at hl 0 rfl) ?_
                  refine lv_iload_n hx hb dL_together_85 rfl (lv_at hl 4 rfl) ?_
                  refine lv_icmp_ne (tgt := 104) hx hb dL_together_86 (by decide) (fun c_17 => ?_) (fun c_17 => ?_)
                  · replace hf := zif hf c_17
                    refine lv_iinc (v := x6 + 1) (lv' := [(6, .int (x6 + 1)), (8, .int (((c_r (x6).toNatClampNeg) / (10 : Int32)) - ((c_r (x6).toNatClampNeg) / (10 : Int32)) / (10 : Int32) * (10 : Int32))), (7, .int (((c_r (x6).toNatClampNeg) / (1000 : Int32)) - ((c_r (x6).toNatClampNeg) / (1000 : Int32)) / (10 : Int32) * (10 : Int32))), (0, .ref a_r), (1, .ref a_g), (2, .int x2), (3, .int x3), (4, .int x4), (5, .int x5)]) hx hb dL_together_104 hl (k := 8) rfl rfl (by decide) rfl (fun ls hl => ?_)
                    refine lv_goto (tgt := 3) hx hb dL_together_107 (by decide) ?_
                    exact ih_3 (x6 + 1)  hf _ _ (hP.sub [0, 1] rfl) (hD.sub [0, 1] (by decide) rfl) hS _ (lv_sub hl [3, 4, 5, 6, 7, 8, 0] rfl)
                  · replace hf := zit hf c_17
                    refine lv_aload_n hx hb dL_together_89 rfl (lv_at hl 2 rfl) ?_
                    refine lv_iload hx hb dL_together_90 (lv_at hl 8 rfl) ?_
                    refine va_iald hx hb hK hP 0 0 (cA := cI.1) rfl rfl b_3 dL_together_92 ?_
                    refine lv_iload hx hb dL_together_93 (lv_at hl 7 rfl) ?_
                    refine lv_iload_n hx hb dL_together_95 rfl (lv_at hl 5 rfl) ?_
                    obtain ⟨u_18, e_18, hf⟩ := zbd hf
                    refine zcall_i (wr := [(a_r, .inl (cI.1, 20, .inl c_r)), (a_g, .inl (cI.1, 7, .inl c_g))]) (va_runS (As := [.int (c_r (x6).toNatClampNeg), .int x5, .int x3]) (rest := []) ⟨hx, hb, hml, hown, hts⟩ (c_L_isKept l D cI H.size (c_r (x6).toNatClampNeg) x5 x3 u_18 e_18) (va_cwS 3 hts (zG_S kw_410 kw_411 kw_408 kw_409) rfl rfl rfl hd_L_isKept ⟨Nat.le_of_ble_eq_true rfl, Nat.le_of_ble_eq_true rfl⟩) ⟨zblind, zpre hP hD hK hE [] rfl (by decide)⟩ rfl rfl hl.1 rfl (lv_room (Nat.le_of_ble_eq_true rfl)) dL_together_96 ⟨Nat.le_of_ble_eq_true rfl, Nat.le_of_ble_eq_true rfl⟩) hP hD hS hA [] [0, 1] rfl rfl (by decide) (by decide) (fun r9 uu H locs hX9 hP hD hS => ?_)
                    obtain ⟨hX8, hb_18⟩ := hX9
                    obtain rfl := hX8.symm
                    have hP : va_P D vwCl [(a_r, .inl (cI.1, 20, .inl c_r)), (a_g, .inl (cI.1, 7, .inl c_g))] H := hP
                    have hD : va_D A [(a_r, .inl (cI.1, 20, .inl c_r)), (a_g, .inl (cI.1, 7, .inl c_g))] := hD
                    refine lv_if_ne (tgt := 104) hx hb dL_together_99 (by decide) (fun c_19 => ?_) (fun c_19 => ?_)
                    · replace hf := zif hf c_19
                      refine lv_iinc (v := x6 + 1) (lv' := [(6, .int (x6 + 1)), (8, .int (((c_r (x6).toNatClampNeg) / (10 : Int32)) - ((c_r (x6).toNatClampNeg) / (10 : Int32)) / (10 : Int32) * (10 : Int32))), (7, .int (((c_r (x6).toNatClampNeg) / (1000 : Int32)) - ((c_r (x6).toNatClampNeg) / (1000 : Int32)) / (10 : Int32) * (10 : Int32))), (0, .ref a_r), (1, .ref a_g), (2, .int x2), (3, .int x3), (4, .int x4), (5, .int x5)]) hx hb dL_together_104 hl (k := 8) rfl rfl (by decide) rfl (fun ls hl => ?_)
                      refine lv_goto (tgt := 3) hx hb dL_together_107 (by decide) ?_
                      exact ih_3 (x6 + 1)  hf _ _ (hP.sub [0, 1] rfl) (hD.sub [0, 1] (by decide) rfl) hS _ (lv_sub hl [3, 4, 5, 6, 7, 8, 0] rfl)
                    · replace hf := zit hf c_19
                      refine lv_iconst (v := 0) hx hb dL_together_102 (by decide) ?_
                      obtain rfl := Option.some.inj hf
                      exact zret_i hx hb hr rfl ⟨rfl, rfl⟩ () hP hD hS [0, 1] rfl (by decide) dL_together_103 hlocks
        · replace hf := zit hf c_2
          refine lv_goto (tgt := 104) hx hb dL_together_22 (by decide) ?_
          refine lv_iinc (v := x6 + 1) (lv' := [(6, .int (x6 + 1)), (0, .ref a_r), (1, .ref a_g), (2, .int x2), (3, .int x3), (4, .int x4), (5, .int x5)]) hx hb dL_together_104 hl (k := 6) rfl rfl (by decide) rfl (fun ls hl => ?_)
          refine lv_goto (tgt := 3) hx hb dL_together_107 (by decide) ?_
          exact ih_3 (x6 + 1)  hf _ _ (hP.sub [0, 1] rfl) (hD.sub [0, 1] (by decide) rfl) hS _ (lv_sub hl [1, 2, 3, 4, 5, 6, 0] rfl)
  refine lv_iconst (v := 0) hx hb dL_together_0 (by decide) ?_
  refine lv_istore (lv' := [(6, .int 0), (0, .ref a_r), (1, .ref a_g), (2, .int x2), (3, .int x3), (4, .int x4), (5, .int x5)]) hx hb dL_together_1 hl (by decide) rfl (fun ls hl => ?_)
  exact w_L3 fu (0 : Int32)  hf _ _ (hP.sub [0, 1] rfl) (hD.sub [0, 1] (by decide) rfl) hS _ (lv_sub hl [1, 2, 3, 4, 5, 6, 0] rfl)
noncomputable def m_L_narrowed_L124_b (fu : Nat) (c_n : Nat → Int32) (c_r : Nat → Int32) (c_c : Nat → Int32) (c_g : Nat → Int32) (k59 : Int32 → Int32 → Option (Int32)) (k73 : Int32 → Int32 → Int32 → Option (Int32)) (k84 : Int32 → Int32 → Int32 → Int32 → Option (Int32)) (k99 : Int32 → Int32 → Int32 → Int32 → Int32 → Int32 → Option (Int32)) (k124 : Int32 → Int32 → Int32 → Int32 → Int32 → Int32 → Int32 → Int32 → Option (Int32)) (x4 : Int32) (x5 : Int32) (x6 : Int32) (x7 : Int32) (x8 : Int32) (x9 : Int32) (x10 : Int32) (x11 : Int32) : Option (Int32) :=
  if x9 < 0 ∨ 6 ≤ (x9).toNatClampNeg then none else if c_n (x9).toNatClampNeg ≤ x11 then k99 x4 x5 x6 x7 (x8 &&& x10) (x9 + 1) else if (x5 >>> ((((5 : Int32) * x9) + x11) &&& 31)) &&& (1 : Int32) = (1 : Int32) then (m_L_together fu c_r c_g x6 x7 x9 x11).bind fun u_14 => if u_14 = (0 : Int32) then k124 x4 x5 x6 x7 x8 x9 (x10 ||| (0 : Int32)) (x11 + 1) else k124 x4 x5 x6 x7 x8 x9 (x10 ||| (1 : Int32)) (x11 + 1) else k124 x4 x5 x6 x7 x8 x9 (x10 ||| (0 : Int32)) (x11 + 1)
noncomputable def m_L_narrowed_L124 (fu : Nat) (c_n : Nat → Int32) (c_r : Nat → Int32) (c_c : Nat → Int32) (c_g : Nat → Int32) (k59 : Int32 → Int32 → Option (Int32)) (k73 : Int32 → Int32 → Int32 → Option (Int32)) (k84 : Int32 → Int32 → Int32 → Int32 → Option (Int32)) (k99 : Int32 → Int32 → Int32 → Int32 → Int32 → Int32 → Option (Int32)) (n : Nat) : Int32 → Int32 → Int32 → Int32 → Int32 → Int32 → Int32 → Int32 → Option (Int32) :=
  Nat.rec (motive := fun _ => Int32 → Int32 → Int32 → Int32 → Int32 → Int32 → Int32 → Int32 → Option (Int32)) (fun _ _ _ _ _ _ _ _ => none) (fun _ ih => m_L_narrowed_L124_b fu c_n c_r c_c c_g k59 k73 k84 k99  ih) n
noncomputable def m_L_narrowed_L99_b (fu : Nat) (c_n : Nat → Int32) (c_r : Nat → Int32) (c_c : Nat → Int32) (c_g : Nat → Int32) (k59 : Int32 → Int32 → Option (Int32)) (k73 : Int32 → Int32 → Int32 → Option (Int32)) (k84 : Int32 → Int32 → Int32 → Int32 → Option (Int32)) (k99 : Int32 → Int32 → Int32 → Int32 → Int32 → Int32 → Option (Int32)) (x4 : Int32) (x5 : Int32) (x6 : Int32) (x7 : Int32) (x8 : Int32) (x9 : Int32) : Option (Int32) :=
  if c_g ((0 : Int32)).toNatClampNeg ≤ x9 then if x8 = (0 : Int32) then k84 (x4 &&& (((1 : Int32) <<< ((((5 : Int32) * x6) + x7) &&& 31)) ^^^ (-1 : Int32))) x5 x6 (x7 + 1) else k84 x4 x5 x6 (x7 + 1) else if x9 = x6 then m_L_narrowed_L124 fu c_n c_r c_c c_g k59 k73 k84 k99 fu x4 x5 x6 x7 x8 x9 (1 : Int32) (0 : Int32) else m_L_narrowed_L124 fu c_n c_r c_c c_g k59 k73 k84 k99 fu x4 x5 x6 x7 x8 x9 (0 : Int32) (0 : Int32)
noncomputable def m_L_narrowed_L99 (fu : Nat) (c_n : Nat → Int32) (c_r : Nat → Int32) (c_c : Nat → Int32) (c_g : Nat → Int32) (k59 : Int32 → Int32 → Option (Int32)) (k73 : Int32 → Int32 → Int32 → Option (Int32)) (k84 : Int32 → Int32 → Int32 → Int32 → Option (Int32)) (n : Nat) : Int32 → Int32 → Int32 → Int32 → Int32 → Int32 → Option (Int32) :=
  Nat.rec (motive := fun _ => Int32 → Int32 → Int32 → Int32 → Int32 → Int32 → Option (Int32)) (fun _ _ _ _ _ _ => none) (fun _ ih => m_L_narrowed_L99_b fu c_n c_r c_c c_g k59 k73 k84  ih) n
noncomputable def m_L_narrowed_L84_b (fu : Nat) (c_n : Nat → Int32) (c_r : Nat → Int32) (c_c : Nat → Int32) (c_g : Nat → Int32) (k59 : Int32 → Int32 → Option (Int32)) (k73 : Int32 → Int32 → Int32 → Option (Int32)) (k84 : Int32 → Int32 → Int32 → Int32 → Option (Int32)) (x4 : Int32) (x5 : Int32) (x6 : Int32) (x7 : Int32) : Option (Int32) :=
  if x6 < 0 ∨ 6 ≤ (x6).toNatClampNeg then none else if c_n (x6).toNatClampNeg ≤ x7 then k73 x4 x5 (x6 + 1) else m_L_narrowed_L99 fu c_n c_r c_c c_g k59 k73 k84 fu x4 x5 x6 x7 (1 : Int32) (0 : Int32)
noncomputable def m_L_narrowed_L84 (fu : Nat) (c_n : Nat → Int32) (c_r : Nat → Int32) (c_c : Nat → Int32) (c_g : Nat → Int32) (k59 : Int32 → Int32 → Option (Int32)) (k73 : Int32 → Int32 → Int32 → Option (Int32)) (n : Nat) : Int32 → Int32 → Int32 → Int32 → Option (Int32) :=
  Nat.rec (motive := fun _ => Int32 → Int32 → Int32 → Int32 → Option (Int32)) (fun _ _ _ _ => none) (fun _ ih => m_L_narrowed_L84_b fu c_n c_r c_c c_g k59 k73  ih) n
noncomputable def m_L_narrowed_L73_b (fu : Nat) (c_n : Nat → Int32) (c_r : Nat → Int32) (c_c : Nat → Int32) (c_g : Nat → Int32) (k59 : Int32 → Int32 → Option (Int32)) (k73 : Int32 → Int32 → Int32 → Option (Int32)) (x4 : Int32) (x5 : Int32) (x6 : Int32) : Option (Int32) :=
  if c_g ((0 : Int32)).toNatClampNeg ≤ x6 then k59 x4 x5 else m_L_narrowed_L84 fu c_n c_r c_c c_g k59 k73 fu x4 x5 x6 (0 : Int32)
noncomputable def m_L_narrowed_L73 (fu : Nat) (c_n : Nat → Int32) (c_r : Nat → Int32) (c_c : Nat → Int32) (c_g : Nat → Int32) (k59 : Int32 → Int32 → Option (Int32)) (n : Nat) : Int32 → Int32 → Int32 → Option (Int32) :=
  Nat.rec (motive := fun _ => Int32 → Int32 → Int32 → Option (Int32)) (fun _ _ _ => none) (fun _ ih => m_L_narrowed_L73_b fu c_n c_r c_c c_g k59  ih) n
noncomputable def m_L_narrowed_L59_b (fu : Nat) (c_n : Nat → Int32) (c_r : Nat → Int32) (c_c : Nat → Int32) (c_g : Nat → Int32)  (k59 : Int32 → Int32 → Option (Int32)) (x4 : Int32) (x5 : Int32) : Option (Int32) :=
  if x4 = x5 then some x4 else m_L_narrowed_L73 fu c_n c_r c_c c_g k59 fu x4 x4 (0 : Int32)
noncomputable def m_L_narrowed_L59 (fu : Nat) (c_n : Nat → Int32) (c_r : Nat → Int32) (c_c : Nat → Int32) (c_g : Nat → Int32)  (n : Nat) : Int32 → Int32 → Option (Int32) :=
  Nat.rec (motive := fun _ => Int32 → Int32 → Option (Int32)) (fun _ _ => none) (fun _ ih => m_L_narrowed_L59_b fu c_n c_r c_c c_g  ih) n
noncomputable def m_L_narrowed_L6_b (fu : Nat) (c_n : Nat → Int32) (c_r : Nat → Int32) (c_c : Nat → Int32) (c_g : Nat → Int32)  (k6 : Int32 → Int32 → Option (Int32)) (x4 : Int32) (x5 : Int32) : Option (Int32) :=
  if c_g ((0 : Int32)).toNatClampNeg ≤ x5 then m_L_narrowed_L59 fu c_n c_r c_c c_g fu x4 (-1 : Int32) else if x5 < 0 ∨ 6 ≤ (x5).toNatClampNeg then none else if c_c (x5).toNatClampNeg ≤ (0 : Int32) then k6 (x4 ||| ((((1 : Int32) <<< ((c_n (x5).toNatClampNeg) &&& 31)) - (1 : Int32)) <<< (((5 : Int32) * x5) &&& 31))) (x5 + 1) else k6 (x4 ||| (((1 : Int32) <<< (((c_c (x5).toNatClampNeg) - (1 : Int32)) &&& 31)) <<< (((5 : Int32) * x5) &&& 31))) (x5 + 1)
noncomputable def m_L_narrowed_L6 (fu : Nat) (c_n : Nat → Int32) (c_r : Nat → Int32) (c_c : Nat → Int32) (c_g : Nat → Int32)  (n : Nat) : Int32 → Int32 → Option (Int32) :=
  Nat.rec (motive := fun _ => Int32 → Int32 → Option (Int32)) (fun _ _ => none) (fun _ ih => m_L_narrowed_L6_b fu c_n c_r c_c c_g  ih) n
noncomputable def m_L_narrowed (fu : Nat) (c_n : Nat → Int32) (c_r : Nat → Int32) (c_c : Nat → Int32) (c_g : Nat → Int32)  : Option (Int32) :=
  m_L_narrowed_L6 fu c_n c_r c_c c_g fu (0 : Int32) (0 : Int32)
def rm_L_narrowed : Room := { frames := 2, cells := 0, slots := 0, locals := 52 }
theorem hd_L_narrowed : yL_narrowed.cls ≠ "java/lang/invoke/MethodHandle" ∧ yL_narrowed.cls ≠ "java/lang/invoke/VarHandle" ∧ (parseMethodDescriptor yL_narrowed.desc).map (fun d => d.parameters.length) = some 4 := by decide +kernel
set_option maxHeartbeats 4000000 in
set_option maxRecDepth 100000 in
theorem c_L_narrowed (l : Launch) (D : va_G) (cI : ClassId × ClassId) (sz : Nat) (a_n : Nat) (a_r : Nat) (a_c : Nat) (a_g : Nat) (fu : Nat) (c_n : Nat → Int32) (c_r : Nat → Int32) (c_c : Nat → Int32) (c_g : Nat → Int32)  (r : Int32) (hf : m_L_narrowed fu c_n c_r c_c c_g  = some r) : Met l yL_narrowed (zw (Cond.code yL_narrowed cL_narrowed 12 (some .int))) rm_L_narrowed (va_Pc [.ref a_n, .ref a_r, .ref a_c, .ref a_g] (zA D cI [(a_n, .inl (cI.1, 6, .inl c_n)), (a_r, .inl (cI.1, 20, .inl c_r)), (a_c, .inl (cI.1, 6, .inl c_c)), (a_g, .inl (cI.1, 7, .inl c_g))] sz)) (zQi D (va_A [(a_n, .inl (cI.1, 6, .inl c_n)), (a_r, .inl (cI.1, 20, .inl c_r)), (a_c, .inl (cI.1, 6, .inl c_c)), (a_g, .inl (cI.1, 7, .inl c_g))] sz) (fun v => v = r) (fun (u : Unit) => ([(a_n, .inl (cI.1, 6, .inl c_n)), (a_r, .inl (cI.1, 20, .inl c_r)), (a_c, .inl (cI.1, 6, .inl c_c)), (a_g, .inl (cI.1, 7, .inl c_g))] : va_W))) 0 0 (va_A [(a_n, .inl (cI.1, 6, .inl c_n)), (a_r, .inl (cI.1, 20, .inl c_r)), (a_c, .inl (cI.1, 6, .inl c_c)), (a_g, .inl (cI.1, 7, .inl c_g))] sz) := by
  unfold m_L_narrowed at hf
  refine zhead (C := RL) (by decide +kernel) rfl ?_
  intro p e s m below meth c hx hb hr hlocks hml hown hnm hts hE hK H hP hS hD hA
  generalize va_A [(a_n, .inl (cI.1, 6, .inl c_n)), (a_r, .inl (cI.1, 20, .inl c_r)), (a_c, .inl (cI.1, 6, .inl c_c)), (a_g, .inl (cI.1, 7, .inl c_g))] sz = A at hS hD hA ⊢
  have hl := lv_entry ([.ref a_n, .ref a_r, .ref a_c, .ref a_g]) (n := 12) (Nat.le_of_ble_eq_true rfl)
  rw [lg_entry_eq]
  generalize (lg_sl ([.ref a_n, .ref a_r, .ref a_c, .ref a_g]) ++ List.replicate (12 - (lg_sl ([.ref a_n, .ref a_r, .ref a_c, .ref a_g])).length) Slot.unset).toArray = ls at hl ⊢
  have hl : lv_has ls 12 [(0, .ref a_n), (1, .ref a_r), (2, .ref a_c), (3, .ref a_g)] := hl

  have w_L59 : ∀ (n : Nat) (x4 : Int32) (x5 : Int32), m_L_narrowed_L59 fu c_n c_r c_c c_g n x4 x5 = some r → ∀ (H : Heap) (locs : List Loc), va_P D vwCl [(a_n, .inl (cI.1, 6, .inl c_n)), (a_r, .inl (cI.1, 20, .inl c_r)), (a_c, .inl (cI.1, 6, .inl c_c)), (a_g, .inl (cI.1, 7, .inl c_g))] H → va_D A [(a_n, .inl (cI.1, 6, .inl c_n)), (a_r, .inl (cI.1, 20, .inl c_r)), (a_c, .inl (cI.1, 6, .inl c_c)), (a_g, .inl (cI.1, 7, .inl c_g))] → va_S A s.heap H locs → ∀ ls : Array Slot, lv_has ls 12 [(0, .ref a_n), (1, .ref a_r), (2, .ref a_c), (3, .ref a_g), (4, .int x4), (5, .int x5)] → W p l e rm_L_narrowed s m ([.ref a_n, .ref a_r, .ref a_c, .ref a_g] : List Value).toArray below meth c H locs 0 0 (MQ below (zQi D A (fun v => v = r) (fun (u : Unit) => ([(a_n, .inl (cI.1, 6, .inl c_n)), (a_r, .inl (cI.1, 20, .inl c_r)), (a_c, .inl (cI.1, 6, .inl c_c)), (a_g, .inl (cI.1, 7, .inl c_g))] : va_W))) ([.ref a_n, .ref a_r, .ref a_c, .ref a_g] : List Value).toArray s 0 0 A) (F0 m 59 ls []) := by
    intro n_59
    induction n_59 with
    | zero => intro x4 x5  hf; exact absurd hf (fun h => by cases h)
    | succ n_59 ih_59 =>
      intro x4 x5  hf H locs hP hD hS ls hl
      replace hf : m_L_narrowed_L59_b fu c_n c_r c_c c_g  (m_L_narrowed_L59 fu c_n c_r c_c c_g n_59) x4 x5 = some r := hf
      unfold m_L_narrowed_L59_b at hf
      have w_L73 : ∀ (n : Nat) (x4 : Int32) (x5 : Int32) (x6 : Int32), m_L_narrowed_L73 fu c_n c_r c_c c_g (m_L_narrowed_L59 fu c_n c_r c_c c_g n_59) n x4 x5 x6 = some r → ∀ (H : Heap) (locs : List Loc), va_P D vwCl [(a_n, .inl (cI.1, 6, .inl c_n)), (a_r, .inl (cI.1, 20, .inl c_r)), (a_c, .inl (cI.1, 6, .inl c_c)), (a_g, .inl (cI.1, 7, .inl c_g))] H → va_D A [(a_n, .inl (cI.1, 6, .inl c_n)), (a_r, .inl (cI.1, 20, .inl c_r)), (a_c, .inl (cI.1, 6, .inl c_c)), (a_g, .inl (cI.1, 7, .inl c_g))] → va_S A s.heap H locs → ∀ ls : Array Slot, lv_has ls 12 [(0, .ref a_n), (1, .ref a_r), (2, .ref a_c), (3, .ref a_g), (4, .int x4), (5, .int x5), (6, .int x6)] → W p l e rm_L_narrowed s m ([.ref a_n, .ref a_r, .ref a_c, .ref a_g] : List Value).toArray below meth c H locs 0 0 (MQ below (zQi D A (fun v => v = r) (fun (u : Unit) => ([(a_n, .inl (cI.1, 6, .inl c_n)), (a_r, .inl (cI.1, 20, .inl c_r)), (a_c, .inl (cI.1, 6, .inl c_c)), (a_g, .inl (cI.1, 7, .inl c_g))] : va_W))) ([.ref a_n, .ref a_r, .ref a_c, .ref a_g] : List Value).toArray s 0 0 A) (F0 m 73 ls []) := by
        intro n_73
        induction n_73 with
        | zero => intro x4 x5 x6  hf; exact absurd hf (fun h => by cases h)
        | succ n_73 ih_73 =>
          intro x4 x5 x6  hf H locs hP hD hS ls hl
          replace hf : m_L_narrowed_L73_b fu c_n c_r c_c c_g (m_L_narrowed_L59 fu c_n c_r c_c c_g n_59) (m_L_narrowed_L73 fu c_n c_r c_c c_g (m_L_narrowed_L59 fu c_n c_r c_c c_g n_59) n_73) x4 x5 x6 = some r := hf
          unfold m_L_narrowed_L73_b at hf
          have w_L84 : ∀ (n : Nat) (x4 : Int32) (x5 : Int32) (x6 : Int32) (x7 : Int32), m_L_narrowed_L84 fu c_n c_r c_c c_g (m_L_narrowed_L59 fu c_n c_r c_c c_g n_59) (m_L_narrowed_L73 fu c_n c_r c_c c_g (m_L_narrowed_L59 fu c_n c_r c_c c_g n_59) n_73) n x4 x5 x6 x7 = some r → ∀ (H : Heap) (locs : List Loc), va_P D vwCl [(a_n, .inl (cI.1, 6, .inl c_n)), (a_r, .inl (cI.1, 20, .inl c_r)), (a_c, .inl (cI.1, 6, .inl c_c)), (a_g, .inl (cI.1, 7, .inl c_g))] H → va_D A [(a_n, .inl (cI.1, 6, .inl c_n)), (a_r, .inl (cI.1, 20, .inl c_r)), (a_c, .inl (cI.1, 6, .inl c_c)), (a_g, .inl (cI.1, 7, .inl c_g))] → va_S A s.heap H locs → ∀ ls : Array Slot, lv_has ls 12 [(0, .ref a_n), (1, .ref a_r), (2, .ref a_c), (3, .ref a_g), (4, .int x4), (5, .int x5), (6, .int x6), (7, .int x7)] → W p l e rm_L_narrowed s m ([.ref a_n, .ref a_r, .ref a_c, .ref a_g] : List Value).toArray below meth c H locs 0 0 (MQ below (zQi D A (fun v => v = r) (fun (u : Unit) => ([(a_n, .inl (cI.1, 6, .inl c_n)), (a_r, .inl (cI.1, 20, .inl c_r)), (a_c, .inl (cI.1, 6, .inl c_c)), (a_g, .inl (cI.1, 7, .inl c_g))] : va_W))) ([.ref a_n, .ref a_r, .ref a_c, .ref a_g] : List Value).toArray s 0 0 A) (F0 m 84 ls []) := by
            intro n_84
            induction n_84 with
            | zero => intro x4 x5 x6 x7  hf; exact absurd hf (fun h => by cases h)
            | succ n_84 ih_84 =>
              intro x4 x5 x6 x7  hf H locs hP hD hS ls hl
              replace hf : m_L_narrowed_L84_b fu c_n c_r c_c c_g (m_L_narrowed_L59 fu c_n c_r c_c c_g n_59) (m_L_narrowed_L73 fu c_n c_r c_c c_g (m_L_narrowed_L59 fu c_n c_r c_c c_g n_59) n_73) (m_L_narrowed_L84 fu c_n c_r c_c c_g (m_L_narrowed_L59 fu c_n c_r c_c c_g n_59) (m_L_narrowed_L73 fu c_n c_r c_c c_g (m_L_narrowed_L59 fu c_n c_r c_c c_g n_59) n_73) n_84) x4 x5 x6 x7 = some r := hf
              unfold m_L_narrowed_L84_b at hf
              have w_L99 : ∀ (n : Nat) (x4 : Int32) (x5 : Int32) (x6 : Int32) (x7 : Int32) (x8 : Int32) (x9 : Int32), m_L_narrowed_L99 fu c_n c_r c_c c_g (m_L_narrowed_L59 fu c_n c_r c_c c_g n_59) (m_L_narrowed_L73 fu c_n c_r c_c c_g (m_L_narrowed_L59 fu c_n c_r c_c c_g n_59) n_73) (m_L_narrowed_L84 fu c_n c_r c_c c_g (m_L_narrowed_L59 fu c_n c_r c_c c_g n_59) (m_L_narrowed_L73 fu c_n c_r c_c c_g (m_L_narrowed_L59 fu c_n c_r c_c c_g n_59) n_73) n_84) n x4 x5 x6 x7 x8 x9 = some r → ∀ (H : Heap) (locs : List Loc), va_P D vwCl [(a_n, .inl (cI.1, 6, .inl c_n)), (a_r, .inl (cI.1, 20, .inl c_r)), (a_c, .inl (cI.1, 6, .inl c_c)), (a_g, .inl (cI.1, 7, .inl c_g))] H → va_D A [(a_n, .inl (cI.1, 6, .inl c_n)), (a_r, .inl (cI.1, 20, .inl c_r)), (a_c, .inl (cI.1, 6, .inl c_c)), (a_g, .inl (cI.1, 7, .inl c_g))] → va_S A s.heap H locs → ∀ ls : Array Slot, lv_has ls 12 [(0, .ref a_n), (1, .ref a_r), (2, .ref a_c), (3, .ref a_g), (4, .int x4), (5, .int x5), (6, .int x6), (7, .int x7), (8, .int x8), (9, .int x9)] → W p l e rm_L_narrowed s m ([.ref a_n, .ref a_r, .ref a_c, .ref a_g] : List Value).toArray below meth c H locs 0 0 (MQ below (zQi D A (fun v => v = r) (fun (u : Unit) => ([(a_n, .inl (cI.1, 6, .inl c_n)), (a_r, .inl (cI.1, 20, .inl c_r)), (a_c, .inl (cI.1, 6, .inl c_c)), (a_g, .inl (cI.1, 7, .inl c_g))] : va_W))) ([.ref a_n, .ref a_r, .ref a_c, .ref a_g] : List Value).toArray s 0 0 A) (F0 m 99 ls []) := by
                intro n_99
                induction n_99 with
                | zero => intro x4 x5 x6 x7 x8 x9  hf; exact absurd hf (fun h => by cases h)
                | succ n_99 ih_99 =>
                  intro x4 x5 x6 x7 x8 x9  hf H locs hP hD hS ls hl
                  replace hf : m_L_narrowed_L99_b fu c_n c_r c_c c_g (m_L_narrowed_L59 fu c_n c_r c_c c_g n_59) (m_L_narrowed_L73 fu c_n c_r c_c c_g (m_L_narrowed_L59 fu c_n c_r c_c c_g n_59) n_73) (m_L_narrowed_L84 fu c_n c_r c_c c_g (m_L_narrowed_L59 fu c_n c_r c_c c_g n_59) (m_L_narrowed_L73 fu c_n c_r c_c c_g (m_L_narrowed_L59 fu c_n c_r c_c c_g n_59) n_73) n_84) (m_L_narrowed_L99 fu c_n c_r c_c c_g (m_L_narrowed_L59 fu c_n c_r c_c c_g n_59) (m_L_narrowed_L73 fu c_n c_r c_c c_g (m_L_narrowed_L59 fu c_n c_r c_c c_g n_59) n_73) (m_L_narrowed_L84 fu c_n c_r c_c c_g (m_L_narrowed_L59 fu c_n c_r c_c c_g n_59) (m_L_narrowed_L73 fu c_n c_r c_c c_g (m_L_narrowed_L59 fu c_n c_r c_c c_g n_59) n_73) n_84) n_99) x4 x5 x6 x7 x8 x9 = some r := hf
                  unfold m_L_narrowed_L99_b at hf
                  have w_L124 : ∀ (n : Nat) (x4 : Int32) (x5 : Int32) (x6 : Int32) (x7 : Int32) (x8 : Int32) (x9 : Int32) (x10 : Int32) (x11 : Int32), m_L_narrowed_L124 fu c_n c_r c_c c_g (m_L_narrowed_L59 fu c_n c_r c_c c_g n_59) (m_L_narrowed_L73 fu c_n c_r c_c c_g (m_L_narrowed_L59 fu c_n c_r c_c c_g n_59) n_73) (m_L_narrowed_L84 fu c_n c_r c_c c_g (m_L_narrowed_L59 fu c_n c_r c_c c_g n_59) (m_L_narrowed_L73 fu c_n c_r c_c c_g (m_L_narrowed_L59 fu c_n c_r c_c c_g n_59) n_73) n_84) (m_L_narrowed_L99 fu c_n c_r c_c c_g (m_L_narrowed_L59 fu c_n c_r c_c c_g n_59) (m_L_narrowed_L73 fu c_n c_r c_c c_g (m_L_narrowed_L59 fu c_n c_r c_c c_g n_59) n_73) (m_L_narrowed_L84 fu c_n c_r c_c c_g (m_L_narrowed_L59 fu c_n c_r c_c c_g n_59) (m_L_narrowed_L73 fu c_n c_r c_c c_g (m_L_narrowed_L59 fu c_n c_r c_c c_g n_59) n_73) n_84) n_99) n x4 x5 x6 x7 x8 x9 x10 x11 = some r → ∀ (H : Heap) (locs : List Loc), va_P D vwCl [(a_n, .inl (cI.1, 6, .inl c_n)), (a_r, .inl (cI.1, 20, .inl c_r)), (a_c, .inl (cI.1, 6, .inl c_c)), (a_g, .inl (cI.1, 7, .inl c_g))] H → va_D A [(a_n, .inl (cI.1, 6, .inl c_n)), (a_r, .inl (cI.1, 20, .inl c_r)), (a_c, .inl (cI.1, 6, .inl c_c)), (a_g, .inl (cI.1, 7, .inl c_g))] → va_S A s.heap H locs → ∀ ls : Array Slot, lv_has ls 12 [(0, .ref a_n), (1, .ref a_r), (2, .ref a_c), (3, .ref a_g), (4, .int x4), (5, .int x5), (6, .int x6), (7, .int x7), (8, .int x8), (9, .int x9), (10, .int x10), (11, .int x11)] → W p l e rm_L_narrowed s m ([.ref a_n, .ref a_r, .ref a_c, .ref a_g] : List Value).toArray below meth c H locs 0 0 (MQ below (zQi D A (fun v => v = r) (fun (u : Unit) => ([(a_n, .inl (cI.1, 6, .inl c_n)), (a_r, .inl (cI.1, 20, .inl c_r)), (a_c, .inl (cI.1, 6, .inl c_c)), (a_g, .inl (cI.1, 7, .inl c_g))] : va_W))) ([.ref a_n, .ref a_r, .ref a_c, .ref a_g] : List Value).toArray s 0 0 A) (F0 m 124 ls []) := by
                    intro n_124
                    induction n_124 with
                    | zero => intro x4 x5 x6 x7 x8 x9 x10 x11  hf; exact absurd hf (fun h => by cases h)
                    | succ n_124 ih_124 =>
                      intro x4 x5 x6 x7 x8 x9 x10 x11  hf H locs hP hD hS ls hl
                      replace hf : m_L_narrowed_L124_b fu c_n c_r c_c c_g (m_L_narrowed_L59 fu c_n c_r c_c c_g n_59) (m_L_narrowed_L73 fu c_n c_r c_c c_g (m_L_narrowed_L59 fu c_n c_r c_c c_g n_59) n_73) (m_L_narrowed_L84 fu c_n c_r c_c c_g (m_L_narrowed_L59 fu c_n c_r c_c c_g n_59) (m_L_narrowed_L73 fu c_n c_r c_c c_g (m_L_narrowed_L59 fu c_n c_r c_c c_g n_59) n_73) n_84) (m_L_narrowed_L99 fu c_n c_r c_c c_g (m_L_narrowed_L59 fu c_n c_r c_c c_g n_59) (m_L_narrowed_L73 fu c_n c_r c_c c_g (m_L_narrowed_L59 fu c_n c_r c_c c_g n_59) n_73) (m_L_narrowed_L84 fu c_n c_r c_c c_g (m_L_narrowed_L59 fu c_n c_r c_c c_g n_59) (m_L_narrowed_L73 fu c_n c_r c_c c_g (m_L_narrowed_L59 fu c_n c_r c_c c_g n_59) n_73) n_84) n_99) (m_L_narrowed_L124 fu c_n c_r c_c c_g (m_L_narrowed_L59 fu c_n c_r c_c c_g n_59) (m_L_narrowed_L73 fu c_n c_r c_c c_g (m_L_narrowed_L59 fu c_n c_r c_c c_g n_59) n_73) (m_L_narrowed_L84 fu c_n c_r c_c c_g (m_L_narrowed_L59 fu c_n c_r c_c c_g n_59) (m_L_narrowed_L73 fu c_n c_r c_c c_g (m_L_narrowed_L59 fu c_n c_r c_c c_g n_59) n_73) n_84) (m_L_narrowed_L99 fu c_n c_r c_c c_g (m_L_narrowed_L59 fu c_n c_r c_c c_g n_59) (m_L_narrowed_L73 fu c_n c_r c_c c_g (m_L_narrowed_L59 fu c_n c_r c_c c_g n_59) n_73) (m_L_narrowed_L84 fu c_n c_r c_c c_g (m_L_narrowed_L59 fu c_n c_r c_c c_g n_59) (m_L_narrowed_L73 fu c_n c_r c_c c_g (m_L_narrowed_L59 fu c_n c_r c_c c_g n_59) n_73) n_84) n_99) n_124) x4 x5 x6 x7 x8 x9 x10 x11 = some r := hf
                      unfold m_L_narrowed_L124_b at hf
                      refine lv_iload hx hb dL_narrowed_124 (lv_at hl 11 rfl) ?_
                      refine lv_aload_n hx hb dL_narrowed_126 rfl (lv_at hl 0 rfl) ?_
                      refine lv_iload hx hb dL_narrowed_127 (lv_at hl 9 rfl) ?_
                      obtain ⟨b_11, hf⟩ := zib hf
                      refine va_iald hx hb hK hP 0 0 (cA := cI.1) rfl rfl b_11 dL_narrowed_129 ?_
                      refine lv_icmp_ge (tgt := 181) hx hb dL_narrowed_130 (by decide) (fun c_12 => ?_) (fun c_12 => ?_)
                      · replace hf := zit hf c_12
                        refine lv_iload hx hb dL_narrowed_181 (lv_at hl 8 rfl) ?_
                        refine lv_iload hx hb dL_narrowed_183 (lv_at hl 10 rfl) ?_
                        refine lv_iand hx hb dL_narrowed_185 ?_
                        refine lv_istore (lv' := [(8, .int (x8 &&& x10)), (0, .ref a_n), (1, .ref a_r), (2, .ref a_c), (3, .ref a_g), (4, .int x4), (5, .int x5), (6, .int x6), (7, .int x7), (9, .int x9), (10, .int x10), (11, .int x11)]) hx hb dL_narrowed_186 hl (by decide) rfl (fun ls hl => ?_)
                        refine lv_iinc (v := x9 + 1) (lv' := [(9, .int (x9 + 1)), (8, .int (x8 &&& x10)), (0, .ref a_n), (1, .ref a_r), (2, .ref a_c), (3, .ref a_g), (4, .int x4), (5, .int x5), (6, .int x6), (7, .int x7), (10, .int x10), (11, .int x11)]) hx hb dL_narrowed_188 hl (k := 9) rfl rfl (by decide) rfl (fun ls hl => ?_)
                        refine lv_goto (tgt := 99) hx hb dL_narrowed_191 (by decide) ?_
                        exact ih_99 x4 x5 x6 x7 (x8 &&& x10) (x9 + 1)  hf _ _ (hP.sub [0, 1, 2, 3] rfl) (hD.sub [0, 1, 2, 3] (by decide) rfl) hS _ (lv_sub hl [2, 3, 4, 5, 6, 7, 8, 9, 1, 0] rfl)
                      · replace hf := zif hf c_12
                        refine lv_iload hx hb dL_narrowed_133 (lv_at hl 10 rfl) ?_
                        refine lv_iload hx hb dL_narrowed_135 (lv_at hl 5 rfl) ?_
                        refine lv_iconst (v := 5) hx hb dL_narrowed_137 (by decide) ?_
                        refine lv_iload hx hb dL_narrowed_138 (lv_at hl 9 rfl) ?_
                        refine lv_imul hx hb dL_narrowed_140 ?_
                        refine lv_iload hx hb dL_narrowed_141 (lv_at hl 11 rfl) ?_
                        refine lv_iadd hx hb dL_narrowed_143 ?_
                        refine lv_ishr hx hb dL_narrowed_144 ?_
                        refine lv_iconst (v := 1) hx hb dL_narrowed_145 (by decide) ?_
                        refine lv_iand hx hb dL_narrowed_146 ?_
                        refine lv_iconst (v := 1) hx hb dL_narrowed_147 (by decide) ?_
                        refine lv_icmp_ne (tgt := 171) hx hb dL_narrowed_148 (by decide) (fun c_13 => ?_) (fun c_13 => ?_)
                        · replace hf := zif hf c_13
                          refine lv_iconst (v := 0) hx hb dL_narrowed_171 (by decide) ?_
                          refine lv_ior hx hb dL_narrowed_172 ?_
                          refine lv_istore (lv' := [(10, .int (x10 ||| (0 : Int32))), (0, .ref a_n), (1, .ref a_r), (2, .ref a_c), (3, .ref a_g), (4, .int x4), (5, .int x5), (6, .int x6), (7, .int x7), (8, .int x8), (9, .int x9), (11, .int x11)]) hx hb dL_narrowed_173 hl (by decide) rfl (fun ls hl => ?_)
                          refine lv_iinc (v := x11 + 1) (lv' := [(11, .int (x11 + 1)), (10, .int (x10 ||| (0 : Int32))), (0, .ref a_n), (1, .ref a_r), (2, .ref a_c), (3, .ref a_g), (4, .int x4), (5, .int x5), (6, .int x6), (7, .int x7), (8, .int x8), (9, .int x9)]) hx hb dL_narrowed_175 hl (k := 11) rfl rfl (by decide) rfl (fun ls hl => ?_)
                          refine lv_goto (tgt := 124) hx hb dL_narrowed_178 (by decide) ?_
                          exact ih_124 x4 x5 x6 x7 x8 x9 (x10 ||| (0 : Int32)) (x11 + 1)  hf _ _ (hP.sub [0, 1, 2, 3] rfl) (hD.sub [0, 1, 2, 3] (by decide) rfl) hS _ (lv_sub hl [2, 3, 4, 5, 6, 7, 8, 9, 10, 11, 1, 0] rfl)
                        · replace hf := zit hf c_13
                          refine lv_aload_n hx hb dL_narrowed_151 rfl (lv_at hl 1 rfl) ?_
                          refine lv_aload_n hx hb dL_narrowed_152 rfl (lv_at hl 3 rfl) ?_
                          refine lv_iload hx hb dL_narrowed_153 (lv_at hl 6 rfl) ?_
                          refine lv_iload hx hb dL_narrowed_155 (lv_at hl 7 rfl) ?_
                          refine lv_iload hx hb dL_narrowed_157 (lv_at hl 9 rfl) ?_
                          refine lv_iload hx hb dL_narrowed_159 (lv_at hl 11 rfl) ?_
                          obtain ⟨u_14, e_14, hf⟩ := zbd hf
                          refine zcall_i (wr := [(a_n, .inl (cI.1, 6, .inl c_n)), (a_c, .inl (cI.1, 6, .inl c_c))]) (va_runS (As := [.ref a_r, .ref a_g, .int x6, .int x7, .int x9, .int x11]) (rest := [.int x10]) ⟨hx, hb, hml, hown, hts⟩ (c_L_together l D cI H.size a_r a_g fu c_r c_g x6 x7 x9 x11 u_14 e_14) (va_cwS 6 hts (zG_S kw_422 kw_423 kw_408 kw_421) rfl rfl rfl hd_L_together ⟨Nat.le_of_ble_eq_true rfl, Nat.le_of_ble_eq_true rfl⟩) ⟨zblind, zpre hP hD hK hE [1, 3] rfl (by decide)⟩ rfl rfl hl.1 rfl (lv_room (Nat.le_of_ble_eq_true rfl)) dL_narrowed_161 ⟨Nat.le_of_ble_eq_true rfl, Nat.le_of_ble_eq_true rfl⟩) hP hD hS hA [1, 3] [0, 2] rfl rfl (by decide) (by decide) (fun r9 uu H locs hX9 hP hD hS => ?_)
                          obtain ⟨hX8, hb_14⟩ := hX9
                          obtain rfl := hX8.symm
                          have hP : va_P D vwCl [(a_n, .inl (cI.1, 6, .inl c_n)), (a_c, .inl (cI.1, 6, .inl c_c)), (a_r, .inl (cI.1, 20, .inl c_r)), (a_g, .inl (cI.1, 7, .inl c_g))] H := hP
                          have hD : va_D A [(a_n, .inl (cI.1, 6, .inl c_n)), (a_c, .inl (cI.1, 6, .inl c_c)), (a_r, .inl (cI.1, 20, .inl c_r)), (a_g, .inl (cI.1, 7, .inl c_g))] := hD
                          refine lv_if_eq (tgt := 171) hx hb dL_narrowed_164 (by decide) (fun c_15 => ?_) (fun c_15 => ?_)
                          · replace hf := zit hf c_15
                            refine lv_iconst (v := 0) hx hb dL_narrowed_171 (by decide) ?_
                            refine lv_ior hx hb dL_narrowed_172 ?_
                            refine lv_istore (lv' := [(10, .int (x10 ||| (0 : Int32))), (0, .ref a_n), (1, .ref a_r), (2, .ref a_c), (3, .ref a_g), (4, .int x4), (5, .int x5), (6, .int x6), (7, .int x7), (8, .int x8), (9, .int x9), (11, .int x11)]) hx hb dL_narrowed_173 hl (by decide) rfl (fun ls hl => ?_)
                            refine lv_iinc (v := x11 + 1) (lv' := [(11, .int (x11 + 1)), (10, .int (x10 ||| (0 : Int32))), (0, .ref a_n), (1, .ref a_r), (2, .ref a_c), (3, .ref a_g), (4, .int x4), (5, .int x5), (6, .int x6), (7, .int x7), (8, .int x8), (9, .int x9)]) hx hb dL_narrowed_175 hl (k := 11) rfl rfl (by decide) rfl (fun ls hl => ?_)
                            refine lv_goto (tgt := 124) hx hb dL_narrowed_178 (by decide) ?_
                            exact ih_124 x4 x5 x6 x7 x8 x9 (x10 ||| (0 : Int32)) (x11 + 1)  hf _ _ (hP.sub [0, 2, 1, 3] rfl) (hD.sub [0, 2, 1, 3] (by decide) rfl) hS _ (lv_sub hl [2, 3, 4, 5, 6, 7, 8, 9, 10, 11, 1, 0] rfl)
                          · replace hf := zif hf c_15
                            refine lv_iconst (v := 1) hx hb dL_narrowed_167 (by decide) ?_
                            refine lv_goto (tgt := 172) hx hb dL_narrowed_168 (by decide) ?_
                            refine lv_ior hx hb dL_narrowed_172 ?_
                            refine lv_istore (lv' := [(10, .int (x10 ||| (1 : Int32))), (0, .ref a_n), (1, .ref a_r), (2, .ref a_c), (3, .ref a_g), (4, .int x4), (5, .int x5), (6, .int x6), (7, .int x7), (8, .int x8), (9, .int x9), (11, .int x11)]) hx hb dL_narrowed_173 hl (by decide) rfl (fun ls hl => ?_)
                            refine lv_iinc (v := x11 + 1) (lv' := [(11, .int (x11 + 1)), (10, .int (x10 ||| (1 : Int32))), (0, .ref a_n), (1, .ref a_r), (2, .ref a_c), (3, .ref a_g), (4, .int x4), (5, .int x5), (6, .int x6), (7, .int x7), (8, .int x8), (9, .int x9)]) hx hb dL_narrowed_175 hl (k := 11) rfl rfl (by decide) rfl (fun ls hl => ?_)
                            refine lv_goto (tgt := 124) hx hb dL_narrowed_178 (by decide) ?_
                            exact ih_124 x4 x5 x6 x7 x8 x9 (x10 ||| (1 : Int32)) (x11 + 1)  hf _ _ (hP.sub [0, 2, 1, 3] rfl) (hD.sub [0, 2, 1, 3] (by decide) rfl) hS _ (lv_sub hl [2, 3, 4, 5, 6, 7, 8, 9, 10, 11, 1, 0] rfl)
                  refine lv_iload hx hb dL_narrowed_99 (lv_at hl 9 rfl) ?_
                  refine lv_aload_n hx hb dL_narrowed_101 rfl (lv_at hl 3 rfl) ?_
                  refine lv_iconst (v := 0) hx hb dL_narrowed_102 (by decide) ?_
                  refine va_iald hx hb hK hP 3 0 (cA := cI.1) rfl rfl (show ¬ ((0 : Int32) < 0 ∨ 7 ≤ (0 : Int32).toNatClampNeg) by decide) dL_narrowed_103 ?_
                  refine lv_icmp_ge (tgt := 194) hx hb dL_narrowed_104 (by decide) (fun c_8 => ?_) (fun c_8 => ?_)
                  · replace hf := zit hf c_8
                    refine lv_iload hx hb dL_narrowed_194 (lv_at hl 8 rfl) ?_
                    refine lv_if_ne (tgt := 215) hx hb dL_narrowed_196 (by decide) (fun c_9 => ?_) (fun c_9 => ?_)
                    · replace hf := zif hf c_9
                      refine lv_iinc (v := x7 + 1) (lv' := [(7, .int (x7 + 1)), (0, .ref a_n), (1, .ref a_r), (2, .ref a_c), (3, .ref a_g), (4, .int x4), (5, .int x5), (6, .int x6), (8, .int x8), (9, .int x9)]) hx hb dL_narrowed_215 hl (k := 7) rfl rfl (by decide) rfl (fun ls hl => ?_)
                      refine lv_goto (tgt := 84) hx hb dL_narrowed_218 (by decide) ?_
                      exact ih_84 x4 x5 x6 (x7 + 1)  hf _ _ (hP.sub [0, 1, 2, 3] rfl) (hD.sub [0, 1, 2, 3] (by decide) rfl) hS _ (lv_sub hl [1, 2, 3, 4, 5, 6, 7, 0] rfl)
                    · replace hf := zit hf c_9
                      refine lv_iload hx hb dL_narrowed_199 (lv_at hl 4 rfl) ?_
                      refine lv_iconst (v := 1) hx hb dL_narrowed_201 (by decide) ?_
                      refine lv_iconst (v := 5) hx hb dL_narrowed_202 (by decide) ?_
                      refine lv_iload hx hb dL_narrowed_203 (lv_at hl 6 rfl) ?_
                      refine lv_imul hx hb dL_narrowed_205 ?_
                      refine lv_iload hx hb dL_narrowed_206 (lv_at hl 7 rfl) ?_
                      refine lv_iadd hx hb dL_narrowed_208 ?_
                      refine lv_ishl hx hb dL_narrowed_209 ?_
                      refine lv_iconst (v := -1) hx hb dL_narrowed_210 (by decide) ?_
                      refine lv_ixor hx hb dL_narrowed_211 ?_
                      refine lv_iand hx hb dL_narrowed_212 ?_
                      refine lv_istore (lv' := [(4, .int (x4 &&& (((1 : Int32) <<< ((((5 : Int32) * x6) + x7) &&& 31)) ^^^ (-1 : Int32)))), (0, .ref a_n), (1, .ref a_r), (2, .ref a_c), (3, .ref a_g), (5, .int x5), (6, .int x6), (7, .int x7), (8, .int x8), (9, .int x9)]) hx hb dL_narrowed_213 hl (by decide) rfl (fun ls hl => ?_)
                      refine lv_iinc (v := x7 + 1) (lv' := [(7, .int (x7 + 1)), (4, .int (x4 &&& (((1 : Int32) <<< ((((5 : Int32) * x6) + x7) &&& 31)) ^^^ (-1 : Int32)))), (0, .ref a_n), (1, .ref a_r), (2, .ref a_c), (3, .ref a_g), (5, .int x5), (6, .int x6), (8, .int x8), (9, .int x9)]) hx hb dL_narrowed_215 hl (k := 7) rfl rfl (by decide) rfl (fun ls hl => ?_)
                      refine lv_goto (tgt := 84) hx hb dL_narrowed_218 (by decide) ?_
                      exact ih_84 (x4 &&& (((1 : Int32) <<< ((((5 : Int32) * x6) + x7) &&& 31)) ^^^ (-1 : Int32))) x5 x6 (x7 + 1)  hf _ _ (hP.sub [0, 1, 2, 3] rfl) (hD.sub [0, 1, 2, 3] (by decide) rfl) hS _ (lv_sub hl [2, 3, 4, 5, 1, 6, 7, 0] rfl)
                  · replace hf := zif hf c_8
                    refine lv_iload hx hb dL_narrowed_107 (lv_at hl 9 rfl) ?_
                    refine lv_iload hx hb dL_narrowed_109 (lv_at hl 6 rfl) ?_
                    refine lv_icmp_ne (tgt := 118) hx hb dL_narrowed_111 (by decide) (fun c_10 => ?_) (fun c_10 => ?_)
                    · replace hf := zif hf c_10
                      refine lv_iconst (v := 0) hx hb dL_narrowed_118 (by decide) ?_
                      refine lv_istore (lv' := [(10, .int 0), (0, .ref a_n), (1, .ref a_r), (2, .ref a_c), (3, .ref a_g), (4, .int x4), (5, .int x5), (6, .int x6), (7, .int x7), (8, .int x8), (9, .int x9)]) hx hb dL_narrowed_119 hl (by decide) rfl (fun ls hl => ?_)
                      refine lv_iconst (v := 0) hx hb dL_narrowed_121 (by decide) ?_
                      refine lv_istore (lv' := [(11, .int 0), (10, .int 0), (0, .ref a_n), (1, .ref a_r), (2, .ref a_c), (3, .ref a_g), (4, .int x4), (5, .int x5), (6, .int x6), (7, .int x7), (8, .int x8), (9, .int x9)]) hx hb dL_narrowed_122 hl (by decide) rfl (fun ls hl => ?_)
                      exact w_L124 fu x4 x5 x6 x7 x8 x9 (0 : Int32) (0 : Int32)  hf _ _ (hP.sub [0, 1, 2, 3] rfl) (hD.sub [0, 1, 2, 3] (by decide) rfl) hS _ (lv_sub hl [2, 3, 4, 5, 6, 7, 8, 9, 10, 11, 1, 0] rfl)
                    · replace hf := zit hf c_10
                      refine lv_iconst (v := 1) hx hb dL_narrowed_114 (by decide) ?_
                      refine lv_goto (tgt := 119) hx hb dL_narrowed_115 (by decide) ?_
                      refine lv_istore (lv' := [(10, .int 1), (0, .ref a_n), (1, .ref a_r), (2, .ref a_c), (3, .ref a_g), (4, .int x4), (5, .int x5), (6, .int x6), (7, .int x7), (8, .int x8), (9, .int x9)]) hx hb dL_narrowed_119 hl (by decide) rfl (fun ls hl => ?_)
                      refine lv_iconst (v := 0) hx hb dL_narrowed_121 (by decide) ?_
                      refine lv_istore (lv' := [(11, .int 0), (10, .int 1), (0, .ref a_n), (1, .ref a_r), (2, .ref a_c), (3, .ref a_g), (4, .int x4), (5, .int x5), (6, .int x6), (7, .int x7), (8, .int x8), (9, .int x9)]) hx hb dL_narrowed_122 hl (by decide) rfl (fun ls hl => ?_)
                      exact w_L124 fu x4 x5 x6 x7 x8 x9 (1 : Int32) (0 : Int32)  hf _ _ (hP.sub [0, 1, 2, 3] rfl) (hD.sub [0, 1, 2, 3] (by decide) rfl) hS _ (lv_sub hl [2, 3, 4, 5, 6, 7, 8, 9, 10, 11, 1, 0] rfl)
              refine lv_iload hx hb dL_narrowed_84 (lv_at hl 7 rfl) ?_
              refine lv_aload_n hx hb dL_narrowed_86 rfl (lv_at hl 0 rfl) ?_
              refine lv_iload hx hb dL_narrowed_87 (lv_at hl 6 rfl) ?_
              obtain ⟨b_6, hf⟩ := zib hf
              refine va_iald hx hb hK hP 0 0 (cA := cI.1) rfl rfl b_6 dL_narrowed_89 ?_
              refine lv_icmp_ge (tgt := 221) hx hb dL_narrowed_90 (by decide) (fun c_7 => ?_) (fun c_7 => ?_)
              · replace hf := zit hf c_7
                refine lv_iinc (v := x6 + 1) (lv' := [(6, .int (x6 + 1)), (0, .ref a_n), (1, .ref a_r), (2, .ref a_c), (3, .ref a_g), (4, .int x4), (5, .int x5), (7, .int x7)]) hx hb dL_narrowed_221 hl (k := 6) rfl rfl (by decide) rfl (fun ls hl => ?_)
                refine lv_goto (tgt := 73) hx hb dL_narrowed_224 (by decide) ?_
                exact ih_73 x4 x5 (x6 + 1)  hf _ _ (hP.sub [0, 1, 2, 3] rfl) (hD.sub [0, 1, 2, 3] (by decide) rfl) hS _ (lv_sub hl [1, 2, 3, 4, 5, 6, 0] rfl)
              · replace hf := zif hf c_7
                refine lv_iconst (v := 1) hx hb dL_narrowed_93 (by decide) ?_
                refine lv_istore (lv' := [(8, .int 1), (0, .ref a_n), (1, .ref a_r), (2, .ref a_c), (3, .ref a_g), (4, .int x4), (5, .int x5), (6, .int x6), (7, .int x7)]) hx hb dL_narrowed_94 hl (by decide) rfl (fun ls hl => ?_)
                refine lv_iconst (v := 0) hx hb dL_narrowed_96 (by decide) ?_
                refine lv_istore (lv' := [(9, .int 0), (8, .int 1), (0, .ref a_n), (1, .ref a_r), (2, .ref a_c), (3, .ref a_g), (4, .int x4), (5, .int x5), (6, .int x6), (7, .int x7)]) hx hb dL_narrowed_97 hl (by decide) rfl (fun ls hl => ?_)
                exact w_L99 fu x4 x5 x6 x7 (1 : Int32) (0 : Int32)  hf _ _ (hP.sub [0, 1, 2, 3] rfl) (hD.sub [0, 1, 2, 3] (by decide) rfl) hS _ (lv_sub hl [2, 3, 4, 5, 6, 7, 8, 9, 1, 0] rfl)
          refine lv_iload hx hb dL_narrowed_73 (lv_at hl 6 rfl) ?_
          refine lv_aload_n hx hb dL_narrowed_75 rfl (lv_at hl 3 rfl) ?_
          refine lv_iconst (v := 0) hx hb dL_narrowed_76 (by decide) ?_
          refine va_iald hx hb hK hP 3 0 (cA := cI.1) rfl rfl (show ¬ ((0 : Int32) < 0 ∨ 7 ≤ (0 : Int32).toNatClampNeg) by decide) dL_narrowed_77 ?_
          refine lv_icmp_ge (tgt := 227) hx hb dL_narrowed_78 (by decide) (fun c_5 => ?_) (fun c_5 => ?_)
          · replace hf := zit hf c_5
            refine lv_goto (tgt := 59) hx hb dL_narrowed_227 (by decide) ?_
            exact ih_59 x4 x5  hf _ _ (hP.sub [0, 1, 2, 3] rfl) (hD.sub [0, 1, 2, 3] (by decide) rfl) hS _ (lv_sub hl [0, 1, 2, 3, 4, 5] rfl)
          · replace hf := zif hf c_5
            refine lv_iconst (v := 0) hx hb dL_narrowed_81 (by decide) ?_
            refine lv_istore (lv' := [(7, .int 0), (0, .ref a_n), (1, .ref a_r), (2, .ref a_c), (3, .ref a_g), (4, .int x4), (5, .int x5), (6, .int x6)]) hx hb dL_narrowed_82 hl (by decide) rfl (fun ls hl => ?_)
            exact w_L84 fu x4 x5 x6 (0 : Int32)  hf _ _ (hP.sub [0, 1, 2, 3] rfl) (hD.sub [0, 1, 2, 3] (by decide) rfl) hS _ (lv_sub hl [1, 2, 3, 4, 5, 6, 7, 0] rfl)
      refine lv_iload hx hb dL_narrowed_59 (lv_at hl 4 rfl) ?_
      refine lv_iload hx hb dL_narrowed_61 (lv_at hl 5 rfl) ?_
      refine lv_icmp_eq (tgt := 230) hx hb dL_narrowed_63 (by decide) (fun c_4 => ?_) (fun c_4 => ?_)
      · replace hf := zit hf c_4
        refine lv_iload hx hb dL_narrowed_230 (lv_at hl 4 rfl) ?_
        obtain rfl := Option.some.inj hf
        exact zret_i hx hb hr rfl rfl () hP hD hS [0, 1, 2, 3] rfl (by decide) dL_narrowed_232 hlocks
      · replace hf := zif hf c_4
        refine lv_iload hx hb dL_narrowed_66 (lv_at hl 4 rfl) ?_
        refine lv_istore (lv' := [(5, .int x4), (0, .ref a_n), (1, .ref a_r), (2, .ref a_c), (3, .ref a_g), (4, .int x4)]) hx hb dL_narrowed_68 hl (by decide) rfl (fun ls hl => ?_)
        refine lv_iconst (v := 0) hx hb dL_narrowed_70 (by decide) ?_
        refine lv_istore (lv' := [(6, .int 0), (5, .int x4), (0, .ref a_n), (1, .ref a_r), (2, .ref a_c), (3, .ref a_g), (4, .int x4)]) hx hb dL_narrowed_71 hl (by decide) rfl (fun ls hl => ?_)
        exact w_L73 fu x4 x4 (0 : Int32)  hf _ _ (hP.sub [0, 1, 2, 3] rfl) (hD.sub [0, 1, 2, 3] (by decide) rfl) hS _ (lv_sub hl [2, 3, 4, 5, 6, 1, 0] rfl)
  have w_L6 : ∀ (n : Nat) (x4 : Int32) (x5 : Int32), m_L_narrowed_L6 fu c_n c_r c_c c_g n x4 x5 = some r → ∀ (H : Heap) (locs : List Loc), va_P D vwCl [(a_n, .inl (cI.1, 6, .inl c_n)), (a_r, .inl (cI.1, 20, .inl c_r)), (a_c, .inl (cI.1, 6, .inl c_c)), (a_g, .inl (cI.1, 7, .inl c_g))] H → va_D A [(a_n, .inl (cI.1, 6, .inl c_n)), (a_r, .inl (cI.1, 20, .inl c_r)), (a_c, .inl (cI.1, 6, .inl c_c)), (a_g, .inl (cI.1, 7, .inl c_g))] → va_S A s.heap H locs → ∀ ls : Array Slot, lv_has ls 12 [(0, .ref a_n), (1, .ref a_r), (2, .ref a_c), (3, .ref a_g), (4, .int x4), (5, .int x5)] → W p l e rm_L_narrowed s m ([.ref a_n, .ref a_r, .ref a_c, .ref a_g] : List Value).toArray below meth c H locs 0 0 (MQ below (zQi D A (fun v => v = r) (fun (u : Unit) => ([(a_n, .inl (cI.1, 6, .inl c_n)), (a_r, .inl (cI.1, 20, .inl c_r)), (a_c, .inl (cI.1, 6, .inl c_c)), (a_g, .inl (cI.1, 7, .inl c_g))] : va_W))) ([.ref a_n, .ref a_r, .ref a_c, .ref a_g] : List Value).toArray s 0 0 A) (F0 m 6 ls []) := by
    intro n_6
    induction n_6 with
    | zero => intro x4 x5  hf; exact absurd hf (fun h => by cases h)
    | succ n_6 ih_6 =>
      intro x4 x5  hf H locs hP hD hS ls hl
      replace hf : m_L_narrowed_L6_b fu c_n c_r c_c c_g  (m_L_narrowed_L6 fu c_n c_r c_c c_g n_6) x4 x5 = some r := hf
      unfold m_L_narrowed_L6_b at hf
      refine lv_iload hx hb dL_narrowed_6 (lv_at hl 5 rfl) ?_
      refine lv_aload_n hx hb dL_narrowed_8 rfl (lv_at hl 3 rfl) ?_
      refine lv_iconst (v := 0) hx hb dL_narrowed_9 (by decide) ?_
      refine va_iald hx hb hK hP 3 0 (cA := cI.1) rfl rfl (show ¬ ((0 : Int32) < 0 ∨ 7 ≤ (0 : Int32).toNatClampNeg) by decide) dL_narrowed_10 ?_
      refine lv_icmp_ge (tgt := 56) hx hb dL_narrowed_11 (by decide) (fun c_1 => ?_) (fun c_1 => ?_)
      · replace hf := zit hf c_1
        refine lv_iconst (v := -1) hx hb dL_narrowed_56 (by decide) ?_
        refine lv_istore (lv' := [(5, .int (-1)), (0, .ref a_n), (1, .ref a_r), (2, .ref a_c), (3, .ref a_g), (4, .int x4)]) hx hb dL_narrowed_57 hl (by decide) rfl (fun ls hl => ?_)
        exact w_L59 fu x4 (-1 : Int32)  hf _ _ (hP.sub [0, 1, 2, 3] rfl) (hD.sub [0, 1, 2, 3] (by decide) rfl) hS _ (lv_sub hl [1, 2, 3, 4, 5, 0] rfl)
      · replace hf := zif hf c_1
        refine lv_iload hx hb dL_narrowed_14 (lv_at hl 4 rfl) ?_
        refine lv_aload_n hx hb dL_narrowed_16 rfl (lv_at hl 2 rfl) ?_
        refine lv_iload hx hb dL_narrowed_17 (lv_at hl 5 rfl) ?_
        obtain ⟨b_2, hf⟩ := zib hf
        refine va_iald hx hb hK hP 2 0 (cA := cI.1) rfl rfl b_2 dL_narrowed_19 ?_
        refine lv_if_le (tgt := 34) hx hb dL_narrowed_20 (by decide) (fun c_3 => ?_) (fun c_3 => ?_)
        · replace hf := zit hf c_3
          refine lv_iconst (v := 1) hx hb dL_narrowed_34 (by decide) ?_
          refine lv_aload_n hx hb dL_narrowed_35 rfl (lv_at hl 0 rfl) ?_
          refine lv_iload hx hb dL_narrowed_36 (lv_at hl 5 rfl) ?_
          refine va_iald hx hb hK hP 0 0 (cA := cI.1) rfl rfl b_2 dL_narrowed_38 ?_
          refine lv_ishl hx hb dL_narrowed_39 ?_
          refine lv_iconst (v := 1) hx hb dL_narrowed_40 (by decide) ?_
          refine lv_isub hx hb dL_narrowed_41 ?_
          refine lv_iconst (v := 5) hx hb dL_narrowed_42 (by decide) ?_
          refine lv_iload hx hb dL_narrowed_43 (lv_at hl 5 rfl) ?_
          refine lv_imul hx hb dL_narrowed_45 ?_
          refine lv_ishl hx hb dL_narrowed_46 ?_
          refine lv_ior hx hb dL_narrowed_47 ?_
          refine lv_istore (lv' := [(4, .int (x4 ||| ((((1 : Int32) <<< ((c_n (x5).toNatClampNeg) &&& 31)) - (1 : Int32)) <<< (((5 : Int32) * x5) &&& 31)))), (0, .ref a_n), (1, .ref a_r), (2, .ref a_c), (3, .ref a_g), (5, .int x5)]) hx hb dL_narrowed_48 hl (by decide) rfl (fun ls hl => ?_)
          refine lv_iinc (v := x5 + 1) (lv' := [(5, .int (x5 + 1)), (4, .int (x4 ||| ((((1 : Int32) <<< ((c_n (x5).toNatClampNeg) &&& 31)) - (1 : Int32)) <<< (((5 : Int32) * x5) &&& 31)))), (0, .ref a_n), (1, .ref a_r), (2, .ref a_c), (3, .ref a_g)]) hx hb dL_narrowed_50 hl (k := 5) rfl rfl (by decide) rfl (fun ls hl => ?_)
          refine lv_goto (tgt := 6) hx hb dL_narrowed_53 (by decide) ?_
          exact ih_6 (x4 ||| ((((1 : Int32) <<< ((c_n (x5).toNatClampNeg) &&& 31)) - (1 : Int32)) <<< (((5 : Int32) * x5) &&& 31))) (x5 + 1)  hf _ _ (hP.sub [0, 1, 2, 3] rfl) (hD.sub [0, 1, 2, 3] (by decide) rfl) hS _ (lv_sub hl [2, 3, 4, 5, 1, 0] rfl)
        · replace hf := zif hf c_3
          refine lv_iconst (v := 1) hx hb dL_narrowed_23 (by decide) ?_
          refine lv_aload_n hx hb dL_narrowed_24 rfl (lv_at hl 2 rfl) ?_
          refine lv_iload hx hb dL_narrowed_25 (lv_at hl 5 rfl) ?_
          refine va_iald hx hb hK hP 2 0 (cA := cI.1) rfl rfl b_2 dL_narrowed_27 ?_
          refine lv_iconst (v := 1) hx hb dL_narrowed_28 (by decide) ?_
          refine lv_isub hx hb dL_narrowed_29 ?_
          refine lv_ishl hx hb dL_narrowed_30 ?_
          refine lv_goto (tgt := 42) hx hb dL_narrowed_31 (by decide) ?_
          refine lv_iconst (v := 5) hx hb dL_narrowed_42 (by decide) ?_
          refine lv_iload hx hb dL_narrowed_43 (lv_at hl 5 rfl) ?_
          refine lv_imul hx hb dL_narrowed_45 ?_
          refine lv_ishl hx hb dL_narrowed_46 ?_
          refine lv_ior hx hb dL_narrowed_47 ?_
          refine lv_istore (lv' := [(4, .int (x4 ||| (((1 : Int32) <<< (((c_c (x5).toNatClampNeg) - (1 : Int32)) &&& 31)) <<< (((5 : Int32) * x5) &&& 31)))), (0, .ref a_n), (1, .ref a_r), (2, .ref a_c), (3, .ref a_g), (5, .int x5)]) hx hb dL_narrowed_48 hl (by decide) rfl (fun ls hl => ?_)
          refine lv_iinc (v := x5 + 1) (lv' := [(5, .int (x5 + 1)), (4, .int (x4 ||| (((1 : Int32) <<< (((c_c (x5).toNatClampNeg) - (1 : Int32)) &&& 31)) <<< (((5 : Int32) * x5) &&& 31)))), (0, .ref a_n), (1, .ref a_r), (2, .ref a_c), (3, .ref a_g)]) hx hb dL_narrowed_50 hl (k := 5) rfl rfl (by decide) rfl (fun ls hl => ?_)
          refine lv_goto (tgt := 6) hx hb dL_narrowed_53 (by decide) ?_
          exact ih_6 (x4 ||| (((1 : Int32) <<< (((c_c (x5).toNatClampNeg) - (1 : Int32)) &&& 31)) <<< (((5 : Int32) * x5) &&& 31))) (x5 + 1)  hf _ _ (hP.sub [0, 1, 2, 3] rfl) (hD.sub [0, 1, 2, 3] (by decide) rfl) hS _ (lv_sub hl [2, 3, 4, 5, 1, 0] rfl)
  refine lv_iconst (v := 0) hx hb dL_narrowed_0 (by decide) ?_
  refine lv_istore (lv' := [(4, .int 0), (0, .ref a_n), (1, .ref a_r), (2, .ref a_c), (3, .ref a_g)]) hx hb dL_narrowed_1 hl (by decide) rfl (fun ls hl => ?_)
  refine lv_iconst (v := 0) hx hb dL_narrowed_3 (by decide) ?_
  refine lv_istore (lv' := [(5, .int 0), (4, .int 0), (0, .ref a_n), (1, .ref a_r), (2, .ref a_c), (3, .ref a_g)]) hx hb dL_narrowed_4 hl (by decide) rfl (fun ls hl => ?_)
  exact w_L6 fu (0 : Int32) (0 : Int32)  hf _ _ (hP.sub [0, 1, 2, 3] rfl) (hD.sub [0, 1, 2, 3] (by decide) rfl) hS _ (lv_sub hl [2, 3, 4, 5, 1, 0] rfl)
noncomputable def m_L_taken_L8_b (fu : Nat) (x1 : Int32) (x2 : Int32) (x3 : Int32) (c_n : Nat → Int32)  (k8 : Int32 → Int32 → Option (Int32)) (x4 : Int32) (x5 : Int32) : Option (Int32) :=
  if x5 ≤ x3 then if x3 < 0 ∨ 6 ≤ (x3).toNatClampNeg then none else if c_n (x3).toNatClampNeg = 0 then none else some (x4 - x4 / (c_n (x3).toNatClampNeg) * (c_n (x3).toNatClampNeg)) else if x5 < 0 ∨ 6 ≤ (x5).toNatClampNeg then none else if c_n (x5).toNatClampNeg = 0 then none else k8 (x4 / (c_n (x5).toNatClampNeg)) (x5 + (-1))
noncomputable def m_L_taken_L8 (fu : Nat) (x1 : Int32) (x2 : Int32) (x3 : Int32) (c_n : Nat → Int32)  (n : Nat) : Int32 → Int32 → Option (Int32) :=
  Nat.rec (motive := fun _ => Int32 → Int32 → Option (Int32)) (fun _ _ => none) (fun _ ih => m_L_taken_L8_b fu x1 x2 x3 c_n  ih) n
noncomputable def m_L_taken (fu : Nat) (c_n : Nat → Int32) (x1 : Int32) (x2 : Int32) (x3 : Int32) : Option (Int32) :=
  m_L_taken_L8 fu x1 x2 x3 c_n fu x2 (x1 - (1 : Int32))
def rm_L_taken : Room := { frames := 0, cells := 0, slots := 0, locals := 0 }
theorem hd_L_taken : yL_taken.cls ≠ "java/lang/invoke/MethodHandle" ∧ yL_taken.cls ≠ "java/lang/invoke/VarHandle" ∧ (parseMethodDescriptor yL_taken.desc).map (fun d => d.parameters.length) = some 4 := by decide +kernel
set_option maxHeartbeats 4000000 in
set_option maxRecDepth 100000 in
theorem c_L_taken (l : Launch) (D : va_G) (cI : ClassId × ClassId) (sz : Nat) (a_n : Nat) (fu : Nat) (c_n : Nat → Int32) (x1 : Int32) (x2 : Int32) (x3 : Int32) (r : Int32) (hf : m_L_taken fu c_n x1 x2 x3 = some r) : Met l yL_taken (zw (Cond.code yL_taken cL_taken 6 (some .int))) rm_L_taken (va_Pc [.ref a_n, .int x1, .int x2, .int x3] (zA D cI [(a_n, .inl (cI.1, 6, .inl c_n))] sz)) (zQi D (va_A [(a_n, .inl (cI.1, 6, .inl c_n))] sz) (fun v => v = r) (fun (u : Unit) => ([(a_n, .inl (cI.1, 6, .inl c_n))] : va_W))) 0 0 (va_A [(a_n, .inl (cI.1, 6, .inl c_n))] sz) := by
  unfold m_L_taken at hf
  refine zhead (C := RL) (by decide +kernel) rfl ?_
  intro p e s m below meth c hx hb hr hlocks hml hown hnm hts hE hK H hP hS hD hA
  generalize va_A [(a_n, .inl (cI.1, 6, .inl c_n))] sz = A at hS hD hA ⊢
  have hl := lv_entry ([.ref a_n, .int x1, .int x2, .int x3]) (n := 6) (Nat.le_of_ble_eq_true rfl)
  rw [lg_entry_eq]
  generalize (lg_sl ([.ref a_n, .int x1, .int x2, .int x3]) ++ List.replicate (6 - (lg_sl ([.ref a_n, .int x1, .int x2, .int x3])).length) Slot.unset).toArray = ls at hl ⊢
  have hl : lv_has ls 6 [(0, .ref a_n), (1, .int x1), (2, .int x2), (3, .int x3)] := hl

  have w_L8 : ∀ (n : Nat) (x4 : Int32) (x5 : Int32), m_L_taken_L8 fu x1 x2 x3 c_n n x4 x5 = some r → ∀ (H : Heap) (locs : List Loc), va_P D vwCl [(a_n, .inl (cI.1, 6, .inl c_n))] H → va_D A [(a_n, .inl (cI.1, 6, .inl c_n))] → va_S A s.heap H locs → ∀ ls : Array Slot, lv_has ls 6 [(0, .ref a_n), (1, .int x1), (2, .int x2), (3, .int x3), (4, .int x4), (5, .int x5)] → W p l e rm_L_taken s m ([.ref a_n, .int x1, .int x2, .int x3] : List Value).toArray below meth c H locs 0 0 (MQ below (zQi D A (fun v => v = r) (fun (u : Unit) => ([(a_n, .inl (cI.1, 6, .inl c_n))] : va_W))) ([.ref a_n, .int x1, .int x2, .int x3] : List Value).toArray s 0 0 A) (F0 m 8 ls []) := by
    intro n_8
    induction n_8 with
    | zero => intro x4 x5  hf; exact absurd hf (fun h => by cases h)
    | succ n_8 ih_8 =>
      intro x4 x5  hf H locs hP hD hS ls hl
      replace hf : m_L_taken_L8_b fu x1 x2 x3 c_n  (m_L_taken_L8 fu x1 x2 x3 c_n n_8) x4 x5 = some r := hf
      unfold m_L_taken_L8_b at hf
      refine lv_iload hx hb dL_taken_8 (lv_at hl 5 rfl) ?_
      refine lv_iload_n hx hb dL_taken_10 rfl (lv_at hl 3 rfl) ?_
      refine lv_icmp_le (tgt := 29) hx hb dL_taken_11 (by decide) (fun c_1 => ?_) (fun c_1 => ?_)
      · replace hf := zit hf c_1
        refine lv_iload hx hb dL_taken_29 (lv_at hl 4 rfl) ?_
        refine lv_aload_n hx hb dL_taken_31 rfl (lv_at hl 0 rfl) ?_
        refine lv_iload_n hx hb dL_taken_32 rfl (lv_at hl 3 rfl) ?_
        obtain ⟨b_2, hf⟩ := zib hf
        refine va_iald hx hb hK hP 0 0 (cA := cI.1) rfl rfl b_2 dL_taken_33 ?_
        obtain ⟨b_3, hf⟩ := zib hf
        refine lv_irem hx hb dL_taken_34 b_3 ?_
        obtain rfl := Option.some.inj hf
        exact zret_i hx hb hr rfl rfl () hP hD hS [0] rfl (by decide) dL_taken_35 hlocks
      · replace hf := zif hf c_1
        refine lv_iload hx hb dL_taken_14 (lv_at hl 4 rfl) ?_
        refine lv_aload_n hx hb dL_taken_16 rfl (lv_at hl 0 rfl) ?_
        refine lv_iload hx hb dL_taken_17 (lv_at hl 5 rfl) ?_
        obtain ⟨b_4, hf⟩ := zib hf
        refine va_iald hx hb hK hP 0 0 (cA := cI.1) rfl rfl b_4 dL_taken_19 ?_
        obtain ⟨b_5, hf⟩ := zib hf
        refine lv_idiv hx hb dL_taken_20 b_5 ?_
        refine lv_istore (lv' := [(4, .int (x4 / (c_n (x5).toNatClampNeg))), (0, .ref a_n), (1, .int x1), (2, .int x2), (3, .int x3), (5, .int x5)]) hx hb dL_taken_21 hl (by decide) rfl (fun ls hl => ?_)
        refine lv_iinc (v := x5 + (-1)) (lv' := [(5, .int (x5 + (-1))), (4, .int (x4 / (c_n (x5).toNatClampNeg))), (0, .ref a_n), (1, .int x1), (2, .int x2), (3, .int x3)]) hx hb dL_taken_23 hl (k := 5) rfl rfl (by decide) rfl (fun ls hl => ?_)
        refine lv_goto (tgt := 8) hx hb dL_taken_26 (by decide) ?_
        exact ih_8 (x4 / (c_n (x5).toNatClampNeg)) (x5 + (-1))  hf _ _ (hP.sub [0] rfl) (hD.sub [0] (by decide) rfl) hS _ (lv_sub hl [2, 3, 4, 5, 1, 0] rfl)
  refine lv_iload_n hx hb dL_taken_0 rfl (lv_at hl 2 rfl) ?_
  refine lv_istore (lv' := [(4, .int x2), (0, .ref a_n), (1, .int x1), (2, .int x2), (3, .int x3)]) hx hb dL_taken_1 hl (by decide) rfl (fun ls hl => ?_)
  refine lv_iload_n hx hb dL_taken_3 rfl (lv_at hl 2 rfl) ?_
  refine lv_iconst (v := 1) hx hb dL_taken_4 (by decide) ?_
  refine lv_isub hx hb dL_taken_5 ?_
  refine lv_istore (lv' := [(5, .int (x1 - (1 : Int32))), (4, .int x2), (0, .ref a_n), (1, .int x1), (2, .int x2), (3, .int x3)]) hx hb dL_taken_6 hl (by decide) rfl (fun ls hl => ?_)
  exact w_L8 fu x2 (x1 - (1 : Int32))  hf _ _ (hP.sub [0] rfl) (hD.sub [0] (by decide) rfl) hS _ (lv_sub hl [2, 3, 4, 5, 1, 0] rfl)
noncomputable def m_L_left_L57_b (fu : Nat) (x4 : Int32) (x5 : Int32) (c_n : Nat → Int32) (c_r : Nat → Int32) (c_c : Nat → Int32) (c_g : Nat → Int32) (k6 : Int32 → Int32 → Option (Int32)) (k20 : Int32 → Int32 → Int32 → Int32 → Option (Int32)) (k57 : Int32 → Int32 → Int32 → Int32 → Int32 → Int32 → Option (Int32)) (x6 : Int32) (x7 : Int32) (x8 : Int32) (x9 : Int32) (x10 : Int32) (x11 : Int32) : Option (Int32) :=
  if x4 ≤ x11 then if x10 = (0 : Int32) then k20 x6 x7 (x8 ||| (0 : Int32)) (x9 + 1) else k20 x6 x7 (x8 ||| ((1 : Int32) <<< (x9 &&& 31))) (x9 + 1) else if x11 = x7 then (m_L_taken fu c_n x4 x5 x11).bind fun u_13 => if x9 = u_13 then k57 x6 x7 x8 x9 (x10 &&& (1 : Int32)) (x11 + 1) else k57 x6 x7 x8 x9 (x10 &&& (0 : Int32)) (x11 + 1) else (m_L_taken fu c_n x4 x5 x11).bind fun u_11 => (m_L_together fu c_r c_g x11 u_11 x7 x9).bind fun u_12 => k57 x6 x7 x8 x9 (x10 &&& u_12) (x11 + 1)
noncomputable def m_L_left_L57 (fu : Nat) (x4 : Int32) (x5 : Int32) (c_n : Nat → Int32) (c_r : Nat → Int32) (c_c : Nat → Int32) (c_g : Nat → Int32) (k6 : Int32 → Int32 → Option (Int32)) (k20 : Int32 → Int32 → Int32 → Int32 → Option (Int32)) (n : Nat) : Int32 → Int32 → Int32 → Int32 → Int32 → Int32 → Option (Int32) :=
  Nat.rec (motive := fun _ => Int32 → Int32 → Int32 → Int32 → Int32 → Int32 → Option (Int32)) (fun _ _ _ _ _ _ => none) (fun _ ih => m_L_left_L57_b fu x4 x5 c_n c_r c_c c_g k6 k20  ih) n
noncomputable def m_L_left_L20_b (fu : Nat) (x4 : Int32) (x5 : Int32) (c_n : Nat → Int32) (c_r : Nat → Int32) (c_c : Nat → Int32) (c_g : Nat → Int32) (k6 : Int32 → Int32 → Option (Int32)) (k20 : Int32 → Int32 → Int32 → Int32 → Option (Int32)) (x6 : Int32) (x7 : Int32) (x8 : Int32) (x9 : Int32) : Option (Int32) :=
  if x7 < 0 ∨ 6 ≤ (x7).toNatClampNeg then none else if c_n (x7).toNatClampNeg ≤ x9 then if x8 = (0 : Int32) then some (-1 : Int32) else if x7 < x4 then k6 x6 (x7 + 1) else k6 (x6 ||| (x8 <<< (((5 : Int32) * x7) &&& 31))) (x7 + 1) else if c_c (x7).toNatClampNeg = (0 : Int32) then m_L_left_L57 fu x4 x5 c_n c_r c_c c_g k6 k20 fu x6 x7 x8 x9 (1 : Int32) (0 : Int32) else if c_c (x7).toNatClampNeg = x9 + (1 : Int32) then m_L_left_L57 fu x4 x5 c_n c_r c_c c_g k6 k20 fu x6 x7 x8 x9 (1 : Int32) (0 : Int32) else m_L_left_L57 fu x4 x5 c_n c_r c_c c_g k6 k20 fu x6 x7 x8 x9 (0 : Int32) (0 : Int32)
noncomputable def m_L_left_L20 (fu : Nat) (x4 : Int32) (x5 : Int32) (c_n : Nat → Int32) (c_r : Nat → Int32) (c_c : Nat → Int32) (c_g : Nat → Int32) (k6 : Int32 → Int32 → Option (Int32)) (n : Nat) : Int32 → Int32 → Int32 → Int32 → Option (Int32) :=
  Nat.rec (motive := fun _ => Int32 → Int32 → Int32 → Int32 → Option (Int32)) (fun _ _ _ _ => none) (fun _ ih => m_L_left_L20_b fu x4 x5 c_n c_r c_c c_g k6  ih) n
noncomputable def m_L_left_L6_b (fu : Nat) (x4 : Int32) (x5 : Int32) (c_n : Nat → Int32) (c_r : Nat → Int32) (c_c : Nat → Int32) (c_g : Nat → Int32)  (k6 : Int32 → Int32 → Option (Int32)) (x6 : Int32) (x7 : Int32) : Option (Int32) :=
  if c_g ((0 : Int32)).toNatClampNeg ≤ x7 then some x6 else m_L_left_L20 fu x4 x5 c_n c_r c_c c_g k6 fu x6 x7 (0 : Int32) (0 : Int32)
noncomputable def m_L_left_L6 (fu : Nat) (x4 : Int32) (x5 : Int32) (c_n : Nat → Int32) (c_r : Nat → Int32) (c_c : Nat → Int32) (c_g : Nat → Int32)  (n : Nat) : Int32 → Int32 → Option (Int32) :=
  Nat.rec (motive := fun _ => Int32 → Int32 → Option (Int32)) (fun _ _ => none) (fun _ ih => m_L_left_L6_b fu x4 x5 c_n c_r c_c c_g  ih) n
noncomputable def m_L_left (fu : Nat) (c_n : Nat → Int32) (c_r : Nat → Int32) (c_c : Nat → Int32) (c_g : Nat → Int32) (x4 : Int32) (x5 : Int32) : Option (Int32) :=
  m_L_left_L6 fu x4 x5 c_n c_r c_c c_g fu (0 : Int32) (0 : Int32)
def rm_L_left : Room := { frames := 2, cells := 0, slots := 0, locals := 52 }
theorem hd_L_left : yL_left.cls ≠ "java/lang/invoke/MethodHandle" ∧ yL_left.cls ≠ "java/lang/invoke/VarHandle" ∧ (parseMethodDescriptor yL_left.desc).map (fun d => d.parameters.length) = some 6 := by decide +kernel
set_option maxHeartbeats 4000000 in
set_option maxRecDepth 100000 in
theorem c_L_left (l : Launch) (D : va_G) (cI : ClassId × ClassId) (sz : Nat) (a_n : Nat) (a_r : Nat) (a_c : Nat) (a_g : Nat) (fu : Nat) (c_n : Nat → Int32) (c_r : Nat → Int32) (c_c : Nat → Int32) (c_g : Nat → Int32) (x4 : Int32) (x5 : Int32) (r : Int32) (hf : m_L_left fu c_n c_r c_c c_g x4 x5 = some r) : Met l yL_left (zw (Cond.code yL_left cL_left 12 (some .int))) rm_L_left (va_Pc [.ref a_n, .ref a_r, .ref a_c, .ref a_g, .int x4, .int x5] (zA D cI [(a_n, .inl (cI.1, 6, .inl c_n)), (a_r, .inl (cI.1, 20, .inl c_r)), (a_c, .inl (cI.1, 6, .inl c_c)), (a_g, .inl (cI.1, 7, .inl c_g))] sz)) (zQi D (va_A [(a_n, .inl (cI.1, 6, .inl c_n)), (a_r, .inl (cI.1, 20, .inl c_r)), (a_c, .inl (cI.1, 6, .inl c_c)), (a_g, .inl (cI.1, 7, .inl c_g))] sz) (fun v => v = r) (fun (u : Unit) => ([(a_n, .inl (cI.1, 6, .inl c_n)), (a_r, .inl (cI.1, 20, .inl c_r)), (a_c, .inl (cI.1, 6, .inl c_c)), (a_g, .inl (cI.1, 7, .inl c_g))] : va_W))) 0 0 (va_A [(a_n, .inl (cI.1, 6, .inl c_n)), (a_r, .inl (cI.1, 20, .inl c_r)), (a_c, .inl (cI.1, 6, .inl c_c)), (a_g, .inl (cI.1, 7, .inl c_g))] sz) := by
  unfold m_L_left at hf
  refine zhead (C := RL) (by decide +kernel) rfl ?_
  intro p e s m below meth c hx hb hr hlocks hml hown hnm hts hE hK H hP hS hD hA
  generalize va_A [(a_n, .inl (cI.1, 6, .inl c_n)), (a_r, .inl (cI.1, 20, .inl c_r)), (a_c, .inl (cI.1, 6, .inl c_c)), (a_g, .inl (cI.1, 7, .inl c_g))] sz = A at hS hD hA ⊢
  have hl := lv_entry ([.ref a_n, .ref a_r, .ref a_c, .ref a_g, .int x4, .int x5]) (n := 12) (Nat.le_of_ble_eq_true rfl)
  rw [lg_entry_eq]
  generalize (lg_sl ([.ref a_n, .ref a_r, .ref a_c, .ref a_g, .int x4, .int x5]) ++ List.replicate (12 - (lg_sl ([.ref a_n, .ref a_r, .ref a_c, .ref a_g, .int x4, .int x5])).length) Slot.unset).toArray = ls at hl ⊢
  have hl : lv_has ls 12 [(0, .ref a_n), (1, .ref a_r), (2, .ref a_c), (3, .ref a_g), (4, .int x4), (5, .int x5)] := hl

  have w_L6 : ∀ (n : Nat) (x6 : Int32) (x7 : Int32), m_L_left_L6 fu x4 x5 c_n c_r c_c c_g n x6 x7 = some r → ∀ (H : Heap) (locs : List Loc), va_P D vwCl [(a_n, .inl (cI.1, 6, .inl c_n)), (a_r, .inl (cI.1, 20, .inl c_r)), (a_c, .inl (cI.1, 6, .inl c_c)), (a_g, .inl (cI.1, 7, .inl c_g))] H → va_D A [(a_n, .inl (cI.1, 6, .inl c_n)), (a_r, .inl (cI.1, 20, .inl c_r)), (a_c, .inl (cI.1, 6, .inl c_c)), (a_g, .inl (cI.1, 7, .inl c_g))] → va_S A s.heap H locs → ∀ ls : Array Slot, lv_has ls 12 [(0, .ref a_n), (1, .ref a_r), (2, .ref a_c), (3, .ref a_g), (4, .int x4), (5, .int x5), (6, .int x6), (7, .int x7)] → W p l e rm_L_left s m ([.ref a_n, .ref a_r, .ref a_c, .ref a_g, .int x4, .int x5] : List Value).toArray below meth c H locs 0 0 (MQ below (zQi D A (fun v => v = r) (fun (u : Unit) => ([(a_n, .inl (cI.1, 6, .inl c_n)), (a_r, .inl (cI.1, 20, .inl c_r)), (a_c, .inl (cI.1, 6, .inl c_c)), (a_g, .inl (cI.1, 7, .inl c_g))] : va_W))) ([.ref a_n, .ref a_r, .ref a_c, .ref a_g, .int x4, .int x5] : List Value).toArray s 0 0 A) (F0 m 6 ls []) := by
    intro n_6
    induction n_6 with
    | zero => intro x6 x7  hf; exact absurd hf (fun h => by cases h)
    | succ n_6 ih_6 =>
      intro x6 x7  hf H locs hP hD hS ls hl
      replace hf : m_L_left_L6_b fu x4 x5 c_n c_r c_c c_g  (m_L_left_L6 fu x4 x5 c_n c_r c_c c_g n_6) x6 x7 = some r := hf
      unfold m_L_left_L6_b at hf
      have w_L20 : ∀ (n : Nat) (x6 : Int32) (x7 : Int32) (x8 : Int32) (x9 : Int32), m_L_left_L20 fu x4 x5 c_n c_r c_c c_g (m_L_left_L6 fu x4 x5 c_n c_r c_c c_g n_6) n x6 x7 x8 x9 = some r → ∀ (H : Heap) (locs : List Loc), va_P D vwCl [(a_n, .inl (cI.1, 6, .inl c_n)), (a_r, .inl (cI.1, 20, .inl c_r)), (a_c, .inl (cI.1, 6, .inl c_c)), (a_g, .inl (cI.1, 7, .inl c_g))] H → va_D A [(a_n, .inl (cI.1, 6, .inl c_n)), (a_r, .inl (cI.1, 20, .inl c_r)), (a_c, .inl (cI.1, 6, .inl c_c)), (a_g, .inl (cI.1, 7, .inl c_g))] → va_S A s.heap H locs → ∀ ls : Array Slot, lv_has ls 12 [(0, .ref a_n), (1, .ref a_r), (2, .ref a_c), (3, .ref a_g), (4, .int x4), (5, .int x5), (6, .int x6), (7, .int x7), (8, .int x8), (9, .int x9)] → W p l e rm_L_left s m ([.ref a_n, .ref a_r, .ref a_c, .ref a_g, .int x4, .int x5] : List Value).toArray below meth c H locs 0 0 (MQ below (zQi D A (fun v => v = r) (fun (u : Unit) => ([(a_n, .inl (cI.1, 6, .inl c_n)), (a_r, .inl (cI.1, 20, .inl c_r)), (a_c, .inl (cI.1, 6, .inl c_c)), (a_g, .inl (cI.1, 7, .inl c_g))] : va_W))) ([.ref a_n, .ref a_r, .ref a_c, .ref a_g, .int x4, .int x5] : List Value).toArray s 0 0 A) (F0 m 20 ls []) := by
        intro n_20
        induction n_20 with
        | zero => intro x6 x7 x8 x9  hf; exact absurd hf (fun h => by cases h)
        | succ n_20 ih_20 =>
          intro x6 x7 x8 x9  hf H locs hP hD hS ls hl
          replace hf : m_L_left_L20_b fu x4 x5 c_n c_r c_c c_g (m_L_left_L6 fu x4 x5 c_n c_r c_c c_g n_6) (m_L_left_L20 fu x4 x5 c_n c_r c_c c_g (m_L_left_L6 fu x4 x5 c_n c_r c_c c_g n_6) n_20) x6 x7 x8 x9 = some r := hf
          unfold m_L_left_L20_b at hf
          have w_L57 : ∀ (n : Nat) (x6 : Int32) (x7 : Int32) (x8 : Int32) (x9 : Int32) (x10 : Int32) (x11 : Int32), m_L_left_L57 fu x4 x5 c_n c_r c_c c_g (m_L_left_L6 fu x4 x5 c_n c_r c_c c_g n_6) (m_L_left_L20 fu x4 x5 c_n c_r c_c c_g (m_L_left_L6 fu x4 x5 c_n c_r c_c c_g n_6) n_20) n x6 x7 x8 x9 x10 x11 = some r → ∀ (H : Heap) (locs : List Loc), va_P D vwCl [(a_n, .inl (cI.1, 6, .inl c_n)), (a_r, .inl (cI.1, 20, .inl c_r)), (a_c, .inl (cI.1, 6, .inl c_c)), (a_g, .inl (cI.1, 7, .inl c_g))] H → va_D A [(a_n, .inl (cI.1, 6, .inl c_n)), (a_r, .inl (cI.1, 20, .inl c_r)), (a_c, .inl (cI.1, 6, .inl c_c)), (a_g, .inl (cI.1, 7, .inl c_g))] → va_S A s.heap H locs → ∀ ls : Array Slot, lv_has ls 12 [(0, .ref a_n), (1, .ref a_r), (2, .ref a_c), (3, .ref a_g), (4, .int x4), (5, .int x5), (6, .int x6), (7, .int x7), (8, .int x8), (9, .int x9), (10, .int x10), (11, .int x11)] → W p l e rm_L_left s m ([.ref a_n, .ref a_r, .ref a_c, .ref a_g, .int x4, .int x5] : List Value).toArray below meth c H locs 0 0 (MQ below (zQi D A (fun v => v = r) (fun (u : Unit) => ([(a_n, .inl (cI.1, 6, .inl c_n)), (a_r, .inl (cI.1, 20, .inl c_r)), (a_c, .inl (cI.1, 6, .inl c_c)), (a_g, .inl (cI.1, 7, .inl c_g))] : va_W))) ([.ref a_n, .ref a_r, .ref a_c, .ref a_g, .int x4, .int x5] : List Value).toArray s 0 0 A) (F0 m 57 ls []) := by
            intro n_57
            induction n_57 with
            | zero => intro x6 x7 x8 x9 x10 x11  hf; exact absurd hf (fun h => by cases h)
            | succ n_57 ih_57 =>
              intro x6 x7 x8 x9 x10 x11  hf H locs hP hD hS ls hl
              replace hf : m_L_left_L57_b fu x4 x5 c_n c_r c_c c_g (m_L_left_L6 fu x4 x5 c_n c_r c_c c_g n_6) (m_L_left_L20 fu x4 x5 c_n c_r c_c c_g (m_L_left_L6 fu x4 x5 c_n c_r c_c c_g n_6) n_20) (m_L_left_L57 fu x4 x5 c_n c_r c_c c_g (m_L_left_L6 fu x4 x5 c_n c_r c_c c_g n_6) (m_L_left_L20 fu x4 x5 c_n c_r c_c c_g (m_L_left_L6 fu x4 x5 c_n c_r c_c c_g n_6) n_20) n_57) x6 x7 x8 x9 x10 x11 = some r := hf
              unfold m_L_left_L57_b at hf
              refine lv_iload hx hb dL_left_57 (lv_at hl 11 rfl) ?_
              refine lv_iload hx hb dL_left_59 (lv_at hl 4 rfl) ?_
              refine lv_icmp_ge (tgt := 126) hx hb dL_left_61 (by decide) (fun c_8 => ?_) (fun c_8 => ?_)
              · replace hf := zit hf c_8
                refine lv_iload hx hb dL_left_126 (lv_at hl 8 rfl) ?_
                refine lv_iload hx hb dL_left_128 (lv_at hl 10 rfl) ?_
                refine lv_if_eq (tgt := 140) hx hb dL_left_130 (by decide) (fun c_9 => ?_) (fun c_9 => ?_)
                · replace hf := zit hf c_9
                  refine lv_iconst (v := 0) hx hb dL_left_140 (by decide) ?_
                  refine lv_ior hx hb dL_left_141 ?_
                  refine lv_istore (lv' := [(8, .int (x8 ||| (0 : Int32))), (0, .ref a_n), (1, .ref a_r), (2, .ref a_c), (3, .ref a_g), (4, .int x4), (5, .int x5), (6, .int x6), (7, .int x7), (9, .int x9), (10, .int x10), (11, .int x11)]) hx hb dL_left_142 hl (by decide) rfl (fun ls hl => ?_)
                  refine lv_iinc (v := x9 + 1) (lv' := [(9, .int (x9 + 1)), (8, .int (x8 ||| (0 : Int32))), (0, .ref a_n), (1, .ref a_r), (2, .ref a_c), (3, .ref a_g), (4, .int x4), (5, .int x5), (6, .int x6), (7, .int x7), (10, .int x10), (11, .int x11)]) hx hb dL_left_144 hl (k := 9) rfl rfl (by decide) rfl (fun ls hl => ?_)
                  refine lv_goto (tgt := 20) hx hb dL_left_147 (by decide) ?_
                  exact ih_20 x6 x7 (x8 ||| (0 : Int32)) (x9 + 1)  hf _ _ (hP.sub [0, 1, 2, 3] rfl) (hD.sub [0, 1, 2, 3] (by decide) rfl) hS _ (lv_sub hl [2, 3, 4, 5, 6, 7, 8, 9, 1, 0] rfl)
                · replace hf := zif hf c_9
                  refine lv_iconst (v := 1) hx hb dL_left_133 (by decide) ?_
                  refine lv_iload hx hb dL_left_134 (lv_at hl 9 rfl) ?_
                  refine lv_ishl hx hb dL_left_136 ?_
                  refine lv_goto (tgt := 141) hx hb dL_left_137 (by decide) ?_
                  refine lv_ior hx hb dL_left_141 ?_
                  refine lv_istore (lv' := [(8, .int (x8 ||| ((1 : Int32) <<< (x9 &&& 31)))), (0, .ref a_n), (1, .ref a_r), (2, .ref a_c), (3, .ref a_g), (4, .int x4), (5, .int x5), (6, .int x6), (7, .int x7), (9, .int x9), (10, .int x10), (11, .int x11)]) hx hb dL_left_142 hl (by decide) rfl (fun ls hl => ?_)
                  refine lv_iinc (v := x9 + 1) (lv' := [(9, .int (x9 + 1)), (8, .int (x8 ||| ((1 : Int32) <<< (x9 &&& 31)))), (0, .ref a_n), (1, .ref a_r), (2, .ref a_c), (3, .ref a_g), (4, .int x4), (5, .int x5), (6, .int x6), (7, .int x7), (10, .int x10), (11, .int x11)]) hx hb dL_left_144 hl (k := 9) rfl rfl (by decide) rfl (fun ls hl => ?_)
                  refine lv_goto (tgt := 20) hx hb dL_left_147 (by decide) ?_
                  exact ih_20 x6 x7 (x8 ||| ((1 : Int32) <<< (x9 &&& 31))) (x9 + 1)  hf _ _ (hP.sub [0, 1, 2, 3] rfl) (hD.sub [0, 1, 2, 3] (by decide) rfl) hS _ (lv_sub hl [2, 3, 4, 5, 6, 7, 8, 9, 1, 0] rfl)
              · replace hf := zif hf c_8
                refine lv_iload hx hb dL_left_64 (lv_at hl 10 rfl) ?_
                refine lv_iload hx hb dL_left_66 (lv_at hl 11 rfl) ?_
                refine lv_iload hx hb dL_left_68 (lv_at hl 7 rfl) ?_
                refine lv_icmp_ne (tgt := 96) hx hb dL_left_70 (by decide) (fun c_10 => ?_) (fun c_10 => ?_)
                · replace hf := zif hf c_10
                  refine lv_aload_n hx hb dL_left_96 rfl (lv_at hl 1 rfl) ?_
                  refine lv_aload_n hx hb dL_left_97 rfl (lv_at hl 3 rfl) ?_
                  refine lv_iload hx hb dL_left_98 (lv_at hl 11 rfl) ?_
                  refine lv_aload_n hx hb dL_left_100 rfl (lv_at hl 0 rfl) ?_
                  refine lv_iload hx hb dL_left_101 (lv_at hl 4 rfl) ?_
                  refine lv_iload hx hb dL_left_103 (lv_at hl 5 rfl) ?_
                  refine lv_iload hx hb dL_left_105 (lv_at hl 11 rfl) ?_
                  obtain ⟨u_11, e_11, hf⟩ := zbd hf
                  refine zcall_i (wr := [(a_r, .inl (cI.1, 20, .inl c_r)), (a_c, .inl (cI.1, 6, .inl c_c)), (a_g, .inl (cI.1, 7, .inl c_g))]) (va_runS (As := [.ref a_n, .int x4, .int x5, .int x11]) (rest := [.int x11, .ref a_g, .ref a_r, .int x10]) ⟨hx, hb, hml, hown, hts⟩ (c_L_taken l D cI H.size a_n fu c_n x4 x5 x11 u_11 e_11) (va_cwS 4 hts (zG_S kw_425 kw_426 kw_408 kw_424) rfl rfl rfl hd_L_taken ⟨Nat.le_of_ble_eq_true rfl, Nat.le_of_ble_eq_true rfl⟩) ⟨zblind, zpre hP hD hK hE [0] rfl (by decide)⟩ rfl rfl hl.1 rfl (lv_room (Nat.le_of_ble_eq_true rfl)) dL_left_107 ⟨Nat.le_of_ble_eq_true rfl, Nat.le_of_ble_eq_true rfl⟩) hP hD hS hA [0] [1, 2, 3] rfl rfl (by decide) (by decide) (fun r9 uu H locs hX9 hP hD hS => ?_)
                  obtain rfl := hX9.symm
                  have hP : va_P D vwCl [(a_r, .inl (cI.1, 20, .inl c_r)), (a_c, .inl (cI.1, 6, .inl c_c)), (a_g, .inl (cI.1, 7, .inl c_g)), (a_n, .inl (cI.1, 6, .inl c_n))] H := hP
                  have hD : va_D A [(a_r, .inl (cI.1, 20, .inl c_r)), (a_c, .inl (cI.1, 6, .inl c_c)), (a_g, .inl (cI.1, 7, .inl c_g)), (a_n, .inl (cI.1, 6, .inl c_n))] := hD
                  refine lv_iload hx hb dL_left_110 (lv_at hl 7 rfl) ?_
                  refine lv_iload hx hb dL_left_112 (lv_at hl 9 rfl) ?_
                  obtain ⟨u_12, e_12, hf⟩ := zbd hf
                  refine zcall_i (wr := [(a_c, .inl (cI.1, 6, .inl c_c)), (a_n, .inl (cI.1, 6, .inl c_n))]) (va_runS (As := [.ref a_r, .ref a_g, .int x11, .int u_11, .int x7, .int x9]) (rest := [.int x10]) ⟨hx, hb, hml, hown, hts⟩ (c_L_together l D cI H.size a_r a_g fu c_r c_g x11 u_11 x7 x9 u_12 e_12) (va_cwS 6 hts (zG_S kw_422 kw_423 kw_408 kw_421) rfl rfl rfl hd_L_together ⟨Nat.le_of_ble_eq_true rfl, Nat.le_of_ble_eq_true rfl⟩) ⟨zblind, zpre hP hD hK hE [0, 2] rfl (by decide)⟩ rfl rfl hl.1 rfl (lv_room (Nat.le_of_ble_eq_true rfl)) dL_left_114 ⟨Nat.le_of_ble_eq_true rfl, Nat.le_of_ble_eq_true rfl⟩) hP hD hS hA [0, 2] [1, 3] rfl rfl (by decide) (by decide) (fun r9 uu H locs hX9 hP hD hS => ?_)
                  obtain ⟨hX8, hb_12⟩ := hX9
                  obtain rfl := hX8.symm
                  have hP : va_P D vwCl [(a_c, .inl (cI.1, 6, .inl c_c)), (a_n, .inl (cI.1, 6, .inl c_n)), (a_r, .inl (cI.1, 20, .inl c_r)), (a_g, .inl (cI.1, 7, .inl c_g))] H := hP
                  have hD : va_D A [(a_c, .inl (cI.1, 6, .inl c_c)), (a_n, .inl (cI.1, 6, .inl c_n)), (a_r, .inl (cI.1, 20, .inl c_r)), (a_g, .inl (cI.1, 7, .inl c_g))] := hD
                  refine lv_iand hx hb dL_left_117 ?_
                  refine lv_istore (lv' := [(10, .int (x10 &&& u_12)), (0, .ref a_n), (1, .ref a_r), (2, .ref a_c), (3, .ref a_g), (4, .int x4), (5, .int x5), (6, .int x6), (7, .int x7), (8, .int x8), (9, .int x9), (11, .int x11)]) hx hb dL_left_118 hl (by decide) rfl (fun ls hl => ?_)
                  refine lv_iinc (v := x11 + 1) (lv' := [(11, .int (x11 + 1)), (10, .int (x10 &&& u_12)), (0, .ref a_n), (1, .ref a_r), (2, .ref a_c), (3, .ref a_g), (4, .int x4), (5, .int x5), (6, .int x6), (7, .int x7), (8, .int x8), (9, .int x9)]) hx hb dL_left_120 hl (k := 11) rfl rfl (by decide) rfl (fun ls hl => ?_)
                  refine lv_goto (tgt := 57) hx hb dL_left_123 (by decide) ?_
                  exact ih_57 x6 x7 x8 x9 (x10 &&& u_12) (x11 + 1)  hf _ _ (hP.sub [1, 2, 0, 3] rfl) (hD.sub [1, 2, 0, 3] (by decide) rfl) hS _ (lv_sub hl [2, 3, 4, 5, 6, 7, 8, 9, 10, 11, 1, 0] rfl)
                · replace hf := zit hf c_10
                  refine lv_iload hx hb dL_left_73 (lv_at hl 9 rfl) ?_
                  refine lv_aload_n hx hb dL_left_75 rfl (lv_at hl 0 rfl) ?_
                  refine lv_iload hx hb dL_left_76 (lv_at hl 4 rfl) ?_
                  refine lv_iload hx hb dL_left_78 (lv_at hl 5 rfl) ?_
                  refine lv_iload hx hb dL_left_80 (lv_at hl 11 rfl) ?_
                  obtain ⟨u_13, e_13, hf⟩ := zbd hf
                  refine zcall_i (wr := [(a_r, .inl (cI.1, 20, .inl c_r)), (a_c, .inl (cI.1, 6, .inl c_c)), (a_g, .inl (cI.1, 7, .inl c_g))]) (va_runS (As := [.ref a_n, .int x4, .int x5, .int x11]) (rest := [.int x9, .int x10]) ⟨hx, hb, hml, hown, hts⟩ (c_L_taken l D cI H.size a_n fu c_n x4 x5 x11 u_13 e_13) (va_cwS 4 hts (zG_S kw_425 kw_426 kw_408 kw_424) rfl rfl rfl hd_L_taken ⟨Nat.le_of_ble_eq_true rfl, Nat.le_of_ble_eq_true rfl⟩) ⟨zblind, zpre hP hD hK hE [0] rfl (by decide)⟩ rfl rfl hl.1 rfl (lv_room (Nat.le_of_ble_eq_true rfl)) dL_left_82 ⟨Nat.le_of_ble_eq_true rfl, Nat.le_of_ble_eq_true rfl⟩) hP hD hS hA [0] [1, 2, 3] rfl rfl (by decide) (by decide) (fun r9 uu H locs hX9 hP hD hS => ?_)
                  obtain rfl := hX9.symm
                  have hP : va_P D vwCl [(a_r, .inl (cI.1, 20, .inl c_r)), (a_c, .inl (cI.1, 6, .inl c_c)), (a_g, .inl (cI.1, 7, .inl c_g)), (a_n, .inl (cI.1, 6, .inl c_n))] H := hP
                  have hD : va_D A [(a_r, .inl (cI.1, 20, .inl c_r)), (a_c, .inl (cI.1, 6, .inl c_c)), (a_g, .inl (cI.1, 7, .inl c_g)), (a_n, .inl (cI.1, 6, .inl c_n))] := hD
                  refine lv_icmp_ne (tgt := 92) hx hb dL_left_85 (by decide) (fun c_14 => ?_) (fun c_14 => ?_)
                  · replace hf := zif hf c_14
                    refine lv_iconst (v := 0) hx hb dL_left_92 (by decide) ?_
                    refine lv_goto (tgt := 117) hx hb dL_left_93 (by decide) ?_
                    refine lv_iand hx hb dL_left_117 ?_
                    refine lv_istore (lv' := [(10, .int (x10 &&& (0 : Int32))), (0, .ref a_n), (1, .ref a_r), (2, .ref a_c), (3, .ref a_g), (4, .int x4), (5, .int x5), (6, .int x6), (7, .int x7), (8, .int x8), (9, .int x9), (11, .int x11)]) hx hb dL_left_118 hl (by decide) rfl (fun ls hl => ?_)
                    refine lv_iinc (v := x11 + 1) (lv' := [(11, .int (x11 + 1)), (10, .int (x10 &&& (0 : Int32))), (0, .ref a_n), (1, .ref a_r), (2, .ref a_c), (3, .ref a_g), (4, .int x4), (5, .int x5), (6, .int x6), (7, .int x7), (8, .int x8), (9, .int x9)]) hx hb dL_left_120 hl (k := 11) rfl rfl (by decide) rfl (fun ls hl => ?_)
                    refine lv_goto (tgt := 57) hx hb dL_left_123 (by decide) ?_
                    exact ih_57 x6 x7 x8 x9 (x10 &&& (0 : Int32)) (x11 + 1)  hf _ _ (hP.sub [3, 0, 1, 2] rfl) (hD.sub [3, 0, 1, 2] (by decide) rfl) hS _ (lv_sub hl [2, 3, 4, 5, 6, 7, 8, 9, 10, 11, 1, 0] rfl)
                  · replace hf := zit hf c_14
                    refine lv_iconst (v := 1) hx hb dL_left_88 (by decide) ?_
                    refine lv_goto (tgt := 117) hx hb dL_left_89 (by decide) ?_
                    refine lv_iand hx hb dL_left_117 ?_
                    refine lv_istore (lv' := [(10, .int (x10 &&& (1 : Int32))), (0, .ref a_n), (1, .ref a_r), (2, .ref a_c), (3, .ref a_g), (4, .int x4), (5, .int x5), (6, .int x6), (7, .int x7), (8, .int x8), (9, .int x9), (11, .int x11)]) hx hb dL_left_118 hl (by decide) rfl (fun ls hl => ?_)
                    refine lv_iinc (v := x11 + 1) (lv' := [(11, .int (x11 + 1)), (10, .int (x10 &&& (1 : Int32))), (0, .ref a_n), (1, .ref a_r), (2, .ref a_c), (3, .ref a_g), (4, .int x4), (5, .int x5), (6, .int x6), (7, .int x7), (8, .int x8), (9, .int x9)]) hx hb dL_left_120 hl (k := 11) rfl rfl (by decide) rfl (fun ls hl => ?_)
                    refine lv_goto (tgt := 57) hx hb dL_left_123 (by decide) ?_
                    exact ih_57 x6 x7 x8 x9 (x10 &&& (1 : Int32)) (x11 + 1)  hf _ _ (hP.sub [3, 0, 1, 2] rfl) (hD.sub [3, 0, 1, 2] (by decide) rfl) hS _ (lv_sub hl [2, 3, 4, 5, 6, 7, 8, 9, 10, 11, 1, 0] rfl)
          refine lv_iload hx hb dL_left_20 (lv_at hl 9 rfl) ?_
          refine lv_aload_n hx hb dL_left_22 rfl (lv_at hl 0 rfl) ?_
          refine lv_iload hx hb dL_left_23 (lv_at hl 7 rfl) ?_
          obtain ⟨b_2, hf⟩ := zib hf
          refine va_iald hx hb hK hP 0 0 (cA := cI.1) rfl rfl b_2 dL_left_25 ?_
          refine lv_icmp_ge (tgt := 150) hx hb dL_left_26 (by decide) (fun c_3 => ?_) (fun c_3 => ?_)
          · replace hf := zit hf c_3
            refine lv_iload hx hb dL_left_150 (lv_at hl 8 rfl) ?_
            refine lv_if_ne (tgt := 157) hx hb dL_left_152 (by decide) (fun c_4 => ?_) (fun c_4 => ?_)
            · replace hf := zif hf c_4
              refine lv_iload hx hb dL_left_157 (lv_at hl 7 rfl) ?_
              refine lv_iload hx hb dL_left_159 (lv_at hl 4 rfl) ?_
              refine lv_icmp_lt (tgt := 176) hx hb dL_left_161 (by decide) (fun c_5 => ?_) (fun c_5 => ?_)
              · replace hf := zit hf c_5
                refine lv_iinc (v := x7 + 1) (lv' := [(7, .int (x7 + 1)), (0, .ref a_n), (1, .ref a_r), (2, .ref a_c), (3, .ref a_g), (4, .int x4), (5, .int x5), (6, .int x6), (8, .int x8), (9, .int x9)]) hx hb dL_left_176 hl (k := 7) rfl rfl (by decide) rfl (fun ls hl => ?_)
                refine lv_goto (tgt := 6) hx hb dL_left_179 (by decide) ?_
                exact ih_6 x6 (x7 + 1)  hf _ _ (hP.sub [0, 1, 2, 3] rfl) (hD.sub [0, 1, 2, 3] (by decide) rfl) hS _ (lv_sub hl [1, 2, 3, 4, 5, 6, 7, 0] rfl)
              · replace hf := zif hf c_5
                refine lv_iload hx hb dL_left_164 (lv_at hl 6 rfl) ?_
                refine lv_iload hx hb dL_left_166 (lv_at hl 8 rfl) ?_
                refine lv_iconst (v := 5) hx hb dL_left_168 (by decide) ?_
                refine lv_iload hx hb dL_left_169 (lv_at hl 7 rfl) ?_
                refine lv_imul hx hb dL_left_171 ?_
                refine lv_ishl hx hb dL_left_172 ?_
                refine lv_ior hx hb dL_left_173 ?_
                refine lv_istore (lv' := [(6, .int (x6 ||| (x8 <<< (((5 : Int32) * x7) &&& 31)))), (0, .ref a_n), (1, .ref a_r), (2, .ref a_c), (3, .ref a_g), (4, .int x4), (5, .int x5), (7, .int x7), (8, .int x8), (9, .int x9)]) hx hb dL_left_174 hl (by decide) rfl (fun ls hl => ?_)
                refine lv_iinc (v := x7 + 1) (lv' := [(7, .int (x7 + 1)), (6, .int (x6 ||| (x8 <<< (((5 : Int32) * x7) &&& 31)))), (0, .ref a_n), (1, .ref a_r), (2, .ref a_c), (3, .ref a_g), (4, .int x4), (5, .int x5), (8, .int x8), (9, .int x9)]) hx hb dL_left_176 hl (k := 7) rfl rfl (by decide) rfl (fun ls hl => ?_)
                refine lv_goto (tgt := 6) hx hb dL_left_179 (by decide) ?_
                exact ih_6 (x6 ||| (x8 <<< (((5 : Int32) * x7) &&& 31))) (x7 + 1)  hf _ _ (hP.sub [0, 1, 2, 3] rfl) (hD.sub [0, 1, 2, 3] (by decide) rfl) hS _ (lv_sub hl [2, 3, 4, 5, 6, 7, 1, 0] rfl)
            · replace hf := zit hf c_4
              refine lv_iconst (v := -1) hx hb dL_left_155 (by decide) ?_
              obtain rfl := Option.some.inj hf
              exact zret_i hx hb hr rfl rfl () hP hD hS [0, 1, 2, 3] rfl (by decide) dL_left_156 hlocks
          · replace hf := zif hf c_3
            refine lv_aload_n hx hb dL_left_29 rfl (lv_at hl 2 rfl) ?_
            refine lv_iload hx hb dL_left_30 (lv_at hl 7 rfl) ?_
            refine va_iald hx hb hK hP 2 0 (cA := cI.1) rfl rfl b_2 dL_left_32 ?_
            refine lv_if_eq (tgt := 47) hx hb dL_left_33 (by decide) (fun c_6 => ?_) (fun c_6 => ?_)
            · replace hf := zit hf c_6
              refine lv_iconst (v := 1) hx hb dL_left_47 (by decide) ?_
              refine lv_goto (tgt := 52) hx hb dL_left_48 (by decide) ?_
              refine lv_istore (lv' := [(10, .int 1), (0, .ref a_n), (1, .ref a_r), (2, .ref a_c), (3, .ref a_g), (4, .int x4), (5, .int x5), (6, .int x6), (7, .int x7), (8, .int x8), (9, .int x9)]) hx hb dL_left_52 hl (by decide) rfl (fun ls hl => ?_)
              refine lv_iconst (v := 0) hx hb dL_left_54 (by decide) ?_
              refine lv_istore (lv' := [(11, .int 0), (10, .int 1), (0, .ref a_n), (1, .ref a_r), (2, .ref a_c), (3, .ref a_g), (4, .int x4), (5, .int x5), (6, .int x6), (7, .int x7), (8, .int x8), (9, .int x9)]) hx hb dL_left_55 hl (by decide) rfl (fun ls hl => ?_)
              exact w_L57 fu x6 x7 x8 x9 (1 : Int32) (0 : Int32)  hf _ _ (hP.sub [0, 1, 2, 3] rfl) (hD.sub [0, 1, 2, 3] (by decide) rfl) hS _ (lv_sub hl [2, 3, 4, 5, 6, 7, 8, 9, 10, 11, 1, 0] rfl)
            · replace hf := zif hf c_6
              refine lv_aload_n hx hb dL_left_36 rfl (lv_at hl 2 rfl) ?_
              refine lv_iload hx hb dL_left_37 (lv_at hl 7 rfl) ?_
              refine va_iald hx hb hK hP 2 0 (cA := cI.1) rfl rfl b_2 dL_left_39 ?_
              refine lv_iload hx hb dL_left_40 (lv_at hl 9 rfl) ?_
              refine lv_iconst (v := 1) hx hb dL_left_42 (by decide) ?_
              refine lv_iadd hx hb dL_left_43 ?_
              refine lv_icmp_ne (tgt := 51) hx hb dL_left_44 (by decide) (fun c_7 => ?_) (fun c_7 => ?_)
              · replace hf := zif hf c_7
                refine lv_iconst (v := 0) hx hb dL_left_51 (by decide) ?_
                refine lv_istore (lv' := [(10, .int 0), (0, .ref a_n), (1, .ref a_r), (2, .ref a_c), (3, .ref a_g), (4, .int x4), (5, .int x5), (6, .int x6), (7, .int x7), (8, .int x8), (9, .int x9)]) hx hb dL_left_52 hl (by decide) rfl (fun ls hl => ?_)
                refine lv_iconst (v := 0) hx hb dL_left_54 (by decide) ?_
                refine lv_istore (lv' := [(11, .int 0), (10, .int 0), (0, .ref a_n), (1, .ref a_r), (2, .ref a_c), (3, .ref a_g), (4, .int x4), (5, .int x5), (6, .int x6), (7, .int x7), (8, .int x8), (9, .int x9)]) hx hb dL_left_55 hl (by decide) rfl (fun ls hl => ?_)
                exact w_L57 fu x6 x7 x8 x9 (0 : Int32) (0 : Int32)  hf _ _ (hP.sub [0, 1, 2, 3] rfl) (hD.sub [0, 1, 2, 3] (by decide) rfl) hS _ (lv_sub hl [2, 3, 4, 5, 6, 7, 8, 9, 10, 11, 1, 0] rfl)
              · replace hf := zit hf c_7
                refine lv_iconst (v := 1) hx hb dL_left_47 (by decide) ?_
                refine lv_goto (tgt := 52) hx hb dL_left_48 (by decide) ?_
                refine lv_istore (lv' := [(10, .int 1), (0, .ref a_n), (1, .ref a_r), (2, .ref a_c), (3, .ref a_g), (4, .int x4), (5, .int x5), (6, .int x6), (7, .int x7), (8, .int x8), (9, .int x9)]) hx hb dL_left_52 hl (by decide) rfl (fun ls hl => ?_)
                refine lv_iconst (v := 0) hx hb dL_left_54 (by decide) ?_
                refine lv_istore (lv' := [(11, .int 0), (10, .int 1), (0, .ref a_n), (1, .ref a_r), (2, .ref a_c), (3, .ref a_g), (4, .int x4), (5, .int x5), (6, .int x6), (7, .int x7), (8, .int x8), (9, .int x9)]) hx hb dL_left_55 hl (by decide) rfl (fun ls hl => ?_)
                exact w_L57 fu x6 x7 x8 x9 (1 : Int32) (0 : Int32)  hf _ _ (hP.sub [0, 1, 2, 3] rfl) (hD.sub [0, 1, 2, 3] (by decide) rfl) hS _ (lv_sub hl [2, 3, 4, 5, 6, 7, 8, 9, 10, 11, 1, 0] rfl)
      refine lv_iload hx hb dL_left_6 (lv_at hl 7 rfl) ?_
      refine lv_aload_n hx hb dL_left_8 rfl (lv_at hl 3 rfl) ?_
      refine lv_iconst (v := 0) hx hb dL_left_9 (by decide) ?_
      refine va_iald hx hb hK hP 3 0 (cA := cI.1) rfl rfl (show ¬ ((0 : Int32) < 0 ∨ 7 ≤ (0 : Int32).toNatClampNeg) by decide) dL_left_10 ?_
      refine lv_icmp_ge (tgt := 182) hx hb dL_left_11 (by decide) (fun c_1 => ?_) (fun c_1 => ?_)
      · replace hf := zit hf c_1
        refine lv_iload hx hb dL_left_182 (lv_at hl 6 rfl) ?_
        obtain rfl := Option.some.inj hf
        exact zret_i hx hb hr rfl rfl () hP hD hS [0, 1, 2, 3] rfl (by decide) dL_left_184 hlocks
      · replace hf := zif hf c_1
        refine lv_iconst (v := 0) hx hb dL_left_14 (by decide) ?_
        refine lv_istore (lv' := [(8, .int 0), (0, .ref a_n), (1, .ref a_r), (2, .ref a_c), (3, .ref a_g), (4, .int x4), (5, .int x5), (6, .int x6), (7, .int x7)]) hx hb dL_left_15 hl (by decide) rfl (fun ls hl => ?_)
        refine lv_iconst (v := 0) hx hb dL_left_17 (by decide) ?_
        refine lv_istore (lv' := [(9, .int 0), (8, .int 0), (0, .ref a_n), (1, .ref a_r), (2, .ref a_c), (3, .ref a_g), (4, .int x4), (5, .int x5), (6, .int x6), (7, .int x7)]) hx hb dL_left_18 hl (by decide) rfl (fun ls hl => ?_)
        exact w_L20 fu x6 x7 (0 : Int32) (0 : Int32)  hf _ _ (hP.sub [0, 1, 2, 3] rfl) (hD.sub [0, 1, 2, 3] (by decide) rfl) hS _ (lv_sub hl [2, 3, 4, 5, 6, 7, 8, 9, 1, 0] rfl)
  refine lv_iconst (v := 0) hx hb dL_left_0 (by decide) ?_
  refine lv_istore (lv' := [(6, .int 0), (0, .ref a_n), (1, .ref a_r), (2, .ref a_c), (3, .ref a_g), (4, .int x4), (5, .int x5)]) hx hb dL_left_1 hl (by decide) rfl (fun ls hl => ?_)
  refine lv_iconst (v := 0) hx hb dL_left_3 (by decide) ?_
  refine lv_istore (lv' := [(7, .int 0), (6, .int 0), (0, .ref a_n), (1, .ref a_r), (2, .ref a_c), (3, .ref a_g), (4, .int x4), (5, .int x5)]) hx hb dL_left_4 hl (by decide) rfl (fun ls hl => ?_)
  exact w_L6 fu (0 : Int32) (0 : Int32)  hf _ _ (hP.sub [0, 1, 2, 3] rfl) (hD.sub [0, 1, 2, 3] (by decide) rfl) hS _ (lv_sub hl [2, 3, 4, 5, 6, 7, 1, 0] rfl)
noncomputable def m_L_nodes_L58_b (fu : Nat) (c_n : Nat → Int32) (c_r : Nat → Int32) (c_c : Nat → Int32) (c_g : Nat → Int32) (k9 : Int32 → Int32 → Int32 → (Nat → Int64) → Option (Int32 × (Nat → Int64))) (k23 : Int32 → Int32 → Int32 → Int32 → Int32 → (Nat → Int64) → Option (Int32 × (Nat → Int64))) (k58 : Int32 → Int32 → Int32 → Int32 → Int32 → Int32 → Int32 → Int32 → (Nat → Int64) → Option (Int32 × (Nat → Int64))) (x5 : Int32) (x6 : Int32) (x7 : Int32) (x8 : Int32) (x9 : Int32) (x10 : Int32) (x11 : Int32) (x12 : Int32) (c_m : Nat → Int64) : Option (Int32 × (Nat → Int64)) :=
  if x8 ≤ x12 then if x11 = (0 : Int32) then k23 x5 x6 x7 x8 (x9 + 1) c_m else if x8 - x8 / (2 : Int32) * (2 : Int32) = (0 : Int32) then if x8 / (2 : Int32) < 0 ∨ 64 ≤ (x8 / (2 : Int32)).toNatClampNeg then none else k23 x5 x6 x7 (x8 + 1) (x9 + 1) (vp_updL c_m (x8 / (2 : Int32)).toNatClampNeg x10.toInt64) else if x8 / (2 : Int32) < 0 ∨ 64 ≤ (x8 / (2 : Int32)).toNatClampNeg then none else k23 x5 x6 x7 (x8 + 1) (x9 + 1) (vp_updL c_m (x8 / (2 : Int32)).toNatClampNeg ((c_m (x8 / (2 : Int32)).toNatClampNeg) ||| (x10.toInt64 <<< ((30 : Int32).toInt64 &&& 63)))) else if x11 = (0 : Int32) then if x11 = (0 : Int32) then k23 x5 x6 x7 x8 (x9 + 1) c_m else if x8 - x8 / (2 : Int32) * (2 : Int32) = (0 : Int32) then if x8 / (2 : Int32) < 0 ∨ 64 ≤ (x8 / (2 : Int32)).toNatClampNeg then none else k23 x5 x6 x7 (x8 + 1) (x9 + 1) (vp_updL c_m (x8 / (2 : Int32)).toNatClampNeg x10.toInt64) else if x8 / (2 : Int32) < 0 ∨ 64 ≤ (x8 / (2 : Int32)).toNatClampNeg then none else k23 x5 x6 x7 (x8 + 1) (x9 + 1) (vp_updL c_m (x8 / (2 : Int32)).toNatClampNeg ((c_m (x8 / (2 : Int32)).toNatClampNeg) ||| (x10.toInt64 <<< ((30 : Int32).toInt64 &&& 63)))) else if x12 / (2 : Int32) < 0 ∨ 64 ≤ (x12 / (2 : Int32)).toNatClampNeg then none else if (((c_m (x12 / (2 : Int32)).toNatClampNeg) >>> (((30 : Int32) * (x12 - x12 / (2 : Int32) * (2 : Int32))).toInt64 &&& 63)) &&& (1073741823 : Int64)).toInt32 = x10 then k58 x5 x6 x7 x8 x9 x10 (0 : Int32) (x12 + 1) c_m else k58 x5 x6 x7 x8 x9 x10 (1 : Int32) (x12 + 1) c_m
noncomputable def m_L_nodes_L58 (fu : Nat) (c_n : Nat → Int32) (c_r : Nat → Int32) (c_c : Nat → Int32) (c_g : Nat → Int32) (k9 : Int32 → Int32 → Int32 → (Nat → Int64) → Option (Int32 × (Nat → Int64))) (k23 : Int32 → Int32 → Int32 → Int32 → Int32 → (Nat → Int64) → Option (Int32 × (Nat → Int64))) (n : Nat) : Int32 → Int32 → Int32 → Int32 → Int32 → Int32 → Int32 → Int32 → (Nat → Int64) → Option (Int32 × (Nat → Int64)) :=
  Nat.rec (motive := fun _ => Int32 → Int32 → Int32 → Int32 → Int32 → Int32 → Int32 → Int32 → (Nat → Int64) → Option (Int32 × (Nat → Int64))) (fun _ _ _ _ _ _ _ _ _ => none) (fun _ ih => m_L_nodes_L58_b fu c_n c_r c_c c_g k9 k23  ih) n
noncomputable def m_L_nodes_L23_b (fu : Nat) (c_n : Nat → Int32) (c_r : Nat → Int32) (c_c : Nat → Int32) (c_g : Nat → Int32) (k9 : Int32 → Int32 → Int32 → (Nat → Int64) → Option (Int32 × (Nat → Int64))) (k23 : Int32 → Int32 → Int32 → Int32 → Int32 → (Nat → Int64) → Option (Int32 × (Nat → Int64))) (x5 : Int32) (x6 : Int32) (x7 : Int32) (x8 : Int32) (x9 : Int32) (c_m : Nat → Int64) : Option (Int32 × (Nat → Int64)) :=
  if x6 ≤ x9 then if c_g ((0 : Int32)).toNatClampNeg ≤ x7 then k9 (x5 + x8) x6 (x7 + 1) c_m else if x7 < 0 ∨ 6 ≤ (x7).toNatClampNeg then none else k9 (x5 + x8) (x6 * (c_n (x7).toNatClampNeg)) (x7 + 1) c_m else (m_L_left fu c_n c_r c_c c_g x7 x9).bind fun u_5 => if u_5 < (0 : Int32) then m_L_nodes_L58 fu c_n c_r c_c c_g k9 k23 fu x5 x6 x7 x8 x9 u_5 (0 : Int32) (0 : Int32) c_m else m_L_nodes_L58 fu c_n c_r c_c c_g k9 k23 fu x5 x6 x7 x8 x9 u_5 (1 : Int32) (0 : Int32) c_m
noncomputable def m_L_nodes_L23 (fu : Nat) (c_n : Nat → Int32) (c_r : Nat → Int32) (c_c : Nat → Int32) (c_g : Nat → Int32) (k9 : Int32 → Int32 → Int32 → (Nat → Int64) → Option (Int32 × (Nat → Int64))) (n : Nat) : Int32 → Int32 → Int32 → Int32 → Int32 → (Nat → Int64) → Option (Int32 × (Nat → Int64)) :=
  Nat.rec (motive := fun _ => Int32 → Int32 → Int32 → Int32 → Int32 → (Nat → Int64) → Option (Int32 × (Nat → Int64))) (fun _ _ _ _ _ _ => none) (fun _ ih => m_L_nodes_L23_b fu c_n c_r c_c c_g k9  ih) n
noncomputable def m_L_nodes_L9_b (fu : Nat) (c_n : Nat → Int32) (c_r : Nat → Int32) (c_c : Nat → Int32) (c_g : Nat → Int32)  (k9 : Int32 → Int32 → Int32 → (Nat → Int64) → Option (Int32 × (Nat → Int64))) (x5 : Int32) (x6 : Int32) (x7 : Int32) (c_m : Nat → Int64) : Option (Int32 × (Nat → Int64)) :=
  if c_g ((0 : Int32)).toNatClampNeg < x7 then some (x5, c_m) else m_L_nodes_L23 fu c_n c_r c_c c_g k9 fu x5 x6 x7 (0 : Int32) (0 : Int32) c_m
noncomputable def m_L_nodes_L9 (fu : Nat) (c_n : Nat → Int32) (c_r : Nat → Int32) (c_c : Nat → Int32) (c_g : Nat → Int32)  (n : Nat) : Int32 → Int32 → Int32 → (Nat → Int64) → Option (Int32 × (Nat → Int64)) :=
  Nat.rec (motive := fun _ => Int32 → Int32 → Int32 → (Nat → Int64) → Option (Int32 × (Nat → Int64))) (fun _ _ _ _ => none) (fun _ ih => m_L_nodes_L9_b fu c_n c_r c_c c_g  ih) n
noncomputable def m_L_nodes (fu : Nat) (c_n : Nat → Int32) (c_r : Nat → Int32) (c_c : Nat → Int32) (c_g : Nat → Int32) (c_m : Nat → Int64)  : Option (Int32 × (Nat → Int64)) :=
  m_L_nodes_L9 fu c_n c_r c_c c_g fu (0 : Int32) (1 : Int32) (0 : Int32) c_m
def rm_L_nodes : Room := { frames := 3, cells := 0, slots := 0, locals := 83 }
theorem hd_L_nodes : yL_nodes.cls ≠ "java/lang/invoke/MethodHandle" ∧ yL_nodes.cls ≠ "java/lang/invoke/VarHandle" ∧ (parseMethodDescriptor yL_nodes.desc).map (fun d => d.parameters.length) = some 5 := by decide +kernel
set_option maxHeartbeats 4000000 in
set_option maxRecDepth 100000 in
theorem c_L_nodes (l : Launch) (D : va_G) (cI : ClassId × ClassId) (sz : Nat) (a_n : Nat) (a_r : Nat) (a_c : Nat) (a_g : Nat) (a_m : Nat) (fu : Nat) (c_n : Nat → Int32) (c_r : Nat → Int32) (c_c : Nat → Int32) (c_g : Nat → Int32) (c_m : Nat → Int64)  (r : Int32 × (Nat → Int64)) (hf : m_L_nodes fu c_n c_r c_c c_g c_m  = some r) : Met l yL_nodes (zw (Cond.code yL_nodes cL_nodes 13 (some .int))) rm_L_nodes (va_Pc [.ref a_n, .ref a_r, .ref a_c, .ref a_g, .ref a_m] (zA D cI [(a_n, .inl (cI.1, 6, .inl c_n)), (a_r, .inl (cI.1, 20, .inl c_r)), (a_c, .inl (cI.1, 6, .inl c_c)), (a_g, .inl (cI.1, 7, .inl c_g)), (a_m, .inl (cI.2, 64, .inr (.inl c_m)))] sz)) (zQi D (va_A [(a_n, .inl (cI.1, 6, .inl c_n)), (a_r, .inl (cI.1, 20, .inl c_r)), (a_c, .inl (cI.1, 6, .inl c_c)), (a_g, .inl (cI.1, 7, .inl c_g)), (a_m, .inl (cI.2, 64, .inr (.inl c_m)))] sz) (fun v => v = r.1) (fun (u : Unit) => ([(a_n, .inl (cI.1, 6, .inl c_n)), (a_r, .inl (cI.1, 20, .inl c_r)), (a_c, .inl (cI.1, 6, .inl c_c)), (a_g, .inl (cI.1, 7, .inl c_g)), (a_m, .inl (cI.2, 64, .inr (.inl r.2)))] : va_W))) 0 0 (va_A [(a_n, .inl (cI.1, 6, .inl c_n)), (a_r, .inl (cI.1, 20, .inl c_r)), (a_c, .inl (cI.1, 6, .inl c_c)), (a_g, .inl (cI.1, 7, .inl c_g)), (a_m, .inl (cI.2, 64, .inr (.inl c_m)))] sz) := by
  unfold m_L_nodes at hf
  refine zhead (C := RL) (by decide +kernel) rfl ?_
  intro p e s m below meth c hx hb hr hlocks hml hown hnm hts hE hK H hP hS hD hA
  generalize va_A [(a_n, .inl (cI.1, 6, .inl c_n)), (a_r, .inl (cI.1, 20, .inl c_r)), (a_c, .inl (cI.1, 6, .inl c_c)), (a_g, .inl (cI.1, 7, .inl c_g)), (a_m, .inl (cI.2, 64, .inr (.inl c_m)))] sz = A at hS hD hA ⊢
  have hl := lv_entry ([.ref a_n, .ref a_r, .ref a_c, .ref a_g, .ref a_m]) (n := 13) (Nat.le_of_ble_eq_true rfl)
  rw [lg_entry_eq]
  generalize (lg_sl ([.ref a_n, .ref a_r, .ref a_c, .ref a_g, .ref a_m]) ++ List.replicate (13 - (lg_sl ([.ref a_n, .ref a_r, .ref a_c, .ref a_g, .ref a_m])).length) Slot.unset).toArray = ls at hl ⊢
  have hl : lv_has ls 13 [(0, .ref a_n), (1, .ref a_r), (2, .ref a_c), (3, .ref a_g), (4, .ref a_m)] := hl

  have w_L9 : ∀ (n : Nat) (x5 : Int32) (x6 : Int32) (x7 : Int32) (c_m : Nat → Int64), m_L_nodes_L9 fu c_n c_r c_c c_g n x5 x6 x7 c_m = some r → ∀ (H : Heap) (locs : List Loc), va_P D vwCl [(a_n, .inl (cI.1, 6, .inl c_n)), (a_r, .inl (cI.1, 20, .inl c_r)), (a_c, .inl (cI.1, 6, .inl c_c)), (a_g, .inl (cI.1, 7, .inl c_g)), (a_m, .inl (cI.2, 64, .inr (.inl c_m)))] H → va_D A [(a_n, .inl (cI.1, 6, .inl c_n)), (a_r, .inl (cI.1, 20, .inl c_r)), (a_c, .inl (cI.1, 6, .inl c_c)), (a_g, .inl (cI.1, 7, .inl c_g)), (a_m, .inl (cI.2, 64, .inr (.inl c_m)))] → va_S A s.heap H locs → ∀ ls : Array Slot, lv_has ls 13 [(0, .ref a_n), (1, .ref a_r), (2, .ref a_c), (3, .ref a_g), (4, .ref a_m), (5, .int x5), (6, .int x6), (7, .int x7)] → W p l e rm_L_nodes s m ([.ref a_n, .ref a_r, .ref a_c, .ref a_g, .ref a_m] : List Value).toArray below meth c H locs 0 0 (MQ below (zQi D A (fun v => v = r.1) (fun (u : Unit) => ([(a_n, .inl (cI.1, 6, .inl c_n)), (a_r, .inl (cI.1, 20, .inl c_r)), (a_c, .inl (cI.1, 6, .inl c_c)), (a_g, .inl (cI.1, 7, .inl c_g)), (a_m, .inl (cI.2, 64, .inr (.inl r.2)))] : va_W))) ([.ref a_n, .ref a_r, .ref a_c, .ref a_g, .ref a_m] : List Value).toArray s 0 0 A) (F0 m 9 ls []) := by
    intro n_9
    induction n_9 with
    | zero => intro x5 x6 x7 c_m  hf; exact absurd hf (fun h => by cases h)
    | succ n_9 ih_9 =>
      intro x5 x6 x7 c_m  hf H locs hP hD hS ls hl
      replace hf : m_L_nodes_L9_b fu c_n c_r c_c c_g  (m_L_nodes_L9 fu c_n c_r c_c c_g n_9) x5 x6 x7 c_m = some r := hf
      unfold m_L_nodes_L9_b at hf
      have w_L23 : ∀ (n : Nat) (x5 : Int32) (x6 : Int32) (x7 : Int32) (x8 : Int32) (x9 : Int32) (c_m : Nat → Int64), m_L_nodes_L23 fu c_n c_r c_c c_g (m_L_nodes_L9 fu c_n c_r c_c c_g n_9) n x5 x6 x7 x8 x9 c_m = some r → ∀ (H : Heap) (locs : List Loc), va_P D vwCl [(a_n, .inl (cI.1, 6, .inl c_n)), (a_r, .inl (cI.1, 20, .inl c_r)), (a_c, .inl (cI.1, 6, .inl c_c)), (a_g, .inl (cI.1, 7, .inl c_g)), (a_m, .inl (cI.2, 64, .inr (.inl c_m)))] H → va_D A [(a_n, .inl (cI.1, 6, .inl c_n)), (a_r, .inl (cI.1, 20, .inl c_r)), (a_c, .inl (cI.1, 6, .inl c_c)), (a_g, .inl (cI.1, 7, .inl c_g)), (a_m, .inl (cI.2, 64, .inr (.inl c_m)))] → va_S A s.heap H locs → ∀ ls : Array Slot, lv_has ls 13 [(0, .ref a_n), (1, .ref a_r), (2, .ref a_c), (3, .ref a_g), (4, .ref a_m), (5, .int x5), (6, .int x6), (7, .int x7), (8, .int x8), (9, .int x9)] → W p l e rm_L_nodes s m ([.ref a_n, .ref a_r, .ref a_c, .ref a_g, .ref a_m] : List Value).toArray below meth c H locs 0 0 (MQ below (zQi D A (fun v => v = r.1) (fun (u : Unit) => ([(a_n, .inl (cI.1, 6, .inl c_n)), (a_r, .inl (cI.1, 20, .inl c_r)), (a_c, .inl (cI.1, 6, .inl c_c)), (a_g, .inl (cI.1, 7, .inl c_g)), (a_m, .inl (cI.2, 64, .inr (.inl r.2)))] : va_W))) ([.ref a_n, .ref a_r, .ref a_c, .ref a_g, .ref a_m] : List Value).toArray s 0 0 A) (F0 m 23 ls []) := by
        intro n_23
        induction n_23 with
        | zero => intro x5 x6 x7 x8 x9 c_m  hf; exact absurd hf (fun h => by cases h)
        | succ n_23 ih_23 =>
          intro x5 x6 x7 x8 x9 c_m  hf H locs hP hD hS ls hl
          replace hf : m_L_nodes_L23_b fu c_n c_r c_c c_g (m_L_nodes_L9 fu c_n c_r c_c c_g n_9) (m_L_nodes_L23 fu c_n c_r c_c c_g (m_L_nodes_L9 fu c_n c_r c_c c_g n_9) n_23) x5 x6 x7 x8 x9 c_m = some r := hf
          unfold m_L_nodes_L23_b at hf
          have w_L58 : ∀ (n : Nat) (x5 : Int32) (x6 : Int32) (x7 : Int32) (x8 : Int32) (x9 : Int32) (x10 : Int32) (x11 : Int32) (x12 : Int32) (c_m : Nat → Int64), m_L_nodes_L58 fu c_n c_r c_c c_g (m_L_nodes_L9 fu c_n c_r c_c c_g n_9) (m_L_nodes_L23 fu c_n c_r c_c c_g (m_L_nodes_L9 fu c_n c_r c_c c_g n_9) n_23) n x5 x6 x7 x8 x9 x10 x11 x12 c_m = some r → ∀ (H : Heap) (locs : List Loc), va_P D vwCl [(a_n, .inl (cI.1, 6, .inl c_n)), (a_r, .inl (cI.1, 20, .inl c_r)), (a_c, .inl (cI.1, 6, .inl c_c)), (a_g, .inl (cI.1, 7, .inl c_g)), (a_m, .inl (cI.2, 64, .inr (.inl c_m)))] H → va_D A [(a_n, .inl (cI.1, 6, .inl c_n)), (a_r, .inl (cI.1, 20, .inl c_r)), (a_c, .inl (cI.1, 6, .inl c_c)), (a_g, .inl (cI.1, 7, .inl c_g)), (a_m, .inl (cI.2, 64, .inr (.inl c_m)))] → va_S A s.heap H locs → ∀ ls : Array Slot, lv_has ls 13 [(0, .ref a_n), (1, .ref a_r), (2, .ref a_c), (3, .ref a_g), (4, .ref a_m), (5, .int x5), (6, .int x6), (7, .int x7), (8, .int x8), (9, .int x9), (10, .int x10), (11, .int x11), (12, .int x12)] → W p l e rm_L_nodes s m ([.ref a_n, .ref a_r, .ref a_c, .ref a_g, .ref a_m] : List Value).toArray below meth c H locs 0 0 (MQ below (zQi D A (fun v => v = r.1) (fun (u : Unit) => ([(a_n, .inl (cI.1, 6, .inl c_n)), (a_r, .inl (cI.1, 20, .inl c_r)), (a_c, .inl (cI.1, 6, .inl c_c)), (a_g, .inl (cI.1, 7, .inl c_g)), (a_m, .inl (cI.2, 64, .inr (.inl r.2)))] : va_W))) ([.ref a_n, .ref a_r, .ref a_c, .ref a_g, .ref a_m] : List Value).toArray s 0 0 A) (F0 m 58 ls []) := by
            intro n_58
            induction n_58 with
            | zero => intro x5 x6 x7 x8 x9 x10 x11 x12 c_m  hf; exact absurd hf (fun h => by cases h)
            | succ n_58 ih_58 =>
              intro x5 x6 x7 x8 x9 x10 x11 x12 c_m  hf H locs hP hD hS ls hl
              replace hf : m_L_nodes_L58_b fu c_n c_r c_c c_g (m_L_nodes_L9 fu c_n c_r c_c c_g n_9) (m_L_nodes_L23 fu c_n c_r c_c c_g (m_L_nodes_L9 fu c_n c_r c_c c_g n_9) n_23) (m_L_nodes_L58 fu c_n c_r c_c c_g (m_L_nodes_L9 fu c_n c_r c_c c_g n_9) (m_L_nodes_L23 fu c_n c_r c_c c_g (m_L_nodes_L9 fu c_n c_r c_c c_g n_9) n_23) n_58) x5 x6 x7 x8 x9 x10 x11 x12 c_m = some r := hf
              unfold m_L_nodes_L58_b at hf
              refine lv_iload hx hb dL_nodes_58 (lv_at hl 12 rfl) ?_
              refine lv_iload hx hb dL_nodes_60 (lv_at hl 8 rfl) ?_
              refine lv_icmp_ge (tgt := 108) hx hb dL_nodes_62 (by decide) (fun c_7 => ?_) (fun c_7 => ?_)
              · replace hf := zit hf c_7
                refine lv_iload hx hb dL_nodes_108 (lv_at hl 11 rfl) ?_
                refine lv_if_ne (tgt := 116) hx hb dL_nodes_110 (by decide) (fun c_8 => ?_) (fun c_8 => ?_)
                · replace hf := zif hf c_8
                  refine lv_aload hx hb dL_nodes_116 (lv_at hl 4 rfl) ?_
                  refine lv_iload hx hb dL_nodes_118 (lv_at hl 8 rfl) ?_
                  refine lv_iconst (v := 2) hx hb dL_nodes_120 (by decide) ?_
                  refine lv_idiv hx hb dL_nodes_121 (by decide) ?_
                  refine lv_iload hx hb dL_nodes_122 (lv_at hl 8 rfl) ?_
                  refine lv_iconst (v := 2) hx hb dL_nodes_124 (by decide) ?_
                  refine lv_irem hx hb dL_nodes_125 (by decide) ?_
                  refine lv_if_ne (tgt := 135) hx hb dL_nodes_126 (by decide) (fun c_9 => ?_) (fun c_9 => ?_)
                  · replace hf := zif hf c_9
                    refine lv_aload hx hb dL_nodes_135 (lv_at hl 4 rfl) ?_
                    refine lv_iload hx hb dL_nodes_137 (lv_at hl 8 rfl) ?_
                    refine lv_iconst (v := 2) hx hb dL_nodes_139 (by decide) ?_
                    refine lv_idiv hx hb dL_nodes_140 (by decide) ?_
                    obtain ⟨b_10, hf⟩ := zib hf
                    refine va_lald hx hb hK hP 4 1 (cA := cI.2) rfl rfl b_10 dL_nodes_141 ?_
                    refine lv_iload hx hb dL_nodes_142 (lv_at hl 10 rfl) ?_
                    refine lv_i2l hx hb dL_nodes_144 rfl ?_
                    refine lv_bipush (v := 30) hx hb dL_nodes_145 (by decide) ?_
                    refine lv_lshl hx hb dL_nodes_147 rfl ?_
                    refine lv_lor hx hb dL_nodes_148 ?_
                    refine va_last hx hb hK hP hD hS 4 1 (cA := cI.2) rfl rfl b_10 dL_nodes_149 (fun H locs hP hD hS => ?_)
                    have hP : va_P D vwCl [(a_n, .inl (cI.1, 6, .inl c_n)), (a_r, .inl (cI.1, 20, .inl c_r)), (a_c, .inl (cI.1, 6, .inl c_c)), (a_g, .inl (cI.1, 7, .inl c_g)), (a_m, .inl (cI.2, 64, .inr (.inl (vp_updL c_m (x8 / (2 : Int32)).toNatClampNeg ((c_m (x8 / (2 : Int32)).toNatClampNeg) ||| (x10.toInt64 <<< ((30 : Int32).toInt64 &&& 63)))))))] H := hP
                    have hD : va_D A [(a_n, .inl (cI.1, 6, .inl c_n)), (a_r, .inl (cI.1, 20, .inl c_r)), (a_c, .inl (cI.1, 6, .inl c_c)), (a_g, .inl (cI.1, 7, .inl c_g)), (a_m, .inl (cI.2, 64, .inr (.inl (vp_updL c_m (x8 / (2 : Int32)).toNatClampNeg ((c_m (x8 / (2 : Int32)).toNatClampNeg) ||| (x10.toInt64 <<< ((30 : Int32).toInt64 &&& 63)))))))] := hD
                    refine lv_iinc (v := x8 + 1) (lv' := [(8, .int (x8 + 1)), (0, .ref a_n), (1, .ref a_r), (2, .ref a_c), (3, .ref a_g), (4, .ref a_m), (5, .int x5), (6, .int x6), (7, .int x7), (9, .int x9), (10, .int x10), (11, .int x11), (12, .int x12)]) hx hb dL_nodes_150 hl (k := 8) rfl rfl (by decide) rfl (fun ls hl => ?_)
                    refine lv_iinc (v := x9 + 1) (lv' := [(9, .int (x9 + 1)), (8, .int (x8 + 1)), (0, .ref a_n), (1, .ref a_r), (2, .ref a_c), (3, .ref a_g), (4, .ref a_m), (5, .int x5), (6, .int x6), (7, .int x7), (10, .int x10), (11, .int x11), (12, .int x12)]) hx hb dL_nodes_153 hl (k := 9) rfl rfl (by decide) rfl (fun ls hl => ?_)
                    refine lv_goto (tgt := 23) hx hb dL_nodes_156 (by decide) ?_
                    exact ih_23 x5 x6 x7 (x8 + 1) (x9 + 1) (vp_updL c_m (x8 / (2 : Int32)).toNatClampNeg ((c_m (x8 / (2 : Int32)).toNatClampNeg) ||| (x10.toInt64 <<< ((30 : Int32).toInt64 &&& 63))))  hf _ _ (hP.sub [0, 1, 2, 3, 4] rfl) (hD.sub [0, 1, 2, 3, 4] (by decide) rfl) hS _ (lv_sub hl [2, 3, 4, 5, 6, 7, 8, 9, 1, 0] rfl)
                  · replace hf := zit hf c_9
                    refine lv_iload hx hb dL_nodes_129 (lv_at hl 10 rfl) ?_
                    refine lv_i2l hx hb dL_nodes_131 rfl ?_
                    refine lv_goto (tgt := 149) hx hb dL_nodes_132 (by decide) ?_
                    obtain ⟨b_11, hf⟩ := zib hf
                    refine va_last hx hb hK hP hD hS 4 1 (cA := cI.2) rfl rfl b_11 dL_nodes_149 (fun H locs hP hD hS => ?_)
                    have hP : va_P D vwCl [(a_n, .inl (cI.1, 6, .inl c_n)), (a_r, .inl (cI.1, 20, .inl c_r)), (a_c, .inl (cI.1, 6, .inl c_c)), (a_g, .inl (cI.1, 7, .inl c_g)), (a_m, .inl (cI.2, 64, .inr (.inl (vp_updL c_m (x8 / (2 : Int32)).toNatClampNeg x10.toInt64))))] H := hP
                    have hD : va_D A [(a_n, .inl (cI.1, 6, .inl c_n)), (a_r, .inl (cI.1, 20, .inl c_r)), (a_c, .inl (cI.1, 6, .inl c_c)), (a_g, .inl (cI.1, 7, .inl c_g)), (a_m, .inl (cI.2, 64, .inr (.inl (vp_updL c_m (x8 / (2 : Int32)).toNatClampNeg x10.toInt64))))] := hD
                    refine lv_iinc (v := x8 + 1) (lv' := [(8, .int (x8 + 1)), (0, .ref a_n), (1, .ref a_r), (2, .ref a_c), (3, .ref a_g), (4, .ref a_m), (5, .int x5), (6, .int x6), (7, .int x7), (9, .int x9), (10, .int x10), (11, .int x11), (12, .int x12)]) hx hb dL_nodes_150 hl (k := 8) rfl rfl (by decide) rfl (fun ls hl => ?_)
                    refine lv_iinc (v := x9 + 1) (lv' := [(9, .int (x9 + 1)), (8, .int (x8 + 1)), (0, .ref a_n), (1, .ref a_r), (2, .ref a_c), (3, .ref a_g), (4, .ref a_m), (5, .int x5), (6, .int x6), (7, .int x7), (10, .int x10), (11, .int x11), (12, .int x12)]) hx hb dL_nodes_153 hl (k := 9) rfl rfl (by decide) rfl (fun ls hl => ?_)
                    refine lv_goto (tgt := 23) hx hb dL_nodes_156 (by decide) ?_
                    exact ih_23 x5 x6 x7 (x8 + 1) (x9 + 1) (vp_updL c_m (x8 / (2 : Int32)).toNatClampNeg x10.toInt64)  hf _ _ (hP.sub [0, 1, 2, 3, 4] rfl) (hD.sub [0, 1, 2, 3, 4] (by decide) rfl) hS _ (lv_sub hl [2, 3, 4, 5, 6, 7, 8, 9, 1, 0] rfl)
                · replace hf := zit hf c_8
                  refine lv_goto (tgt := 153) hx hb dL_nodes_113 (by decide) ?_
                  refine lv_iinc (v := x9 + 1) (lv' := [(9, .int (x9 + 1)), (0, .ref a_n), (1, .ref a_r), (2, .ref a_c), (3, .ref a_g), (4, .ref a_m), (5, .int x5), (6, .int x6), (7, .int x7), (8, .int x8), (10, .int x10), (11, .int x11), (12, .int x12)]) hx hb dL_nodes_153 hl (k := 9) rfl rfl (by decide) rfl (fun ls hl => ?_)
                  refine lv_goto (tgt := 23) hx hb dL_nodes_156 (by decide) ?_
                  exact ih_23 x5 x6 x7 x8 (x9 + 1) c_m  hf _ _ (hP.sub [0, 1, 2, 3, 4] rfl) (hD.sub [0, 1, 2, 3, 4] (by decide) rfl) hS _ (lv_sub hl [1, 2, 3, 4, 5, 6, 7, 8, 9, 0] rfl)
              · replace hf := zif hf c_7
                refine lv_iload hx hb dL_nodes_65 (lv_at hl 11 rfl) ?_
                refine lv_if_eq (tgt := 108) hx hb dL_nodes_67 (by decide) (fun c_12 => ?_) (fun c_12 => ?_)
                · replace hf := zit hf c_12
                  refine lv_iload hx hb dL_nodes_108 (lv_at hl 11 rfl) ?_
                  refine lv_if_ne (tgt := 116) hx hb dL_nodes_110 (by decide) (fun c_13 => ?_) (fun c_13 => ?_)
                  · replace hf := zif hf c_13
                    refine lv_aload hx hb dL_nodes_116 (lv_at hl 4 rfl) ?_
                    refine lv_iload hx hb dL_nodes_118 (lv_at hl 8 rfl) ?_
                    refine lv_iconst (v := 2) hx hb dL_nodes_120 (by decide) ?_
                    refine lv_idiv hx hb dL_nodes_121 (by decide) ?_
                    refine lv_iload hx hb dL_nodes_122 (lv_at hl 8 rfl) ?_
                    refine lv_iconst (v := 2) hx hb dL_nodes_124 (by decide) ?_
                    refine lv_irem hx hb dL_nodes_125 (by decide) ?_
                    refine lv_if_ne (tgt := 135) hx hb dL_nodes_126 (by decide) (fun c_14 => ?_) (fun c_14 => ?_)
                    · replace hf := zif hf c_14
                      refine lv_aload hx hb dL_nodes_135 (lv_at hl 4 rfl) ?_
                      refine lv_iload hx hb dL_nodes_137 (lv_at hl 8 rfl) ?_
                      refine lv_iconst (v := 2) hx hb dL_nodes_139 (by decide) ?_
                      refine lv_idiv hx hb dL_nodes_140 (by decide) ?_
                      obtain ⟨b_15, hf⟩ := zib hf
                      refine va_lald hx hb hK hP 4 1 (cA := cI.2) rfl rfl b_15 dL_nodes_141 ?_
                      refine lv_iload hx hb dL_nodes_142 (lv_at hl 10 rfl) ?_
                      refine lv_i2l hx hb dL_nodes_144 rfl ?_
                      refine lv_bipush (v := 30) hx hb dL_nodes_145 (by decide) ?_
                      refine lv_lshl hx hb dL_nodes_147 rfl ?_
                      refine lv_lor hx hb dL_nodes_148 ?_
                      refine va_last hx hb hK hP hD hS 4 1 (cA := cI.2) rfl rfl b_15 dL_nodes_149 (fun H locs hP hD hS => ?_)
                      have hP : va_P D vwCl [(a_n, .inl (cI.1, 6, .inl c_n)), (a_r, .inl (cI.1, 20, .inl c_r)), (a_c, .inl (cI.1, 6, .inl c_c)), (a_g, .inl (cI.1, 7, .inl c_g)), (a_m, .inl (cI.2, 64, .inr (.inl (vp_updL c_m (x8 / (2 : Int32)).toNatClampNeg ((c_m (x8 / (2 : Int32)).toNatClampNeg) ||| (x10.toInt64 <<< ((30 : Int32).toInt64 &&& 63)))))))] H := hP
                      have hD : va_D A [(a_n, .inl (cI.1, 6, .inl c_n)), (a_r, .inl (cI.1, 20, .inl c_r)), (a_c, .inl (cI.1, 6, .inl c_c)), (a_g, .inl (cI.1, 7, .inl c_g)), (a_m, .inl (cI.2, 64, .inr (.inl (vp_updL c_m (x8 / (2 : Int32)).toNatClampNeg ((c_m (x8 / (2 : Int32)).toNatClampNeg) ||| (x10.toInt64 <<< ((30 : Int32).toInt64 &&& 63)))))))] := hD
                      refine lv_iinc (v := x8 + 1) (lv' := [(8, .int (x8 + 1)), (0, .ref a_n), (1, .ref a_r), (2, .ref a_c), (3, .ref a_g), (4, .ref a_m), (5, .int x5), (6, .int x6), (7, .int x7), (9, .int x9), (10, .int x10), (11, .int x11), (12, .int x12)]) hx hb dL_nodes_150 hl (k := 8) rfl rfl (by decide) rfl (fun ls hl => ?_)
                      refine lv_iinc (v := x9 + 1) (lv' := [(9, .int (x9 + 1)), (8, .int (x8 + 1)), (0, .ref a_n), (1, .ref a_r), (2, .ref a_c), (3, .ref a_g), (4, .ref a_m), (5, .int x5), (6, .int x6), (7, .int x7), (10, .int x10), (11, .int x11), (12, .int x12)]) hx hb dL_nodes_153 hl (k := 9) rfl rfl (by decide) rfl (fun ls hl => ?_)
                      refine lv_goto (tgt := 23) hx hb dL_nodes_156 (by decide) ?_
                      exact ih_23 x5 x6 x7 (x8 + 1) (x9 + 1) (vp_updL c_m (x8 / (2 : Int32)).toNatClampNeg ((c_m (x8 / (2 : Int32)).toNatClampNeg) ||| (x10.toInt64 <<< ((30 : Int32).toInt64 &&& 63))))  hf _ _ (hP.sub [0, 1, 2, 3, 4] rfl) (hD.sub [0, 1, 2, 3, 4] (by decide) rfl) hS _ (lv_sub hl [2, 3, 4, 5, 6, 7, 8, 9, 1, 0] rfl)
                    · replace hf := zit hf c_14
                      refine lv_iload hx hb dL_nodes_129 (lv_at hl 10 rfl) ?_
                      refine lv_i2l hx hb dL_nodes_131 rfl ?_
                      refine lv_goto (tgt := 149) hx hb dL_nodes_132 (by decide) ?_
                      obtain ⟨b_16, hf⟩ := zib hf
                      refine va_last hx hb hK hP hD hS 4 1 (cA := cI.2) rfl rfl b_16 dL_nodes_149 (fun H locs hP hD hS => ?_)
                      have hP : va_P D vwCl [(a_n, .inl (cI.1, 6, .inl c_n)), (a_r, .inl (cI.1, 20, .inl c_r)), (a_c, .inl (cI.1, 6, .inl c_c)), (a_g, .inl (cI.1, 7, .inl c_g)), (a_m, .inl (cI.2, 64, .inr (.inl (vp_updL c_m (x8 / (2 : Int32)).toNatClampNeg x10.toInt64))))] H := hP
                      have hD : va_D A [(a_n, .inl (cI.1, 6, .inl c_n)), (a_r, .inl (cI.1, 20, .inl c_r)), (a_c, .inl (cI.1, 6, .inl c_c)), (a_g, .inl (cI.1, 7, .inl c_g)), (a_m, .inl (cI.2, 64, .inr (.inl (vp_updL c_m (x8 / (2 : Int32)).toNatClampNeg x10.toInt64))))] := hD
                      refine lv_iinc (v := x8 + 1) (lv' := [(8, .int (x8 + 1)), (0, .ref a_n), (1, .ref a_r), (2, .ref a_c), (3, .ref a_g), (4, .ref a_m), (5, .int x5), (6, .int x6), (7, .int x7), (9, .int x9), (10, .int x10), (11, .int x11), (12, .int x12)]) hx hb dL_nodes_150 hl (k := 8) rfl rfl (by decide) rfl (fun ls hl => ?_)
                      refine lv_iinc (v := x9 + 1) (lv' := [(9, .int (x9 + 1)), (8, .int (x8 + 1)), (0, .ref a_n), (1, .ref a_r), (2, .ref a_c), (3, .ref a_g), (4, .ref a_m), (5, .int x5), (6, .int x6), (7, .int x7), (10, .int x10), (11, .int x11), (12, .int x12)]) hx hb dL_nodes_153 hl (k := 9) rfl rfl (by decide) rfl (fun ls hl => ?_)
                      refine lv_goto (tgt := 23) hx hb dL_nodes_156 (by decide) ?_
                      exact ih_23 x5 x6 x7 (x8 + 1) (x9 + 1) (vp_updL c_m (x8 / (2 : Int32)).toNatClampNeg x10.toInt64)  hf _ _ (hP.sub [0, 1, 2, 3, 4] rfl) (hD.sub [0, 1, 2, 3, 4] (by decide) rfl) hS _ (lv_sub hl [2, 3, 4, 5, 6, 7, 8, 9, 1, 0] rfl)
                  · replace hf := zit hf c_13
                    refine lv_goto (tgt := 153) hx hb dL_nodes_113 (by decide) ?_
                    refine lv_iinc (v := x9 + 1) (lv' := [(9, .int (x9 + 1)), (0, .ref a_n), (1, .ref a_r), (2, .ref a_c), (3, .ref a_g), (4, .ref a_m), (5, .int x5), (6, .int x6), (7, .int x7), (8, .int x8), (10, .int x10), (11, .int x11), (12, .int x12)]) hx hb dL_nodes_153 hl (k := 9) rfl rfl (by decide) rfl (fun ls hl => ?_)
                    refine lv_goto (tgt := 23) hx hb dL_nodes_156 (by decide) ?_
                    exact ih_23 x5 x6 x7 x8 (x9 + 1) c_m  hf _ _ (hP.sub [0, 1, 2, 3, 4] rfl) (hD.sub [0, 1, 2, 3, 4] (by decide) rfl) hS _ (lv_sub hl [1, 2, 3, 4, 5, 6, 7, 8, 9, 0] rfl)
                · replace hf := zif hf c_12
                  refine lv_aload hx hb dL_nodes_70 (lv_at hl 4 rfl) ?_
                  refine lv_iload hx hb dL_nodes_72 (lv_at hl 12 rfl) ?_
                  refine lv_iconst (v := 2) hx hb dL_nodes_74 (by decide) ?_
                  refine lv_idiv hx hb dL_nodes_75 (by decide) ?_
                  obtain ⟨b_17, hf⟩ := zib hf
                  refine va_lald hx hb hK hP 4 1 (cA := cI.2) rfl rfl b_17 dL_nodes_76 ?_
                  refine lv_bipush (v := 30) hx hb dL_nodes_77 (by decide) ?_
                  refine lv_iload hx hb dL_nodes_79 (lv_at hl 12 rfl) ?_
                  refine lv_iconst (v := 2) hx hb dL_nodes_81 (by decide) ?_
                  refine lv_irem hx hb dL_nodes_82 (by decide) ?_
                  refine lv_imul hx hb dL_nodes_83 ?_
                  refine lv_lshr hx hb dL_nodes_84 rfl ?_
                  refine lv_ldc2 (v := 1073741823) hx hb hown (hts _ (zw_in kw_430)) dL_nodes_85 ?_
                  refine lv_land hx hb dL_nodes_88 ?_
                  refine lv_l2i hx hb dL_nodes_89 rfl ?_
                  refine lv_iload hx hb dL_nodes_90 (lv_at hl 10 rfl) ?_
                  refine lv_icmp_eq (tgt := 99) hx hb dL_nodes_92 (by decide) (fun c_18 => ?_) (fun c_18 => ?_)
                  · replace hf := zit hf c_18
                    refine lv_iconst (v := 0) hx hb dL_nodes_99 (by decide) ?_
                    refine lv_istore (lv' := [(11, .int 0), (0, .ref a_n), (1, .ref a_r), (2, .ref a_c), (3, .ref a_g), (4, .ref a_m), (5, .int x5), (6, .int x6), (7, .int x7), (8, .int x8), (9, .int x9), (10, .int x10), (12, .int x12)]) hx hb dL_nodes_100 hl (by decide) rfl (fun ls hl => ?_)
                    refine lv_iinc (v := x12 + 1) (lv' := [(12, .int (x12 + 1)), (11, .int 0), (0, .ref a_n), (1, .ref a_r), (2, .ref a_c), (3, .ref a_g), (4, .ref a_m), (5, .int x5), (6, .int x6), (7, .int x7), (8, .int x8), (9, .int x9), (10, .int x10)]) hx hb dL_nodes_102 hl (k := 12) rfl rfl (by decide) rfl (fun ls hl => ?_)
                    refine lv_goto (tgt := 58) hx hb dL_nodes_105 (by decide) ?_
                    exact ih_58 x5 x6 x7 x8 x9 x10 (0 : Int32) (x12 + 1) c_m  hf _ _ (hP.sub [0, 1, 2, 3, 4] rfl) (hD.sub [0, 1, 2, 3, 4] (by decide) rfl) hS _ (lv_sub hl [2, 3, 4, 5, 6, 7, 8, 9, 10, 11, 12, 1, 0] rfl)
                  · replace hf := zif hf c_18
                    refine lv_iconst (v := 1) hx hb dL_nodes_95 (by decide) ?_
                    refine lv_goto (tgt := 100) hx hb dL_nodes_96 (by decide) ?_
                    refine lv_istore (lv' := [(11, .int 1), (0, .ref a_n), (1, .ref a_r), (2, .ref a_c), (3, .ref a_g), (4, .ref a_m), (5, .int x5), (6, .int x6), (7, .int x7), (8, .int x8), (9, .int x9), (10, .int x10), (12, .int x12)]) hx hb dL_nodes_100 hl (by decide) rfl (fun ls hl => ?_)
                    refine lv_iinc (v := x12 + 1) (lv' := [(12, .int (x12 + 1)), (11, .int 1), (0, .ref a_n), (1, .ref a_r), (2, .ref a_c), (3, .ref a_g), (4, .ref a_m), (5, .int x5), (6, .int x6), (7, .int x7), (8, .int x8), (9, .int x9), (10, .int x10)]) hx hb dL_nodes_102 hl (k := 12) rfl rfl (by decide) rfl (fun ls hl => ?_)
                    refine lv_goto (tgt := 58) hx hb dL_nodes_105 (by decide) ?_
                    exact ih_58 x5 x6 x7 x8 x9 x10 (1 : Int32) (x12 + 1) c_m  hf _ _ (hP.sub [0, 1, 2, 3, 4] rfl) (hD.sub [0, 1, 2, 3, 4] (by decide) rfl) hS _ (lv_sub hl [2, 3, 4, 5, 6, 7, 8, 9, 10, 11, 12, 1, 0] rfl)
          refine lv_iload hx hb dL_nodes_23 (lv_at hl 9 rfl) ?_
          refine lv_iload hx hb dL_nodes_25 (lv_at hl 6 rfl) ?_
          refine lv_icmp_ge (tgt := 159) hx hb dL_nodes_27 (by decide) (fun c_2 => ?_) (fun c_2 => ?_)
          · replace hf := zit hf c_2
            refine lv_iload hx hb dL_nodes_159 (lv_at hl 5 rfl) ?_
            refine lv_iload hx hb dL_nodes_161 (lv_at hl 8 rfl) ?_
            refine lv_iadd hx hb dL_nodes_163 ?_
            refine lv_istore (lv' := [(5, .int (x5 + x8)), (0, .ref a_n), (1, .ref a_r), (2, .ref a_c), (3, .ref a_g), (4, .ref a_m), (6, .int x6), (7, .int x7), (8, .int x8), (9, .int x9)]) hx hb dL_nodes_164 hl (by decide) rfl (fun ls hl => ?_)
            refine lv_iload hx hb dL_nodes_166 (lv_at hl 7 rfl) ?_
            refine lv_aload_n hx hb dL_nodes_168 rfl (lv_at hl 4 rfl) ?_
            refine lv_iconst (v := 0) hx hb dL_nodes_169 (by decide) ?_
            refine va_iald hx hb hK hP 3 0 (cA := cI.1) rfl rfl (show ¬ ((0 : Int32) < 0 ∨ 7 ≤ (0 : Int32).toNatClampNeg) by decide) dL_nodes_170 ?_
            refine lv_icmp_ge (tgt := 183) hx hb dL_nodes_171 (by decide) (fun c_3 => ?_) (fun c_3 => ?_)
            · replace hf := zit hf c_3
              refine lv_iinc (v := x7 + 1) (lv' := [(7, .int (x7 + 1)), (5, .int (x5 + x8)), (0, .ref a_n), (1, .ref a_r), (2, .ref a_c), (3, .ref a_g), (4, .ref a_m), (6, .int x6), (8, .int x8), (9, .int x9)]) hx hb dL_nodes_183 hl (k := 7) rfl rfl (by decide) rfl (fun ls hl => ?_)
              refine lv_goto (tgt := 9) hx hb dL_nodes_186 (by decide) ?_
              exact ih_9 (x5 + x8) x6 (x7 + 1) c_m  hf _ _ (hP.sub [0, 1, 2, 3, 4] rfl) (hD.sub [0, 1, 2, 3, 4] (by decide) rfl) hS _ (lv_sub hl [2, 3, 4, 5, 6, 1, 7, 0] rfl)
            · replace hf := zif hf c_3
              refine lv_iload hx hb dL_nodes_174 (lv_at hl 6 rfl) ?_
              refine lv_aload_n hx hb dL_nodes_176 rfl (lv_at hl 1 rfl) ?_
              refine lv_iload hx hb dL_nodes_177 (lv_at hl 7 rfl) ?_
              obtain ⟨b_4, hf⟩ := zib hf
              refine va_iald hx hb hK hP 0 0 (cA := cI.1) rfl rfl b_4 dL_nodes_179 ?_
              refine lv_imul hx hb dL_nodes_180 ?_
              refine lv_istore (lv' := [(6, .int (x6 * (c_n (x7).toNatClampNeg))), (5, .int (x5 + x8)), (0, .ref a_n), (1, .ref a_r), (2, .ref a_c), (3, .ref a_g), (4, .ref a_m), (7, .int x7), (8, .int x8), (9, .int x9)]) hx hb dL_nodes_181 hl (by decide) rfl (fun ls hl => ?_)
              refine lv_iinc (v := x7 + 1) (lv' := [(7, .int (x7 + 1)), (6, .int (x6 * (c_n (x7).toNatClampNeg))), (5, .int (x5 + x8)), (0, .ref a_n), (1, .ref a_r), (2, .ref a_c), (3, .ref a_g), (4, .ref a_m), (8, .int x8), (9, .int x9)]) hx hb dL_nodes_183 hl (k := 7) rfl rfl (by decide) rfl (fun ls hl => ?_)
              refine lv_goto (tgt := 9) hx hb dL_nodes_186 (by decide) ?_
              exact ih_9 (x5 + x8) (x6 * (c_n (x7).toNatClampNeg)) (x7 + 1) c_m  hf _ _ (hP.sub [0, 1, 2, 3, 4] rfl) (hD.sub [0, 1, 2, 3, 4] (by decide) rfl) hS _ (lv_sub hl [3, 4, 5, 6, 7, 2, 1, 0] rfl)
          · replace hf := zif hf c_2
            refine lv_aload_n hx hb dL_nodes_30 rfl (lv_at hl 0 rfl) ?_
            refine lv_aload_n hx hb dL_nodes_31 rfl (lv_at hl 1 rfl) ?_
            refine lv_aload_n hx hb dL_nodes_32 rfl (lv_at hl 2 rfl) ?_
            refine lv_aload_n hx hb dL_nodes_33 rfl (lv_at hl 3 rfl) ?_
            refine lv_iload hx hb dL_nodes_34 (lv_at hl 7 rfl) ?_
            refine lv_iload hx hb dL_nodes_36 (lv_at hl 9 rfl) ?_
            obtain ⟨u_5, e_5, hf⟩ := zbd hf
            refine zcall_i (wr := [(a_m, .inl (cI.2, 64, .inr (.inl c_m)))]) (va_runS (As := [.ref a_n, .ref a_r, .ref a_c, .ref a_g, .int x7, .int x9]) (rest := []) ⟨hx, hb, hml, hown, hts⟩ (c_L_left l D cI H.size a_n a_r a_c a_g fu c_n c_r c_c c_g x7 x9 u_5 e_5) (va_cwS 6 hts (zG_S kw_428 kw_429 kw_408 kw_427) rfl rfl rfl hd_L_left ⟨Nat.le_of_ble_eq_true rfl, Nat.le_of_ble_eq_true rfl⟩) ⟨zblind, zpre hP hD hK hE [0, 1, 2, 3] rfl (by decide)⟩ rfl rfl hl.1 rfl (lv_room (Nat.le_of_ble_eq_true rfl)) dL_nodes_38 ⟨Nat.le_of_ble_eq_true rfl, Nat.le_of_ble_eq_true rfl⟩) hP hD hS hA [0, 1, 2, 3] [4] rfl rfl (by decide) (by decide) (fun r9 uu H locs hX9 hP hD hS => ?_)
            obtain rfl := hX9.symm
            have hP : va_P D vwCl [(a_m, .inl (cI.2, 64, .inr (.inl c_m))), (a_n, .inl (cI.1, 6, .inl c_n)), (a_r, .inl (cI.1, 20, .inl c_r)), (a_c, .inl (cI.1, 6, .inl c_c)), (a_g, .inl (cI.1, 7, .inl c_g))] H := hP
            have hD : va_D A [(a_m, .inl (cI.2, 64, .inr (.inl c_m))), (a_n, .inl (cI.1, 6, .inl c_n)), (a_r, .inl (cI.1, 20, .inl c_r)), (a_c, .inl (cI.1, 6, .inl c_c)), (a_g, .inl (cI.1, 7, .inl c_g))] := hD
            refine lv_istore (lv' := [(10, .int u_5), (0, .ref a_n), (1, .ref a_r), (2, .ref a_c), (3, .ref a_g), (4, .ref a_m), (5, .int x5), (6, .int x6), (7, .int x7), (8, .int x8), (9, .int x9)]) hx hb dL_nodes_41 hl (by decide) rfl (fun ls hl => ?_)
            refine lv_iload hx hb dL_nodes_43 (lv_at hl 0 rfl) ?_
            refine lv_if_lt (tgt := 52) hx hb dL_nodes_45 (by decide) (fun c_6 => ?_) (fun c_6 => ?_)
            · replace hf := zit hf c_6
              refine lv_iconst (v := 0) hx hb dL_nodes_52 (by decide) ?_
              refine lv_istore (lv' := [(11, .int 0), (10, .int u_5), (0, .ref a_n), (1, .ref a_r), (2, .ref a_c), (3, .ref a_g), (4, .ref a_m), (5, .int x5), (6, .int x6), (7, .int x7), (8, .int x8), (9, .int x9)]) hx hb dL_nodes_53 hl (by decide) rfl (fun ls hl => ?_)
              refine lv_iconst (v := 0) hx hb dL_nodes_55 (by decide) ?_
              refine lv_istore (lv' := [(12, .int 0), (11, .int 0), (10, .int u_5), (0, .ref a_n), (1, .ref a_r), (2, .ref a_c), (3, .ref a_g), (4, .ref a_m), (5, .int x5), (6, .int x6), (7, .int x7), (8, .int x8), (9, .int x9)]) hx hb dL_nodes_56 hl (by decide) rfl (fun ls hl => ?_)
              exact w_L58 fu x5 x6 x7 x8 x9 u_5 (0 : Int32) (0 : Int32) c_m  hf _ _ (hP.sub [1, 2, 3, 4, 0] rfl) (hD.sub [1, 2, 3, 4, 0] (by decide) rfl) hS _ (lv_sub hl [3, 4, 5, 6, 7, 8, 9, 10, 11, 12, 2, 1, 0] rfl)
            · replace hf := zif hf c_6
              refine lv_iconst (v := 1) hx hb dL_nodes_48 (by decide) ?_
              refine lv_goto (tgt := 53) hx hb dL_nodes_49 (by decide) ?_
              refine lv_istore (lv' := [(11, .int 1), (10, .int u_5), (0, .ref a_n), (1, .ref a_r), (2, .ref a_c), (3, .ref a_g), (4, .ref a_m), (5, .int x5), (6, .int x6), (7, .int x7), (8, .int x8), (9, .int x9)]) hx hb dL_nodes_53 hl (by decide) rfl (fun ls hl => ?_)
              refine lv_iconst (v := 0) hx hb dL_nodes_55 (by decide) ?_
              refine lv_istore (lv' := [(12, .int 0), (11, .int 1), (10, .int u_5), (0, .ref a_n), (1, .ref a_r), (2, .ref a_c), (3, .ref a_g), (4, .ref a_m), (5, .int x5), (6, .int x6), (7, .int x7), (8, .int x8), (9, .int x9)]) hx hb dL_nodes_56 hl (by decide) rfl (fun ls hl => ?_)
              exact w_L58 fu x5 x6 x7 x8 x9 u_5 (1 : Int32) (0 : Int32) c_m  hf _ _ (hP.sub [1, 2, 3, 4, 0] rfl) (hD.sub [1, 2, 3, 4, 0] (by decide) rfl) hS _ (lv_sub hl [3, 4, 5, 6, 7, 8, 9, 10, 11, 12, 2, 1, 0] rfl)
      refine lv_iload hx hb dL_nodes_9 (lv_at hl 7 rfl) ?_
      refine lv_aload_n hx hb dL_nodes_11 rfl (lv_at hl 3 rfl) ?_
      refine lv_iconst (v := 0) hx hb dL_nodes_12 (by decide) ?_
      refine va_iald hx hb hK hP 3 0 (cA := cI.1) rfl rfl (show ¬ ((0 : Int32) < 0 ∨ 7 ≤ (0 : Int32).toNatClampNeg) by decide) dL_nodes_13 ?_
      refine lv_icmp_gt (tgt := 189) hx hb dL_nodes_14 (by decide) (fun c_1 => ?_) (fun c_1 => ?_)
      · replace hf := zit hf c_1
        refine lv_iload hx hb dL_nodes_189 (lv_at hl 5 rfl) ?_
        obtain rfl := Option.some.inj hf
        exact zret_i hx hb hr rfl rfl () hP hD hS [0, 1, 2, 3, 4] rfl (by decide) dL_nodes_191 hlocks
      · replace hf := zif hf c_1
        refine lv_iconst (v := 0) hx hb dL_nodes_17 (by decide) ?_
        refine lv_istore (lv' := [(8, .int 0), (0, .ref a_n), (1, .ref a_r), (2, .ref a_c), (3, .ref a_g), (4, .ref a_m), (5, .int x5), (6, .int x6), (7, .int x7)]) hx hb dL_nodes_18 hl (by decide) rfl (fun ls hl => ?_)
        refine lv_iconst (v := 0) hx hb dL_nodes_20 (by decide) ?_
        refine lv_istore (lv' := [(9, .int 0), (8, .int 0), (0, .ref a_n), (1, .ref a_r), (2, .ref a_c), (3, .ref a_g), (4, .ref a_m), (5, .int x5), (6, .int x6), (7, .int x7)]) hx hb dL_nodes_21 hl (by decide) rfl (fun ls hl => ?_)
        exact w_L23 fu x5 x6 x7 (0 : Int32) (0 : Int32) c_m  hf _ _ (hP.sub [0, 1, 2, 3, 4] rfl) (hD.sub [0, 1, 2, 3, 4] (by decide) rfl) hS _ (lv_sub hl [2, 3, 4, 5, 6, 7, 8, 9, 1, 0] rfl)
  refine lv_iconst (v := 0) hx hb dL_nodes_0 (by decide) ?_
  refine lv_istore (lv' := [(5, .int 0), (0, .ref a_n), (1, .ref a_r), (2, .ref a_c), (3, .ref a_g), (4, .ref a_m)]) hx hb dL_nodes_1 hl (by decide) rfl (fun ls hl => ?_)
  refine lv_iconst (v := 1) hx hb dL_nodes_3 (by decide) ?_
  refine lv_istore (lv' := [(6, .int 1), (5, .int 0), (0, .ref a_n), (1, .ref a_r), (2, .ref a_c), (3, .ref a_g), (4, .ref a_m)]) hx hb dL_nodes_4 hl (by decide) rfl (fun ls hl => ?_)
  refine lv_iconst (v := 0) hx hb dL_nodes_6 (by decide) ?_
  refine lv_istore (lv' := [(7, .int 0), (6, .int 1), (5, .int 0), (0, .ref a_n), (1, .ref a_r), (2, .ref a_c), (3, .ref a_g), (4, .ref a_m)]) hx hb dL_nodes_7 hl (by decide) rfl (fun ls hl => ?_)
  exact w_L9 fu (0 : Int32) (1 : Int32) (0 : Int32) c_m  hf _ _ (hP.sub [0, 1, 2, 3, 4] rfl) (hD.sub [0, 1, 2, 3, 4] (by decide) rfl) hS _ (lv_sub hl [3, 4, 5, 6, 7, 2, 1, 0] rfl)
