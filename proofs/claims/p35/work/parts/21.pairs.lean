noncomputable def m_X5_forget_L5_b (fu : Nat)  (k5 : Int32 → Int32 → (Nat → Int32) → Option (Int32 × (Nat → Int32))) (x1 : Int32) (x2 : Int32) (c_t_partners : Nat → Int32) : Option (Int32 × (Nat → Int32)) :=
  if (30 : Int32) ≤ x2 then some ((0 : Int32), c_t_partners) else (m_X9_only x1 (x2 / (5 : Int32)) (x2 - x2 / (5 : Int32) * (5 : Int32))).bind fun u_2 => if x2 < 0 ∨ 30 ≤ (x2).toNatClampNeg then none else k5 x1 (x2 + 1) (upd c_t_partners (x2).toNatClampNeg u_2)
noncomputable def m_X5_forget_L5 (fu : Nat)  (n : Nat) : Int32 → Int32 → (Nat → Int32) → Option (Int32 × (Nat → Int32)) :=
  Nat.rec (motive := fun _ => Int32 → Int32 → (Nat → Int32) → Option (Int32 × (Nat → Int32))) (fun _ _ _ => none) (fun _ ih => m_X5_forget_L5_b fu  ih) n
noncomputable def m_X5_forget (fu : Nat) (c_t_partners : Nat → Int32)  : Option (Int32 × (Nat → Int32)) :=
  m_X5_forget_L5 fu fu (1073741823 : Int32) (0 : Int32) c_t_partners
def rm_X5_forget : Room := { frames := 2, cells := 0, slots := 0, locals := 43 }
theorem hd_X5_forget : yX5_forget.cls ≠ "java/lang/invoke/MethodHandle" ∧ yX5_forget.cls ≠ "java/lang/invoke/VarHandle" ∧ (parseMethodDescriptor yX5_forget.desc).map (fun d => d.parameters.length) = some 0 := by decide +kernel
set_option maxHeartbeats 4000000 in
set_option maxRecDepth 100000 in
theorem c_X5_forget (l : Launch) (D : va_G) (cI : ClassId × ClassId) (sz : Nat) (a_t : Nat) (a_t_partners : Nat) (fu : Nat) (c_t_partners : Nat → Int32)  (r : Int32 × (Nat → Int32)) (hf : m_X5_forget fu c_t_partners  = some r) : Met l yX5_forget (zw (Cond.code yX5_forget cX5_forget 3 none)) rm_X5_forget (va_Pc [.ref a_t] (zA D cI [(a_t, .inr (5, [.ref a_t_partners])), (a_t_partners, .inl (cI.1, 30, .inl c_t_partners))] sz)) (zQv D (va_A [(a_t, .inr (5, [.ref a_t_partners])), (a_t_partners, .inl (cI.1, 30, .inl c_t_partners))] sz) (True) (fun (u : Unit) => ([(a_t, .inr (5, [.ref a_t_partners])), (a_t_partners, .inl (cI.1, 30, .inl r.2))] : va_W))) 0 0 (va_A [(a_t, .inr (5, [.ref a_t_partners])), (a_t_partners, .inl (cI.1, 30, .inl c_t_partners))] sz) := by
  unfold m_X5_forget at hf
  refine zhead (C := RX5) (by decide +kernel) rfl ?_
  intro p e s m below meth c hx hb hr hlocks hml hown hnm hts hE hK H hP hS hD hA
  generalize va_A [(a_t, .inr (5, [.ref a_t_partners])), (a_t_partners, .inl (cI.1, 30, .inl c_t_partners))] sz = A at hS hD hA ⊢
  have hl := lv_entry ([.ref a_t]) (n := 3) (Nat.le_of_ble_eq_true rfl)
  rw [lg_entry_eq]
  generalize (lg_sl ([.ref a_t]) ++ List.replicate (3 - (lg_sl ([.ref a_t])).length) Slot.unset).toArray = ls at hl ⊢
  have hl : lv_has ls 3 [(0, .ref a_t)] := hl

  have w_L5 : ∀ (n : Nat) (x1 : Int32) (x2 : Int32) (c_t_partners : Nat → Int32), m_X5_forget_L5 fu n x1 x2 c_t_partners = some r → ∀ (H : Heap) (locs : List Loc), va_P D vwCl [(a_t, .inr (5, [.ref a_t_partners])), (a_t_partners, .inl (cI.1, 30, .inl c_t_partners))] H → va_D A [(a_t, .inr (5, [.ref a_t_partners])), (a_t_partners, .inl (cI.1, 30, .inl c_t_partners))] → va_S A s.heap H locs → ∀ ls : Array Slot, lv_has ls 3 [(0, .ref a_t), (1, .int x1), (2, .int x2)] → W p l e rm_X5_forget s m ([.ref a_t] : List Value).toArray below meth c H locs 0 0 (MQ below (zQv D A (True) (fun (u : Unit) => ([(a_t, .inr (5, [.ref a_t_partners])), (a_t_partners, .inl (cI.1, 30, .inl r.2))] : va_W))) ([.ref a_t] : List Value).toArray s 0 0 A) (F0 m 5 ls []) := by
    intro n_5
    induction n_5 with
    | zero => intro x1 x2 c_t_partners  hf; exact absurd hf (fun h => by cases h)
    | succ n_5 ih_5 =>
      intro x1 x2 c_t_partners  hf H locs hP hD hS ls hl
      replace hf : m_X5_forget_L5_b fu  (m_X5_forget_L5 fu n_5) x1 x2 c_t_partners = some r := hf
      unfold m_X5_forget_L5_b at hf
      refine lv_iload_n hx hb dX5_forget_5 rfl (lv_at hl 2 rfl) ?_
      refine lv_bipush (v := 30) hx hb dX5_forget_6 (by decide) ?_
      refine lv_icmp_ge (tgt := 33) hx hb dX5_forget_8 (by decide) (fun c_1 => ?_) (fun c_1 => ?_)
      · replace hf := zit hf c_1
        obtain rfl := Option.some.inj hf
        exact zret_v hx hb hr trivial () hP hD hS [0, 1] rfl (by decide) dX5_forget_33 hlocks
      · replace hf := zif hf c_1
        refine lv_aload_n hx hb dX5_forget_11 rfl (lv_at hl 0 rfl) ?_
        refine va_get (D := D) (ci := 5) (v := .ref a_t_partners) (C := RX5) (T := TX5) (N := 1) hx hb hts (fun w h => zw_in (inX5 w h)) hown hK hP 0 rfl rfl 0 (by decide) (hts _ (zw_in kw_48)) (fun _ h9 => h9) rfl dX5_forget_12 ?_
        refine lv_iload_n hx hb dX5_forget_15 rfl (lv_at hl 2 rfl) ?_
        refine lv_iload_n hx hb dX5_forget_16 rfl (lv_at hl 1 rfl) ?_
        refine lv_iload_n hx hb dX5_forget_17 rfl (lv_at hl 2 rfl) ?_
        refine lv_iconst (v := 5) hx hb dX5_forget_18 (by decide) ?_
        refine lv_idiv hx hb dX5_forget_19 (by decide) ?_
        refine lv_iload_n hx hb dX5_forget_20 rfl (lv_at hl 2 rfl) ?_
        refine lv_iconst (v := 5) hx hb dX5_forget_21 (by decide) ?_
        refine lv_irem hx hb dX5_forget_22 (by decide) ?_
        obtain ⟨u_2, e_2, hf⟩ := zbd hf
        refine zcall_i (wr := [(a_t, .inr (5, [.ref a_t_partners])), (a_t_partners, .inl (cI.1, 30, .inl c_t_partners))]) (va_runSN (As := [.int x1, .int (x2 / (5 : Int32)), .int (x2 - x2 / (5 : Int32) * (5 : Int32))]) (rest := [.int x2, .ref a_t_partners]) ⟨hx, hb, hml, hown, hts⟩ (c_X9_only l D cI H.size x1 (x2 / (5 : Int32)) (x2 - x2 / (5 : Int32) * (5 : Int32)) u_2 e_2) ⟨va_cnB 3 hts (zG_B kw_23) rfl rfl rfl (hE.1 _ kn_3) (hts _ (zw_in kw_3)) hd_X9_only ⟨Nat.le_of_ble_eq_true rfl, Nat.le_of_ble_eq_true rfl⟩, hts _ (zw_in kw_24), trivial⟩ ⟨zblind, zpre hP hD hK hE [] rfl (by decide)⟩ rfl rfl hl.1 rfl (lv_room (Nat.le_of_ble_eq_true rfl)) dX5_forget_23 ⟨Nat.le_of_ble_eq_true rfl, Nat.le_of_ble_eq_true rfl⟩) hP hD hS hA [] [0, 1] rfl rfl (by decide) (by decide) (fun r9 uu H locs hX9 hP hD hS => ?_)
        obtain rfl := hX9.symm
        have hP : va_P D vwCl [(a_t, .inr (5, [.ref a_t_partners])), (a_t_partners, .inl (cI.1, 30, .inl c_t_partners))] H := hP
        have hD : va_D A [(a_t, .inr (5, [.ref a_t_partners])), (a_t_partners, .inl (cI.1, 30, .inl c_t_partners))] := hD
        obtain ⟨b_3, hf⟩ := zib hf
        refine va_iast hx hb hK hP hD hS 1 0 (cA := cI.1) rfl rfl b_3 dX5_forget_26 (fun H locs hP hD hS => ?_)
        have hP : va_P D vwCl [(a_t, .inr (5, [.ref a_t_partners])), (a_t_partners, .inl (cI.1, 30, .inl (upd c_t_partners (x2).toNatClampNeg u_2)))] H := hP
        have hD : va_D A [(a_t, .inr (5, [.ref a_t_partners])), (a_t_partners, .inl (cI.1, 30, .inl (upd c_t_partners (x2).toNatClampNeg u_2)))] := hD
        refine lv_iinc (v := x2 + 1) (lv' := [(2, .int (x2 + 1)), (0, .ref a_t), (1, .int x1)]) hx hb dX5_forget_27 hl (k := 2) rfl rfl (by decide) rfl (fun ls hl => ?_)
        refine lv_goto (tgt := 5) hx hb dX5_forget_30 (by decide) ?_
        exact ih_5 x1 (x2 + 1) (upd c_t_partners (x2).toNatClampNeg u_2)  hf _ _ (hP.sub [0, 1] rfl) (hD.sub [0, 1] (by decide) rfl) hS _ (lv_sub hl [1, 2, 0] rfl)
  refine W.ldc (v := 1073741823) (g := F0 m 0 ls []) hx hb hown (hts _ (zw_in kw_47)) rfl dX5_forget_0 ?_
  refine W.eq (g2 := F0 m 2 ls [.int 1073741823]) rfl ?_
  refine lv_istore_n (lv' := [(1, .int 1073741823), (0, .ref a_t)]) hx hb dX5_forget_2 rfl hl (by decide) rfl (fun ls hl => ?_)
  refine lv_iconst (v := 0) hx hb dX5_forget_3 (by decide) ?_
  refine lv_istore_n (lv' := [(2, .int 0), (1, .int 1073741823), (0, .ref a_t)]) hx hb dX5_forget_4 rfl hl (by decide) rfl (fun ls hl => ?_)
  exact w_L5 fu (1073741823 : Int32) (0 : Int32) c_t_partners  hf _ _ (hP.sub [0, 1] rfl) (hD.sub [0, 1] (by decide) rfl) hS _ (lv_sub hl [2, 1, 0] rfl)
noncomputable def m_X5_init (fu : Nat)   : Option (Int32 × (Nat → Int32)) :=
  (m_X5_forget fu (fun _ => 0)).bind fun u_1 => some ((0 : Int32), u_1.2)
def rm_X5_init : Room := { frames := 3, cells := 1, slots := 30, locals := 65 }
theorem hd_X5_init : yX5_init.cls ≠ "java/lang/invoke/MethodHandle" ∧ yX5_init.cls ≠ "java/lang/invoke/VarHandle" ∧ (parseMethodDescriptor yX5_init.desc).map (fun d => d.parameters.length) = some 0 := by decide +kernel
set_option maxHeartbeats 4000000 in
set_option maxRecDepth 100000 in
theorem c_X5_init (l : Launch) (D : va_G) (cI : ClassId × ClassId) (sz : Nat) (a_t : Nat) (fu : Nat)   (r : Int32 × (Nat → Int32)) (hf : m_X5_init fu   = some r) : Met l yX5_init (zw (Cond.code yX5_init cX5_init 1 none)) rm_X5_init (va_Pc [.ref a_t] (zA D cI [(a_t, .inr (5, [.null]))] sz)) (zQv D (va_A [(a_t, .inr (5, [.null]))] sz) (True) (fun (u : Nat) => ([(a_t, .inr (5, [.ref u])), (u, .inl (cI.1, 30, .inl r.2))] : va_W))) 1 30 (va_A [(a_t, .inr (5, [.null]))] sz) := by
  unfold m_X5_init at hf
  refine zhead (C := RX5) (by decide +kernel) rfl ?_
  intro p e s m below meth c hx hb hr hlocks hml hown hnm hts hE hK H hP hS hD hA
  generalize va_A [(a_t, .inr (5, [.null]))] sz = A at hS hD hA ⊢
  have hl := lv_entry ([.ref a_t]) (n := 1) (Nat.le_of_ble_eq_true rfl)
  rw [lg_entry_eq]
  generalize (lg_sl ([.ref a_t]) ++ List.replicate (1 - (lg_sl ([.ref a_t])).length) Slot.unset).toArray = ls at hl ⊢
  have hl : lv_has ls 1 [(0, .ref a_t)] := hl

  refine lv_aload_n hx hb dX5_init_0 rfl (lv_at hl 0 rfl) ?_
  refine W.objInit hx hb hown (hts _ (zw_in kw_49)) (hts _ (zw_in kw_11)) (hts _ (zw_in kw_12)) rfl (by rw [hml]; exact hl.1) rfl dX5_init_1 (Nat.le_of_ble_eq_true rfl) (Nat.le_of_ble_eq_true rfl) ?_
  refine W.eq (g2 := F0 m 4 ls []) rfl ?_
  refine lv_aload_n hx hb dX5_init_4 rfl (lv_at hl 0 rfl) ?_
  refine lv_bipush (v := 30) hx hb dX5_init_5 (by decide) ?_
  refine va_newa (atype := .int) (ty := .int) (N' := 30) (a0 := (30, .inl (fun _ => 0))) hx hb (hts _ (zw_in kw_13)) rfl hK hP hD hS hA (fun _ => rfl) (by decide) (by decide) (Nat.le_of_ble_eq_true rfl) (Nat.le_of_ble_eq_true rfl) (Nat.le_of_ble_eq_true rfl) dX5_init_7 (fun q7 cA H hK9 hP hD hS => ?_)
  obtain rfl := zKeq hK9
  have hP : va_P D vwCl [(a_t, .inr (5, [.null])), (q7, .inl (cI.1, 30, .inl (fun _ => 0)))] H := hP
  have hD : va_D A [(a_t, .inr (5, [.null])), (q7, .inl (cI.1, 30, .inl (fun _ => 0)))] := hD
  refine W.widen (k := 1) (n := 30) (Nat.le_of_ble_eq_true rfl) (Nat.le_of_ble_eq_true rfl) ?_
  refine va_putF (D := D) (ci := 5) (v := .ref q7) (ty := (.array .int)) (C := RX5) (T := TX5) (N := 1) hx hb hts (fun w h => zw_in (inX5 w h)) tyX5 tyX5_ok nmX5 hown hK hP hD hS 0 rfl rfl 0 (by decide) (hts _ (zw_in kw_48)) (fun _ h9 => h9) rfl hnm rfl (by decide +kernel) rfl rfl (Nat.le_of_ble_eq_true rfl) dX5_init_9 (fun H locs hP hD hS => ?_)
  have hP : va_P D vwCl [(a_t, .inr (5, [.ref q7])), (q7, .inl (cI.1, 30, .inl (fun _ => 0)))] H := hP
  have hD : va_D A [(a_t, .inr (5, [.ref q7])), (q7, .inl (cI.1, 30, .inl (fun _ => 0)))] := hD
  refine lv_aload_n hx hb dX5_init_12 rfl (lv_at hl 0 rfl) ?_
  obtain ⟨u_1, e_1, hf⟩ := zbd hf
  refine zcall_v (wr := []) (va_runV (As := []) (rest := []) ⟨hx, hb, hml, hown, hts⟩ (c_X5_forget l D cI H.size a_t q7 fu (fun _ => 0) u_1 e_1) (cwV 0 hts (zG_V kw_51 kw_52 kw_53 kw_54 kw_50) rfl rfl rfl ⟨rfl, hd_X5_forget⟩ ⟨Nat.le_of_ble_eq_true rfl, Nat.le_of_ble_eq_true rfl⟩) ⟨zblind, va_recv hK hP (ci := 5) (q0 := 0) rfl rfl, zpre hP hD hK hE [0, 1] rfl (by decide)⟩ rfl rfl hl.1 rfl (lv_room (Nat.le_of_ble_eq_true rfl)) dX5_init_13 ⟨Nat.le_of_ble_eq_true rfl, Nat.le_of_ble_eq_true rfl⟩) hP hD hS hA [0, 1] [] rfl rfl (by decide) (by decide) (fun uu H locs hX9 hP hD hS => ?_)
  have hP : va_P D vwCl [(a_t, .inr (5, [.ref q7])), (q7, .inl (cI.1, 30, .inl u_1.2))] H := hP
  have hD : va_D A [(a_t, .inr (5, [.ref q7])), (q7, .inl (cI.1, 30, .inl u_1.2))] := hD
  obtain rfl := Option.some.inj hf
  exact zret_v hx hb hr trivial q7 hP hD hS [0, 1] rfl (by decide) dX5_init_16 hlocks
noncomputable def m_X5_part (c_t_partners : Nat → Int32) (x1 : Int32) (x2 : Int32) : Option (Int32 × (Nat → Int32)) :=
  if x1 < 0 ∨ 30 ≤ (x1).toNatClampNeg then none else if x2 < 0 ∨ 30 ≤ (x2).toNatClampNeg then none else some ((0 : Int32), upd (upd c_t_partners (x1).toNatClampNeg ((c_t_partners (x1).toNatClampNeg) &&& (((1 : Int32) <<< (x2 &&& 31)) ^^^ (-1 : Int32)))) (x2).toNatClampNeg (((upd c_t_partners (x1).toNatClampNeg ((c_t_partners (x1).toNatClampNeg) &&& (((1 : Int32) <<< (x2 &&& 31)) ^^^ (-1 : Int32)))) (x2).toNatClampNeg) &&& (((1 : Int32) <<< (x1 &&& 31)) ^^^ (-1 : Int32))))
def rm_X5_part : Room := { frames := 0, cells := 0, slots := 0, locals := 0 }
theorem hd_X5_part : yX5_part.cls ≠ "java/lang/invoke/MethodHandle" ∧ yX5_part.cls ≠ "java/lang/invoke/VarHandle" ∧ (parseMethodDescriptor yX5_part.desc).map (fun d => d.parameters.length) = some 2 := by decide +kernel
set_option maxHeartbeats 4000000 in
set_option maxRecDepth 100000 in
theorem c_X5_part (l : Launch) (D : va_G) (cI : ClassId × ClassId) (sz : Nat) (a_t : Nat) (a_t_partners : Nat) (c_t_partners : Nat → Int32) (x1 : Int32) (x2 : Int32) (r : Int32 × (Nat → Int32)) (hf : m_X5_part c_t_partners x1 x2 = some r) : Met l yX5_part (zw (Cond.code yX5_part cX5_part 3 none)) rm_X5_part (va_Pc [.ref a_t, .int x1, .int x2] (zA D cI [(a_t, .inr (5, [.ref a_t_partners])), (a_t_partners, .inl (cI.1, 30, .inl c_t_partners))] sz)) (zQv D (va_A [(a_t, .inr (5, [.ref a_t_partners])), (a_t_partners, .inl (cI.1, 30, .inl c_t_partners))] sz) (True) (fun (u : Unit) => ([(a_t, .inr (5, [.ref a_t_partners])), (a_t_partners, .inl (cI.1, 30, .inl r.2))] : va_W))) 0 0 (va_A [(a_t, .inr (5, [.ref a_t_partners])), (a_t_partners, .inl (cI.1, 30, .inl c_t_partners))] sz) := by
  unfold m_X5_part at hf
  refine zhead (C := RX5) (by decide +kernel) rfl ?_
  intro p e s m below meth c hx hb hr hlocks hml hown hnm hts hE hK H hP hS hD hA
  generalize va_A [(a_t, .inr (5, [.ref a_t_partners])), (a_t_partners, .inl (cI.1, 30, .inl c_t_partners))] sz = A at hS hD hA ⊢
  have hl := lv_entry ([.ref a_t, .int x1, .int x2]) (n := 3) (Nat.le_of_ble_eq_true rfl)
  rw [lg_entry_eq]
  generalize (lg_sl ([.ref a_t, .int x1, .int x2]) ++ List.replicate (3 - (lg_sl ([.ref a_t, .int x1, .int x2])).length) Slot.unset).toArray = ls at hl ⊢
  have hl : lv_has ls 3 [(0, .ref a_t), (1, .int x1), (2, .int x2)] := hl

  refine lv_aload_n hx hb dX5_part_0 rfl (lv_at hl 0 rfl) ?_
  refine va_get (D := D) (ci := 5) (v := .ref a_t_partners) (C := RX5) (T := TX5) (N := 1) hx hb hts (fun w h => zw_in (inX5 w h)) hown hK hP 0 rfl rfl 0 (by decide) (hts _ (zw_in kw_48)) (fun _ h9 => h9) rfl dX5_part_1 ?_
  refine lv_iload_n hx hb dX5_part_4 rfl (lv_at hl 1 rfl) ?_
  refine lv_dup2_11 hx hb dX5_part_5 rfl rfl ?_
  obtain ⟨b_1, hf⟩ := zib hf
  refine va_iald hx hb hK hP 1 0 (cA := cI.1) rfl rfl b_1 dX5_part_6 ?_
  refine lv_iconst (v := 1) hx hb dX5_part_7 (by decide) ?_
  refine lv_iload_n hx hb dX5_part_8 rfl (lv_at hl 2 rfl) ?_
  refine lv_ishl hx hb dX5_part_9 ?_
  refine lv_iconst (v := -1) hx hb dX5_part_10 (by decide) ?_
  refine lv_ixor hx hb dX5_part_11 ?_
  refine lv_iand hx hb dX5_part_12 ?_
  refine va_iast hx hb hK hP hD hS 1 0 (cA := cI.1) rfl rfl b_1 dX5_part_13 (fun H locs hP hD hS => ?_)
  have hP : va_P D vwCl [(a_t, .inr (5, [.ref a_t_partners])), (a_t_partners, .inl (cI.1, 30, .inl (upd c_t_partners (x1).toNatClampNeg ((c_t_partners (x1).toNatClampNeg) &&& (((1 : Int32) <<< (x2 &&& 31)) ^^^ (-1 : Int32))))))] H := hP
  have hD : va_D A [(a_t, .inr (5, [.ref a_t_partners])), (a_t_partners, .inl (cI.1, 30, .inl (upd c_t_partners (x1).toNatClampNeg ((c_t_partners (x1).toNatClampNeg) &&& (((1 : Int32) <<< (x2 &&& 31)) ^^^ (-1 : Int32))))))] := hD
  refine lv_aload_n hx hb dX5_part_14 rfl (lv_at hl 0 rfl) ?_
  refine va_get (D := D) (ci := 5) (v := .ref a_t_partners) (C := RX5) (T := TX5) (N := 1) hx hb hts (fun w h => zw_in (inX5 w h)) hown hK hP 0 rfl rfl 0 (by decide) (hts _ (zw_in kw_48)) (fun _ h9 => h9) rfl dX5_part_15 ?_
  refine lv_iload_n hx hb dX5_part_18 rfl (lv_at hl 2 rfl) ?_
  refine lv_dup2_11 hx hb dX5_part_19 rfl rfl ?_
  obtain ⟨b_2, hf⟩ := zib hf
  refine va_iald hx hb hK hP 1 0 (cA := cI.1) rfl rfl b_2 dX5_part_20 ?_
  refine lv_iconst (v := 1) hx hb dX5_part_21 (by decide) ?_
  refine lv_iload_n hx hb dX5_part_22 rfl (lv_at hl 1 rfl) ?_
  refine lv_ishl hx hb dX5_part_23 ?_
  refine lv_iconst (v := -1) hx hb dX5_part_24 (by decide) ?_
  refine lv_ixor hx hb dX5_part_25 ?_
  refine lv_iand hx hb dX5_part_26 ?_
  refine va_iast hx hb hK hP hD hS 1 0 (cA := cI.1) rfl rfl b_2 dX5_part_27 (fun H locs hP hD hS => ?_)
  have hP : va_P D vwCl [(a_t, .inr (5, [.ref a_t_partners])), (a_t_partners, .inl (cI.1, 30, .inl (upd (upd c_t_partners (x1).toNatClampNeg ((c_t_partners (x1).toNatClampNeg) &&& (((1 : Int32) <<< (x2 &&& 31)) ^^^ (-1 : Int32)))) (x2).toNatClampNeg (((upd c_t_partners (x1).toNatClampNeg ((c_t_partners (x1).toNatClampNeg) &&& (((1 : Int32) <<< (x2 &&& 31)) ^^^ (-1 : Int32)))) (x2).toNatClampNeg) &&& (((1 : Int32) <<< (x1 &&& 31)) ^^^ (-1 : Int32))))))] H := hP
  have hD : va_D A [(a_t, .inr (5, [.ref a_t_partners])), (a_t_partners, .inl (cI.1, 30, .inl (upd (upd c_t_partners (x1).toNatClampNeg ((c_t_partners (x1).toNatClampNeg) &&& (((1 : Int32) <<< (x2 &&& 31)) ^^^ (-1 : Int32)))) (x2).toNatClampNeg (((upd c_t_partners (x1).toNatClampNeg ((c_t_partners (x1).toNatClampNeg) &&& (((1 : Int32) <<< (x2 &&& 31)) ^^^ (-1 : Int32)))) (x2).toNatClampNeg) &&& (((1 : Int32) <<< (x1 &&& 31)) ^^^ (-1 : Int32))))))] := hD
  obtain rfl := Option.some.inj hf
  exact zret_v hx hb hr trivial () hP hD hS [0, 1] rfl (by decide) dX5_part_28 hlocks
noncomputable def m_X5_partFromAllBut_L9_b (fu : Nat) (x1 : Int32) (x2 : Int32)  (k9 : Int32 → Int32 → (Nat → Int32) → Option (Int32 × (Nat → Int32))) (x3 : Int32) (x4 : Int32) (c_t_partners : Nat → Int32) : Option (Int32 × (Nat → Int32)) :=
  if x3 + (5 : Int32) ≤ x4 then some ((0 : Int32), c_t_partners) else if x4 = x2 then k9 x3 (x4 + 1) c_t_partners else (m_X5_part c_t_partners x1 x4).bind fun u_3 => k9 x3 (x4 + 1) u_3.2
noncomputable def m_X5_partFromAllBut_L9 (fu : Nat) (x1 : Int32) (x2 : Int32)  (n : Nat) : Int32 → Int32 → (Nat → Int32) → Option (Int32 × (Nat → Int32)) :=
  Nat.rec (motive := fun _ => Int32 → Int32 → (Nat → Int32) → Option (Int32 × (Nat → Int32))) (fun _ _ _ => none) (fun _ ih => m_X5_partFromAllBut_L9_b fu x1 x2  ih) n
noncomputable def m_X5_partFromAllBut (fu : Nat) (c_t_partners : Nat → Int32) (x1 : Int32) (x2 : Int32) : Option (Int32 × (Nat → Int32)) :=
  m_X5_partFromAllBut_L9 fu x1 x2 fu (x2 - (x2 - x2 / (5 : Int32) * (5 : Int32))) (x2 - (x2 - x2 / (5 : Int32) * (5 : Int32))) c_t_partners
def rm_X5_partFromAllBut : Room := { frames := 1, cells := 0, slots := 0, locals := 22 }
theorem hd_X5_partFromAllBut : yX5_partFromAllBut.cls ≠ "java/lang/invoke/MethodHandle" ∧ yX5_partFromAllBut.cls ≠ "java/lang/invoke/VarHandle" ∧ (parseMethodDescriptor yX5_partFromAllBut.desc).map (fun d => d.parameters.length) = some 2 := by decide +kernel
set_option maxHeartbeats 4000000 in
set_option maxRecDepth 100000 in
theorem c_X5_partFromAllBut (l : Launch) (D : va_G) (cI : ClassId × ClassId) (sz : Nat) (a_t : Nat) (a_t_partners : Nat) (fu : Nat) (c_t_partners : Nat → Int32) (x1 : Int32) (x2 : Int32) (r : Int32 × (Nat → Int32)) (hf : m_X5_partFromAllBut fu c_t_partners x1 x2 = some r) : Met l yX5_partFromAllBut (zw (Cond.code yX5_partFromAllBut cX5_partFromAllBut 5 none)) rm_X5_partFromAllBut (va_Pc [.ref a_t, .int x1, .int x2] (zA D cI [(a_t, .inr (5, [.ref a_t_partners])), (a_t_partners, .inl (cI.1, 30, .inl c_t_partners))] sz)) (zQv D (va_A [(a_t, .inr (5, [.ref a_t_partners])), (a_t_partners, .inl (cI.1, 30, .inl c_t_partners))] sz) (True) (fun (u : Unit) => ([(a_t, .inr (5, [.ref a_t_partners])), (a_t_partners, .inl (cI.1, 30, .inl r.2))] : va_W))) 0 0 (va_A [(a_t, .inr (5, [.ref a_t_partners])), (a_t_partners, .inl (cI.1, 30, .inl c_t_partners))] sz) := by
  unfold m_X5_partFromAllBut at hf
  refine zhead (C := RX5) (by decide +kernel) rfl ?_
  intro p e s m below meth c hx hb hr hlocks hml hown hnm hts hE hK H hP hS hD hA
  generalize va_A [(a_t, .inr (5, [.ref a_t_partners])), (a_t_partners, .inl (cI.1, 30, .inl c_t_partners))] sz = A at hS hD hA ⊢
  have hl := lv_entry ([.ref a_t, .int x1, .int x2]) (n := 5) (Nat.le_of_ble_eq_true rfl)
  rw [lg_entry_eq]
  generalize (lg_sl ([.ref a_t, .int x1, .int x2]) ++ List.replicate (5 - (lg_sl ([.ref a_t, .int x1, .int x2])).length) Slot.unset).toArray = ls at hl ⊢
  have hl : lv_has ls 5 [(0, .ref a_t), (1, .int x1), (2, .int x2)] := hl

  have w_L9 : ∀ (n : Nat) (x3 : Int32) (x4 : Int32) (c_t_partners : Nat → Int32), m_X5_partFromAllBut_L9 fu x1 x2 n x3 x4 c_t_partners = some r → ∀ (H : Heap) (locs : List Loc), va_P D vwCl [(a_t, .inr (5, [.ref a_t_partners])), (a_t_partners, .inl (cI.1, 30, .inl c_t_partners))] H → va_D A [(a_t, .inr (5, [.ref a_t_partners])), (a_t_partners, .inl (cI.1, 30, .inl c_t_partners))] → va_S A s.heap H locs → ∀ ls : Array Slot, lv_has ls 5 [(0, .ref a_t), (1, .int x1), (2, .int x2), (3, .int x3), (4, .int x4)] → W p l e rm_X5_partFromAllBut s m ([.ref a_t, .int x1, .int x2] : List Value).toArray below meth c H locs 0 0 (MQ below (zQv D A (True) (fun (u : Unit) => ([(a_t, .inr (5, [.ref a_t_partners])), (a_t_partners, .inl (cI.1, 30, .inl r.2))] : va_W))) ([.ref a_t, .int x1, .int x2] : List Value).toArray s 0 0 A) (F0 m 9 ls []) := by
    intro n_9
    induction n_9 with
    | zero => intro x3 x4 c_t_partners  hf; exact absurd hf (fun h => by cases h)
    | succ n_9 ih_9 =>
      intro x3 x4 c_t_partners  hf H locs hP hD hS ls hl
      replace hf : m_X5_partFromAllBut_L9_b fu x1 x2  (m_X5_partFromAllBut_L9 fu x1 x2 n_9) x3 x4 c_t_partners = some r := hf
      unfold m_X5_partFromAllBut_L9_b at hf
      refine lv_iload hx hb dX5_partFromAllBut_9 (lv_at hl 4 rfl) ?_
      refine lv_iload_n hx hb dX5_partFromAllBut_11 rfl (lv_at hl 3 rfl) ?_
      refine lv_iconst (v := 5) hx hb dX5_partFromAllBut_12 (by decide) ?_
      refine lv_iadd hx hb dX5_partFromAllBut_13 ?_
      refine lv_icmp_ge (tgt := 36) hx hb dX5_partFromAllBut_14 (by decide) (fun c_1 => ?_) (fun c_1 => ?_)
      · replace hf := zit hf c_1
        obtain rfl := Option.some.inj hf
        exact zret_v hx hb hr trivial () hP hD hS [0, 1] rfl (by decide) dX5_partFromAllBut_36 hlocks
      · replace hf := zif hf c_1
        refine lv_iload hx hb dX5_partFromAllBut_17 (lv_at hl 4 rfl) ?_
        refine lv_iload_n hx hb dX5_partFromAllBut_19 rfl (lv_at hl 2 rfl) ?_
        refine lv_icmp_eq (tgt := 30) hx hb dX5_partFromAllBut_20 (by decide) (fun c_2 => ?_) (fun c_2 => ?_)
        · replace hf := zit hf c_2
          refine lv_iinc (v := x4 + 1) (lv' := [(4, .int (x4 + 1)), (0, .ref a_t), (1, .int x1), (2, .int x2), (3, .int x3)]) hx hb dX5_partFromAllBut_30 hl (k := 4) rfl rfl (by decide) rfl (fun ls hl => ?_)
          refine lv_goto (tgt := 9) hx hb dX5_partFromAllBut_33 (by decide) ?_
          exact ih_9 x3 (x4 + 1) c_t_partners  hf _ _ (hP.sub [0, 1] rfl) (hD.sub [0, 1] (by decide) rfl) hS _ (lv_sub hl [1, 2, 3, 4, 0] rfl)
        · replace hf := zif hf c_2
          refine lv_aload_n hx hb dX5_partFromAllBut_23 rfl (lv_at hl 0 rfl) ?_
          refine lv_iload_n hx hb dX5_partFromAllBut_24 rfl (lv_at hl 1 rfl) ?_
          refine lv_iload hx hb dX5_partFromAllBut_25 (lv_at hl 4 rfl) ?_
          obtain ⟨u_3, e_3, hf⟩ := zbd hf
          refine zcall_v (wr := []) (va_runV (As := [.int x1, .int x4]) (rest := []) ⟨hx, hb, hml, hown, hts⟩ (c_X5_part l D cI H.size a_t a_t_partners c_t_partners x1 x4 u_3 e_3) (cwV 2 hts (zG_V kw_56 kw_57 kw_58 kw_54 kw_55) rfl rfl rfl ⟨rfl, hd_X5_part⟩ ⟨Nat.le_of_ble_eq_true rfl, Nat.le_of_ble_eq_true rfl⟩) ⟨zblind, va_recv hK hP (ci := 5) (q0 := 0) rfl rfl, zpre hP hD hK hE [0, 1] rfl (by decide)⟩ rfl rfl hl.1 rfl (lv_room (Nat.le_of_ble_eq_true rfl)) dX5_partFromAllBut_27 ⟨Nat.le_of_ble_eq_true rfl, Nat.le_of_ble_eq_true rfl⟩) hP hD hS hA [0, 1] [] rfl rfl (by decide) (by decide) (fun uu H locs hX9 hP hD hS => ?_)
          have hP : va_P D vwCl [(a_t, .inr (5, [.ref a_t_partners])), (a_t_partners, .inl (cI.1, 30, .inl u_3.2))] H := hP
          have hD : va_D A [(a_t, .inr (5, [.ref a_t_partners])), (a_t_partners, .inl (cI.1, 30, .inl u_3.2))] := hD
          refine lv_iinc (v := x4 + 1) (lv' := [(4, .int (x4 + 1)), (0, .ref a_t), (1, .int x1), (2, .int x2), (3, .int x3)]) hx hb dX5_partFromAllBut_30 hl (k := 4) rfl rfl (by decide) rfl (fun ls hl => ?_)
          refine lv_goto (tgt := 9) hx hb dX5_partFromAllBut_33 (by decide) ?_
          exact ih_9 x3 (x4 + 1) u_3.2  hf _ _ (hP.sub [0, 1] rfl) (hD.sub [0, 1] (by decide) rfl) hS _ (lv_sub hl [1, 2, 3, 4, 0] rfl)
  refine lv_iload_n hx hb dX5_partFromAllBut_0 rfl (lv_at hl 2 rfl) ?_
  refine lv_iload_n hx hb dX5_partFromAllBut_1 rfl (lv_at hl 2 rfl) ?_
  refine lv_iconst (v := 5) hx hb dX5_partFromAllBut_2 (by decide) ?_
  refine lv_irem hx hb dX5_partFromAllBut_3 (by decide) ?_
  refine lv_isub hx hb dX5_partFromAllBut_4 ?_
  refine lv_istore_n (lv' := [(3, .int (x2 - (x2 - x2 / (5 : Int32) * (5 : Int32)))), (0, .ref a_t), (1, .int x1), (2, .int x2)]) hx hb dX5_partFromAllBut_5 rfl hl (by decide) rfl (fun ls hl => ?_)
  refine lv_iload_n hx hb dX5_partFromAllBut_6 rfl (lv_at hl 0 rfl) ?_
  refine lv_istore (lv' := [(4, .int (x2 - (x2 - x2 / (5 : Int32) * (5 : Int32)))), (3, .int (x2 - (x2 - x2 / (5 : Int32) * (5 : Int32)))), (0, .ref a_t), (1, .int x1), (2, .int x2)]) hx hb dX5_partFromAllBut_7 hl (by decide) rfl (fun ls hl => ?_)
  exact w_L9 fu (x2 - (x2 - x2 / (5 : Int32) * (5 : Int32))) (x2 - (x2 - x2 / (5 : Int32) * (5 : Int32))) c_t_partners  hf _ _ (hP.sub [0, 1] rfl) (hD.sub [0, 1] (by decide) rfl) hS _ (lv_sub hl [2, 3, 4, 1, 0] rfl)
noncomputable def m_X5_keep (fu : Nat) (c_t_partners : Nat → Int32) (x1 : Int32) (x2 : Int32) (x3 : Int32) : Option (Int32 × (Nat → Int32)) :=
  if x1 = (0 : Int32) then (m_X5_part c_t_partners x2 x3).bind fun u_5 => some ((0 : Int32), u_5.2) else (m_X5_partFromAllBut fu c_t_partners x2 x3).bind fun u_2 => if x1 = (2 : Int32) then (m_X5_partFromAllBut fu u_2.2 x3 x2).bind fun u_4 => some ((0 : Int32), u_4.2) else some ((0 : Int32), u_2.2)
def rm_X5_keep : Room := { frames := 2, cells := 0, slots := 0, locals := 46 }
theorem hd_X5_keep : yX5_keep.cls ≠ "java/lang/invoke/MethodHandle" ∧ yX5_keep.cls ≠ "java/lang/invoke/VarHandle" ∧ (parseMethodDescriptor yX5_keep.desc).map (fun d => d.parameters.length) = some 3 := by decide +kernel
set_option maxHeartbeats 4000000 in
set_option maxRecDepth 100000 in
theorem c_X5_keep (l : Launch) (D : va_G) (cI : ClassId × ClassId) (sz : Nat) (a_t : Nat) (a_t_partners : Nat) (fu : Nat) (c_t_partners : Nat → Int32) (x1 : Int32) (x2 : Int32) (x3 : Int32) (r : Int32 × (Nat → Int32)) (hf : m_X5_keep fu c_t_partners x1 x2 x3 = some r) : Met l yX5_keep (zw (Cond.code yX5_keep cX5_keep 4 none)) rm_X5_keep (va_Pc [.ref a_t, .int x1, .int x2, .int x3] (zA D cI [(a_t, .inr (5, [.ref a_t_partners])), (a_t_partners, .inl (cI.1, 30, .inl c_t_partners))] sz)) (zQv D (va_A [(a_t, .inr (5, [.ref a_t_partners])), (a_t_partners, .inl (cI.1, 30, .inl c_t_partners))] sz) (True) (fun (u : Unit) => ([(a_t, .inr (5, [.ref a_t_partners])), (a_t_partners, .inl (cI.1, 30, .inl r.2))] : va_W))) 0 0 (va_A [(a_t, .inr (5, [.ref a_t_partners])), (a_t_partners, .inl (cI.1, 30, .inl c_t_partners))] sz) := by
  unfold m_X5_keep at hf
  refine zhead (C := RX5) (by decide +kernel) rfl ?_
  intro p e s m below meth c hx hb hr hlocks hml hown hnm hts hE hK H hP hS hD hA
  generalize va_A [(a_t, .inr (5, [.ref a_t_partners])), (a_t_partners, .inl (cI.1, 30, .inl c_t_partners))] sz = A at hS hD hA ⊢
  have hl := lv_entry ([.ref a_t, .int x1, .int x2, .int x3]) (n := 4) (Nat.le_of_ble_eq_true rfl)
  rw [lg_entry_eq]
  generalize (lg_sl ([.ref a_t, .int x1, .int x2, .int x3]) ++ List.replicate (4 - (lg_sl ([.ref a_t, .int x1, .int x2, .int x3])).length) Slot.unset).toArray = ls at hl ⊢
  have hl : lv_has ls 4 [(0, .ref a_t), (1, .int x1), (2, .int x2), (3, .int x3)] := hl

  refine lv_iload_n hx hb dX5_keep_0 rfl (lv_at hl 1 rfl) ?_
  refine lv_if_ne (tgt := 11) hx hb dX5_keep_1 (by decide) (fun c_1 => ?_) (fun c_1 => ?_)
  · replace hf := zif hf c_1
    refine lv_aload_n hx hb dX5_keep_11 rfl (lv_at hl 0 rfl) ?_
    refine lv_iload_n hx hb dX5_keep_12 rfl (lv_at hl 2 rfl) ?_
    refine lv_iload_n hx hb dX5_keep_13 rfl (lv_at hl 3 rfl) ?_
    obtain ⟨u_2, e_2, hf⟩ := zbd hf
    refine zcall_v (wr := []) (va_runV (As := [.int x2, .int x3]) (rest := []) ⟨hx, hb, hml, hown, hts⟩ (c_X5_partFromAllBut l D cI H.size a_t a_t_partners fu c_t_partners x2 x3 u_2 e_2) (cwV 2 hts (zG_V kw_60 kw_61 kw_62 kw_54 kw_59) rfl rfl rfl ⟨rfl, hd_X5_partFromAllBut⟩ ⟨Nat.le_of_ble_eq_true rfl, Nat.le_of_ble_eq_true rfl⟩) ⟨zblind, va_recv hK hP (ci := 5) (q0 := 0) rfl rfl, zpre hP hD hK hE [0, 1] rfl (by decide)⟩ rfl rfl hl.1 rfl (lv_room (Nat.le_of_ble_eq_true rfl)) dX5_keep_14 ⟨Nat.le_of_ble_eq_true rfl, Nat.le_of_ble_eq_true rfl⟩) hP hD hS hA [0, 1] [] rfl rfl (by decide) (by decide) (fun uu H locs hX9 hP hD hS => ?_)
    have hP : va_P D vwCl [(a_t, .inr (5, [.ref a_t_partners])), (a_t_partners, .inl (cI.1, 30, .inl u_2.2))] H := hP
    have hD : va_D A [(a_t, .inr (5, [.ref a_t_partners])), (a_t_partners, .inl (cI.1, 30, .inl u_2.2))] := hD
    refine lv_iload_n hx hb dX5_keep_17 rfl (lv_at hl 1 rfl) ?_
    refine lv_iconst (v := 2) hx hb dX5_keep_18 (by decide) ?_
    refine lv_icmp_ne (tgt := 28) hx hb dX5_keep_19 (by decide) (fun c_3 => ?_) (fun c_3 => ?_)
    · replace hf := zif hf c_3
      obtain rfl := Option.some.inj hf
      exact zret_v hx hb hr trivial () hP hD hS [0, 1] rfl (by decide) dX5_keep_28 hlocks
    · replace hf := zit hf c_3
      refine lv_aload_n hx hb dX5_keep_22 rfl (lv_at hl 0 rfl) ?_
      refine lv_iload_n hx hb dX5_keep_23 rfl (lv_at hl 3 rfl) ?_
      refine lv_iload_n hx hb dX5_keep_24 rfl (lv_at hl 2 rfl) ?_
      obtain ⟨u_4, e_4, hf⟩ := zbd hf
      refine zcall_v (wr := []) (va_runV (As := [.int x3, .int x2]) (rest := []) ⟨hx, hb, hml, hown, hts⟩ (c_X5_partFromAllBut l D cI H.size a_t a_t_partners fu u_2.2 x3 x2 u_4 e_4) (cwV 2 hts (zG_V kw_60 kw_61 kw_62 kw_54 kw_59) rfl rfl rfl ⟨rfl, hd_X5_partFromAllBut⟩ ⟨Nat.le_of_ble_eq_true rfl, Nat.le_of_ble_eq_true rfl⟩) ⟨zblind, va_recv hK hP (ci := 5) (q0 := 0) rfl rfl, zpre hP hD hK hE [0, 1] rfl (by decide)⟩ rfl rfl hl.1 rfl (lv_room (Nat.le_of_ble_eq_true rfl)) dX5_keep_25 ⟨Nat.le_of_ble_eq_true rfl, Nat.le_of_ble_eq_true rfl⟩) hP hD hS hA [0, 1] [] rfl rfl (by decide) (by decide) (fun uu H locs hX9 hP hD hS => ?_)
      have hP : va_P D vwCl [(a_t, .inr (5, [.ref a_t_partners])), (a_t_partners, .inl (cI.1, 30, .inl u_4.2))] H := hP
      have hD : va_D A [(a_t, .inr (5, [.ref a_t_partners])), (a_t_partners, .inl (cI.1, 30, .inl u_4.2))] := hD
      obtain rfl := Option.some.inj hf
      exact zret_v hx hb hr trivial () hP hD hS [0, 1] rfl (by decide) dX5_keep_28 hlocks
  · replace hf := zit hf c_1
    refine lv_aload_n hx hb dX5_keep_4 rfl (lv_at hl 0 rfl) ?_
    refine lv_iload_n hx hb dX5_keep_5 rfl (lv_at hl 2 rfl) ?_
    refine lv_iload_n hx hb dX5_keep_6 rfl (lv_at hl 3 rfl) ?_
    obtain ⟨u_5, e_5, hf⟩ := zbd hf
    refine zcall_v (wr := []) (va_runV (As := [.int x2, .int x3]) (rest := []) ⟨hx, hb, hml, hown, hts⟩ (c_X5_part l D cI H.size a_t a_t_partners c_t_partners x2 x3 u_5 e_5) (cwV 2 hts (zG_V kw_56 kw_57 kw_58 kw_54 kw_55) rfl rfl rfl ⟨rfl, hd_X5_part⟩ ⟨Nat.le_of_ble_eq_true rfl, Nat.le_of_ble_eq_true rfl⟩) ⟨zblind, va_recv hK hP (ci := 5) (q0 := 0) rfl rfl, zpre hP hD hK hE [0, 1] rfl (by decide)⟩ rfl rfl hl.1 rfl (lv_room (Nat.le_of_ble_eq_true rfl)) dX5_keep_7 ⟨Nat.le_of_ble_eq_true rfl, Nat.le_of_ble_eq_true rfl⟩) hP hD hS hA [0, 1] [] rfl rfl (by decide) (by decide) (fun uu H locs hX9 hP hD hS => ?_)
    have hP : va_P D vwCl [(a_t, .inr (5, [.ref a_t_partners])), (a_t_partners, .inl (cI.1, 30, .inl u_5.2))] H := hP
    have hD : va_D A [(a_t, .inr (5, [.ref a_t_partners])), (a_t_partners, .inl (cI.1, 30, .inl u_5.2))] := hD
    obtain rfl := Option.some.inj hf
    exact zret_v hx hb hr trivial () hP hD hS [0, 1] rfl (by decide) dX5_keep_10 hlocks
noncomputable def m_X5_keepOnly_L6_b (fu : Nat) (x2 : Int32) (f_p1_size : Int32) (c_p1_kinds : Nat → Int32) (c_p1_slots : Nat → Int32) (c_p1_others : Nat → Int32)  (k6 : Int32 → (Nat → Int32) → Option (Int32 × (Nat → Int32))) (x3 : Int32) (c_t_partners : Nat → Int32) : Option (Int32 × (Nat → Int32)) :=
  if f_p1_size ≤ x3 then some ((0 : Int32), c_t_partners) else (m_X9_holds x2 x3).bind fun u_3 => if u_3 = (0 : Int32) then k6 (x3 + 1) c_t_partners else if x3 < 0 ∨ 20 ≤ (x3).toNatClampNeg then none else (m_X5_keep fu c_t_partners (c_p1_kinds (x3).toNatClampNeg) (c_p1_slots (x3).toNatClampNeg) (c_p1_others (x3).toNatClampNeg)).bind fun u_6 => k6 (x3 + 1) u_6.2
noncomputable def m_X5_keepOnly_L6 (fu : Nat) (x2 : Int32) (f_p1_size : Int32) (c_p1_kinds : Nat → Int32) (c_p1_slots : Nat → Int32) (c_p1_others : Nat → Int32)  (n : Nat) : Int32 → (Nat → Int32) → Option (Int32 × (Nat → Int32)) :=
  Nat.rec (motive := fun _ => Int32 → (Nat → Int32) → Option (Int32 × (Nat → Int32))) (fun _ _ => none) (fun _ ih => m_X5_keepOnly_L6_b fu x2 f_p1_size c_p1_kinds c_p1_slots c_p1_others  ih) n
noncomputable def m_X5_keepOnly (fu : Nat) (c_t_partners : Nat → Int32) (f_p1_size : Int32) (c_p1_kinds : Nat → Int32) (c_p1_slots : Nat → Int32) (c_p1_others : Nat → Int32) (x2 : Int32) : Option (Int32 × (Nat → Int32)) :=
  (m_X5_forget fu c_t_partners).bind fun u_1 => m_X5_keepOnly_L6 fu x2 f_p1_size c_p1_kinds c_p1_slots c_p1_others fu (0 : Int32) u_1.2
def rm_X5_keepOnly : Room := { frames := 3, cells := 0, slots := 0, locals := 69 }
theorem hd_X5_keepOnly : yX5_keepOnly.cls ≠ "java/lang/invoke/MethodHandle" ∧ yX5_keepOnly.cls ≠ "java/lang/invoke/VarHandle" ∧ (parseMethodDescriptor yX5_keepOnly.desc).map (fun d => d.parameters.length) = some 2 := by decide +kernel
set_option maxHeartbeats 4000000 in
set_option maxRecDepth 100000 in
theorem c_X5_keepOnly (l : Launch) (D : va_G) (cI : ClassId × ClassId) (sz : Nat) (a_t : Nat) (a_t_partners : Nat) (a_p1 : Nat) (a_p1_kinds : Nat) (a_p1_slots : Nat) (a_p1_others : Nat) (fu : Nat) (c_t_partners : Nat → Int32) (f_p1_size : Int32) (f_p1_on : Int32) (c_p1_kinds : Nat → Int32) (c_p1_slots : Nat → Int32) (c_p1_others : Nat → Int32) (x2 : Int32) (r : Int32 × (Nat → Int32)) (hf : m_X5_keepOnly fu c_t_partners f_p1_size c_p1_kinds c_p1_slots c_p1_others x2 = some r) : Met l yX5_keepOnly (zw (Cond.code yX5_keepOnly cX5_keepOnly 4 none)) rm_X5_keepOnly (va_Pc [.ref a_t, .ref a_p1, .int x2] (zA D cI [(a_t, .inr (5, [.ref a_t_partners])), (a_t_partners, .inl (cI.1, 30, .inl c_t_partners)), (a_p1, .inr (8, [.int f_p1_size, .int f_p1_on, .ref a_p1_kinds, .ref a_p1_slots, .ref a_p1_others])), (a_p1_kinds, .inl (cI.1, 20, .inl c_p1_kinds)), (a_p1_slots, .inl (cI.1, 20, .inl c_p1_slots)), (a_p1_others, .inl (cI.1, 20, .inl c_p1_others))] sz)) (zQv D (va_A [(a_t, .inr (5, [.ref a_t_partners])), (a_t_partners, .inl (cI.1, 30, .inl c_t_partners)), (a_p1, .inr (8, [.int f_p1_size, .int f_p1_on, .ref a_p1_kinds, .ref a_p1_slots, .ref a_p1_others])), (a_p1_kinds, .inl (cI.1, 20, .inl c_p1_kinds)), (a_p1_slots, .inl (cI.1, 20, .inl c_p1_slots)), (a_p1_others, .inl (cI.1, 20, .inl c_p1_others))] sz) (True) (fun (u : Unit) => ([(a_t, .inr (5, [.ref a_t_partners])), (a_t_partners, .inl (cI.1, 30, .inl r.2)), (a_p1, .inr (8, [.int f_p1_size, .int f_p1_on, .ref a_p1_kinds, .ref a_p1_slots, .ref a_p1_others])), (a_p1_kinds, .inl (cI.1, 20, .inl c_p1_kinds)), (a_p1_slots, .inl (cI.1, 20, .inl c_p1_slots)), (a_p1_others, .inl (cI.1, 20, .inl c_p1_others))] : va_W))) 0 0 (va_A [(a_t, .inr (5, [.ref a_t_partners])), (a_t_partners, .inl (cI.1, 30, .inl c_t_partners)), (a_p1, .inr (8, [.int f_p1_size, .int f_p1_on, .ref a_p1_kinds, .ref a_p1_slots, .ref a_p1_others])), (a_p1_kinds, .inl (cI.1, 20, .inl c_p1_kinds)), (a_p1_slots, .inl (cI.1, 20, .inl c_p1_slots)), (a_p1_others, .inl (cI.1, 20, .inl c_p1_others))] sz) := by
  unfold m_X5_keepOnly at hf
  refine zhead (C := RX5) (by decide +kernel) rfl ?_
  intro p e s m below meth c hx hb hr hlocks hml hown hnm hts hE hK H hP hS hD hA
  generalize va_A [(a_t, .inr (5, [.ref a_t_partners])), (a_t_partners, .inl (cI.1, 30, .inl c_t_partners)), (a_p1, .inr (8, [.int f_p1_size, .int f_p1_on, .ref a_p1_kinds, .ref a_p1_slots, .ref a_p1_others])), (a_p1_kinds, .inl (cI.1, 20, .inl c_p1_kinds)), (a_p1_slots, .inl (cI.1, 20, .inl c_p1_slots)), (a_p1_others, .inl (cI.1, 20, .inl c_p1_others))] sz = A at hS hD hA ⊢
  have hl := lv_entry ([.ref a_t, .ref a_p1, .int x2]) (n := 4) (Nat.le_of_ble_eq_true rfl)
  rw [lg_entry_eq]
  generalize (lg_sl ([.ref a_t, .ref a_p1, .int x2]) ++ List.replicate (4 - (lg_sl ([.ref a_t, .ref a_p1, .int x2])).length) Slot.unset).toArray = ls at hl ⊢
  have hl : lv_has ls 4 [(0, .ref a_t), (1, .ref a_p1), (2, .int x2)] := hl

  have w_L6 : ∀ (n : Nat) (x3 : Int32) (c_t_partners : Nat → Int32), m_X5_keepOnly_L6 fu x2 f_p1_size c_p1_kinds c_p1_slots c_p1_others n x3 c_t_partners = some r → ∀ (H : Heap) (locs : List Loc), va_P D vwCl [(a_t, .inr (5, [.ref a_t_partners])), (a_t_partners, .inl (cI.1, 30, .inl c_t_partners)), (a_p1, .inr (8, [.int f_p1_size, .int f_p1_on, .ref a_p1_kinds, .ref a_p1_slots, .ref a_p1_others])), (a_p1_kinds, .inl (cI.1, 20, .inl c_p1_kinds)), (a_p1_slots, .inl (cI.1, 20, .inl c_p1_slots)), (a_p1_others, .inl (cI.1, 20, .inl c_p1_others))] H → va_D A [(a_t, .inr (5, [.ref a_t_partners])), (a_t_partners, .inl (cI.1, 30, .inl c_t_partners)), (a_p1, .inr (8, [.int f_p1_size, .int f_p1_on, .ref a_p1_kinds, .ref a_p1_slots, .ref a_p1_others])), (a_p1_kinds, .inl (cI.1, 20, .inl c_p1_kinds)), (a_p1_slots, .inl (cI.1, 20, .inl c_p1_slots)), (a_p1_others, .inl (cI.1, 20, .inl c_p1_others))] → va_S A s.heap H locs → ∀ ls : Array Slot, lv_has ls 4 [(0, .ref a_t), (1, .ref a_p1), (2, .int x2), (3, .int x3)] → W p l e rm_X5_keepOnly s m ([.ref a_t, .ref a_p1, .int x2] : List Value).toArray below meth c H locs 0 0 (MQ below (zQv D A (True) (fun (u : Unit) => ([(a_t, .inr (5, [.ref a_t_partners])), (a_t_partners, .inl (cI.1, 30, .inl r.2)), (a_p1, .inr (8, [.int f_p1_size, .int f_p1_on, .ref a_p1_kinds, .ref a_p1_slots, .ref a_p1_others])), (a_p1_kinds, .inl (cI.1, 20, .inl c_p1_kinds)), (a_p1_slots, .inl (cI.1, 20, .inl c_p1_slots)), (a_p1_others, .inl (cI.1, 20, .inl c_p1_others))] : va_W))) ([.ref a_t, .ref a_p1, .int x2] : List Value).toArray s 0 0 A) (F0 m 6 ls []) := by
    intro n_6
    induction n_6 with
    | zero => intro x3 c_t_partners  hf; exact absurd hf (fun h => by cases h)
    | succ n_6 ih_6 =>
      intro x3 c_t_partners  hf H locs hP hD hS ls hl
      replace hf : m_X5_keepOnly_L6_b fu x2 f_p1_size c_p1_kinds c_p1_slots c_p1_others  (m_X5_keepOnly_L6 fu x2 f_p1_size c_p1_kinds c_p1_slots c_p1_others n_6) x3 c_t_partners = some r := hf
      unfold m_X5_keepOnly_L6_b at hf
      refine lv_iload_n hx hb dX5_keepOnly_6 rfl (lv_at hl 3 rfl) ?_
      refine lv_aload_n hx hb dX5_keepOnly_7 rfl (lv_at hl 1 rfl) ?_
      refine va_get (D := D) (ci := 8) (v := .int f_p1_size) (C := RX8) (T := TX8) (N := 5) hx hb hts (fun w h => zw_in (inX8 w h)) hown hK hP 2 rfl rfl 0 (by decide) (hts _ (zw_in kw_63)) (fun _ h9 => h9) rfl dX5_keepOnly_8 ?_
      refine lv_icmp_ge (tgt := 50) hx hb dX5_keepOnly_11 (by decide) (fun c_2 => ?_) (fun c_2 => ?_)
      · replace hf := zit hf c_2
        obtain rfl := Option.some.inj hf
        exact zret_v hx hb hr trivial () hP hD hS [0, 1, 2, 3, 4, 5] rfl (by decide) dX5_keepOnly_50 hlocks
      · replace hf := zif hf c_2
        refine lv_iload_n hx hb dX5_keepOnly_14 rfl (lv_at hl 2 rfl) ?_
        refine lv_iload_n hx hb dX5_keepOnly_15 rfl (lv_at hl 3 rfl) ?_
        obtain ⟨u_3, e_3, hf⟩ := zbd hf
        refine zcall_i (wr := [(a_t, .inr (5, [.ref a_t_partners])), (a_t_partners, .inl (cI.1, 30, .inl c_t_partners)), (a_p1, .inr (8, [.int f_p1_size, .int f_p1_on, .ref a_p1_kinds, .ref a_p1_slots, .ref a_p1_others])), (a_p1_kinds, .inl (cI.1, 20, .inl c_p1_kinds)), (a_p1_slots, .inl (cI.1, 20, .inl c_p1_slots)), (a_p1_others, .inl (cI.1, 20, .inl c_p1_others))]) (va_runSN (As := [.int x2, .int x3]) (rest := []) ⟨hx, hb, hml, hown, hts⟩ (c_X9_holds l D cI H.size x2 x3 u_3 e_3) ⟨va_cnB 2 hts (zG_B kw_7) rfl rfl rfl (hE.1 _ kn_4) (hts _ (zw_in kw_3)) hd_X9_holds ⟨Nat.le_of_ble_eq_true rfl, Nat.le_of_ble_eq_true rfl⟩, hts _ (zw_in kw_9), trivial⟩ ⟨zblind, zpre hP hD hK hE [] rfl (by decide)⟩ rfl rfl hl.1 rfl (lv_room (Nat.le_of_ble_eq_true rfl)) dX5_keepOnly_16 ⟨Nat.le_of_ble_eq_true rfl, Nat.le_of_ble_eq_true rfl⟩) hP hD hS hA [] [0, 1, 2, 3, 4, 5] rfl rfl (by decide) (by decide) (fun r9 uu H locs hX9 hP hD hS => ?_)
        obtain ⟨hX8, hb_3⟩ := hX9
        obtain rfl := hX8.symm
        have hP : va_P D vwCl [(a_t, .inr (5, [.ref a_t_partners])), (a_t_partners, .inl (cI.1, 30, .inl c_t_partners)), (a_p1, .inr (8, [.int f_p1_size, .int f_p1_on, .ref a_p1_kinds, .ref a_p1_slots, .ref a_p1_others])), (a_p1_kinds, .inl (cI.1, 20, .inl c_p1_kinds)), (a_p1_slots, .inl (cI.1, 20, .inl c_p1_slots)), (a_p1_others, .inl (cI.1, 20, .inl c_p1_others))] H := hP
        have hD : va_D A [(a_t, .inr (5, [.ref a_t_partners])), (a_t_partners, .inl (cI.1, 30, .inl c_t_partners)), (a_p1, .inr (8, [.int f_p1_size, .int f_p1_on, .ref a_p1_kinds, .ref a_p1_slots, .ref a_p1_others])), (a_p1_kinds, .inl (cI.1, 20, .inl c_p1_kinds)), (a_p1_slots, .inl (cI.1, 20, .inl c_p1_slots)), (a_p1_others, .inl (cI.1, 20, .inl c_p1_others))] := hD
        refine lv_if_eq (tgt := 44) hx hb dX5_keepOnly_19 (by decide) (fun c_4 => ?_) (fun c_4 => ?_)
        · replace hf := zit hf c_4
          refine lv_iinc (v := x3 + 1) (lv' := [(3, .int (x3 + 1)), (0, .ref a_t), (1, .ref a_p1), (2, .int x2)]) hx hb dX5_keepOnly_44 hl (k := 3) rfl rfl (by decide) rfl (fun ls hl => ?_)
          refine lv_goto (tgt := 6) hx hb dX5_keepOnly_47 (by decide) ?_
          exact ih_6 (x3 + 1) c_t_partners  hf _ _ (hP.sub [0, 1, 2, 3, 4, 5] rfl) (hD.sub [0, 1, 2, 3, 4, 5] (by decide) rfl) hS _ (lv_sub hl [1, 2, 3, 0] rfl)
        · replace hf := zif hf c_4
          refine lv_aload_n hx hb dX5_keepOnly_22 rfl (lv_at hl 0 rfl) ?_
          refine lv_aload_n hx hb dX5_keepOnly_23 rfl (lv_at hl 1 rfl) ?_
          refine va_get (D := D) (ci := 8) (v := .ref a_p1_kinds) (C := RX8) (T := TX8) (N := 5) hx hb hts (fun w h => zw_in (inX8 w h)) hown hK hP 2 rfl rfl 2 (by decide) (hts _ (zw_in kw_64)) (fun _ h9 => h9) rfl dX5_keepOnly_24 ?_
          refine lv_iload_n hx hb dX5_keepOnly_27 rfl (lv_at hl 3 rfl) ?_
          obtain ⟨b_5, hf⟩ := zib hf
          refine va_iald hx hb hK hP 3 0 (cA := cI.1) rfl rfl b_5 dX5_keepOnly_28 ?_
          refine lv_aload_n hx hb dX5_keepOnly_29 rfl (lv_at hl 1 rfl) ?_
          refine va_get (D := D) (ci := 8) (v := .ref a_p1_slots) (C := RX8) (T := TX8) (N := 5) hx hb hts (fun w h => zw_in (inX8 w h)) hown hK hP 2 rfl rfl 3 (by decide) (hts _ (zw_in kw_65)) (fun _ h9 => h9) rfl dX5_keepOnly_30 ?_
          refine lv_iload_n hx hb dX5_keepOnly_33 rfl (lv_at hl 3 rfl) ?_
          refine va_iald hx hb hK hP 4 0 (cA := cI.1) rfl rfl b_5 dX5_keepOnly_34 ?_
          refine lv_aload_n hx hb dX5_keepOnly_35 rfl (lv_at hl 1 rfl) ?_
          refine va_get (D := D) (ci := 8) (v := .ref a_p1_others) (C := RX8) (T := TX8) (N := 5) hx hb hts (fun w h => zw_in (inX8 w h)) hown hK hP 2 rfl rfl 4 (by decide) (hts _ (zw_in kw_66)) (fun _ h9 => h9) rfl dX5_keepOnly_36 ?_
          refine lv_iload_n hx hb dX5_keepOnly_39 rfl (lv_at hl 3 rfl) ?_
          refine va_iald hx hb hK hP 5 0 (cA := cI.1) rfl rfl b_5 dX5_keepOnly_40 ?_
          obtain ⟨u_6, e_6, hf⟩ := zbd hf
          refine zcall_v (wr := [(a_p1, .inr (8, [.int f_p1_size, .int f_p1_on, .ref a_p1_kinds, .ref a_p1_slots, .ref a_p1_others])), (a_p1_kinds, .inl (cI.1, 20, .inl c_p1_kinds)), (a_p1_slots, .inl (cI.1, 20, .inl c_p1_slots)), (a_p1_others, .inl (cI.1, 20, .inl c_p1_others))]) (va_runV (As := [.int (c_p1_kinds (x3).toNatClampNeg), .int (c_p1_slots (x3).toNatClampNeg), .int (c_p1_others (x3).toNatClampNeg)]) (rest := []) ⟨hx, hb, hml, hown, hts⟩ (c_X5_keep l D cI H.size a_t a_t_partners fu c_t_partners (c_p1_kinds (x3).toNatClampNeg) (c_p1_slots (x3).toNatClampNeg) (c_p1_others (x3).toNatClampNeg) u_6 e_6) (cwV 3 hts (zG_V kw_68 kw_69 kw_70 kw_54 kw_67) rfl rfl rfl ⟨rfl, hd_X5_keep⟩ ⟨Nat.le_of_ble_eq_true rfl, Nat.le_of_ble_eq_true rfl⟩) ⟨zblind, va_recv hK hP (ci := 5) (q0 := 0) rfl rfl, zpre hP hD hK hE [0, 1] rfl (by decide)⟩ rfl rfl hl.1 rfl (lv_room (Nat.le_of_ble_eq_true rfl)) dX5_keepOnly_41 ⟨Nat.le_of_ble_eq_true rfl, Nat.le_of_ble_eq_true rfl⟩) hP hD hS hA [0, 1] [2, 3, 4, 5] rfl rfl (by decide) (by decide) (fun uu H locs hX9 hP hD hS => ?_)
          have hP : va_P D vwCl [(a_p1, .inr (8, [.int f_p1_size, .int f_p1_on, .ref a_p1_kinds, .ref a_p1_slots, .ref a_p1_others])), (a_p1_kinds, .inl (cI.1, 20, .inl c_p1_kinds)), (a_p1_slots, .inl (cI.1, 20, .inl c_p1_slots)), (a_p1_others, .inl (cI.1, 20, .inl c_p1_others)), (a_t, .inr (5, [.ref a_t_partners])), (a_t_partners, .inl (cI.1, 30, .inl u_6.2))] H := hP
          have hD : va_D A [(a_p1, .inr (8, [.int f_p1_size, .int f_p1_on, .ref a_p1_kinds, .ref a_p1_slots, .ref a_p1_others])), (a_p1_kinds, .inl (cI.1, 20, .inl c_p1_kinds)), (a_p1_slots, .inl (cI.1, 20, .inl c_p1_slots)), (a_p1_others, .inl (cI.1, 20, .inl c_p1_others)), (a_t, .inr (5, [.ref a_t_partners])), (a_t_partners, .inl (cI.1, 30, .inl u_6.2))] := hD
          refine lv_iinc (v := x3 + 1) (lv' := [(3, .int (x3 + 1)), (0, .ref a_t), (1, .ref a_p1), (2, .int x2)]) hx hb dX5_keepOnly_44 hl (k := 3) rfl rfl (by decide) rfl (fun ls hl => ?_)
          refine lv_goto (tgt := 6) hx hb dX5_keepOnly_47 (by decide) ?_
          exact ih_6 (x3 + 1) u_6.2  hf _ _ (hP.sub [4, 5, 0, 1, 2, 3] rfl) (hD.sub [4, 5, 0, 1, 2, 3] (by decide) rfl) hS _ (lv_sub hl [1, 2, 3, 0] rfl)
  refine lv_aload_n hx hb dX5_keepOnly_0 rfl (lv_at hl 0 rfl) ?_
  obtain ⟨u_1, e_1, hf⟩ := zbd hf
  refine zcall_v (wr := [(a_p1, .inr (8, [.int f_p1_size, .int f_p1_on, .ref a_p1_kinds, .ref a_p1_slots, .ref a_p1_others])), (a_p1_kinds, .inl (cI.1, 20, .inl c_p1_kinds)), (a_p1_slots, .inl (cI.1, 20, .inl c_p1_slots)), (a_p1_others, .inl (cI.1, 20, .inl c_p1_others))]) (va_runV (As := []) (rest := []) ⟨hx, hb, hml, hown, hts⟩ (c_X5_forget l D cI H.size a_t a_t_partners fu c_t_partners u_1 e_1) (cwV 0 hts (zG_V kw_51 kw_52 kw_53 kw_54 kw_50) rfl rfl rfl ⟨rfl, hd_X5_forget⟩ ⟨Nat.le_of_ble_eq_true rfl, Nat.le_of_ble_eq_true rfl⟩) ⟨zblind, va_recv hK hP (ci := 5) (q0 := 0) rfl rfl, zpre hP hD hK hE [0, 1] rfl (by decide)⟩ rfl rfl hl.1 rfl (lv_room (Nat.le_of_ble_eq_true rfl)) dX5_keepOnly_1 ⟨Nat.le_of_ble_eq_true rfl, Nat.le_of_ble_eq_true rfl⟩) hP hD hS hA [0, 1] [2, 3, 4, 5] rfl rfl (by decide) (by decide) (fun uu H locs hX9 hP hD hS => ?_)
  have hP : va_P D vwCl [(a_p1, .inr (8, [.int f_p1_size, .int f_p1_on, .ref a_p1_kinds, .ref a_p1_slots, .ref a_p1_others])), (a_p1_kinds, .inl (cI.1, 20, .inl c_p1_kinds)), (a_p1_slots, .inl (cI.1, 20, .inl c_p1_slots)), (a_p1_others, .inl (cI.1, 20, .inl c_p1_others)), (a_t, .inr (5, [.ref a_t_partners])), (a_t_partners, .inl (cI.1, 30, .inl u_1.2))] H := hP
  have hD : va_D A [(a_p1, .inr (8, [.int f_p1_size, .int f_p1_on, .ref a_p1_kinds, .ref a_p1_slots, .ref a_p1_others])), (a_p1_kinds, .inl (cI.1, 20, .inl c_p1_kinds)), (a_p1_slots, .inl (cI.1, 20, .inl c_p1_slots)), (a_p1_others, .inl (cI.1, 20, .inl c_p1_others)), (a_t, .inr (5, [.ref a_t_partners])), (a_t_partners, .inl (cI.1, 30, .inl u_1.2))] := hD
  refine lv_iconst (v := 0) hx hb dX5_keepOnly_4 (by decide) ?_
  refine lv_istore_n (lv' := [(3, .int 0), (0, .ref a_t), (1, .ref a_p1), (2, .int x2)]) hx hb dX5_keepOnly_5 rfl hl (by decide) rfl (fun ls hl => ?_)
  exact w_L6 fu (0 : Int32) u_1.2  hf _ _ (hP.sub [4, 5, 0, 1, 2, 3] rfl) (hD.sub [4, 5, 0, 1, 2, 3] (by decide) rfl) hS _ (lv_sub hl [1, 2, 3, 0] rfl)
noncomputable def m_X5_leaveSomeFrom_L10_b (rec : (Nat → Int32) → Int32 → Int32 → Int32 → Option (Int32)) (fu : Nat) (x1 : Int32) (x2 : Int32) (x3 : Int32) (c_p1 : Nat → Int32)  (k10 : Int32 → Option (Int32)) (x4 : Int32) : Option (Int32) :=
  if (5 : Int32) ≤ x4 then some (0 : Int32) else (m_X9_slotOf x2 x4).bind fun u_3 => (m_X9_holds x3 u_3).bind fun u_4 => if u_4 = (0 : Int32) then k10 (x4 + 1) else if u_3 < 0 ∨ 30 ≤ (u_3).toNatClampNeg then none else (m_X9_isSomeLeftFrom fu (x2 + (1 : Int32)) x1 (x3 &&& (c_p1 (u_3).toNatClampNeg))).bind fun u_7 => if u_7 = (0 : Int32) then k10 (x4 + 1) else (rec c_p1 x1 (x2 + (1 : Int32)) (x3 &&& (c_p1 (u_3).toNatClampNeg))).bind fun u_9 => if u_9 = (0 : Int32) then k10 (x4 + 1) else some (1 : Int32)
noncomputable def m_X5_leaveSomeFrom_L10 (rec : (Nat → Int32) → Int32 → Int32 → Int32 → Option (Int32)) (fu : Nat) (x1 : Int32) (x2 : Int32) (x3 : Int32) (c_p1 : Nat → Int32)  (n : Nat) : Int32 → Option (Int32) :=
  Nat.rec (motive := fun _ => Int32 → Option (Int32)) (fun _ => none) (fun _ ih => m_X5_leaveSomeFrom_L10_b rec fu x1 x2 x3 c_p1  ih) n
noncomputable def m_X5_leaveSomeFrom_b (rec : (Nat → Int32) → Int32 → Int32 → Int32 → Option (Int32)) (fu : Nat) (c_p1 : Nat → Int32) (x1 : Int32) (x2 : Int32) (x3 : Int32) : Option (Int32) :=
  if x2 < x1 then m_X5_leaveSomeFrom_L10 rec fu x1 x2 x3 c_p1 fu (0 : Int32) else some (1 : Int32)
noncomputable def m_X5_leaveSomeFrom (d : Nat) (fu : Nat) : (Nat → Int32) → Int32 → Int32 → Int32 → Option (Int32) :=
  Nat.rec (motive := fun _ => (Nat → Int32) → Int32 → Int32 → Int32 → Option (Int32)) (fun _ _ _ _ => none) (fun _ ih => m_X5_leaveSomeFrom_b ih fu) d
def rm_X5_leaveSomeFrom (d : Nat) : Room := { frames := d + 2, cells := 0, slots := 0, locals := 26 * d + 44 }
theorem hd_X5_leaveSomeFrom : yX5_leaveSomeFrom.cls ≠ "java/lang/invoke/MethodHandle" ∧ yX5_leaveSomeFrom.cls ≠ "java/lang/invoke/VarHandle" ∧ (parseMethodDescriptor yX5_leaveSomeFrom.desc).map (fun d => d.parameters.length) = some 4 := by decide +kernel
set_option maxHeartbeats 4000000 in
set_option maxRecDepth 100000 in
theorem ci_X5_leaveSomeFrom (l : Launch) (D : va_G) (cI : ClassId × ClassId) (d : Nat) : ∀ (sz : Nat) (a_p1 : Nat) (fu : Nat) (c_p1 : Nat → Int32) (x1 : Int32) (x2 : Int32) (x3 : Int32) (r : Int32) (hf : m_X5_leaveSomeFrom d fu c_p1 x1 x2 x3 = some r), Met l yX5_leaveSomeFrom (zw (Cond.code yX5_leaveSomeFrom cX5_leaveSomeFrom 7 (some .boolean))) (rm_X5_leaveSomeFrom d) (va_Pc [.ref a_p1, .int x1, .int x2, .int x3] (zA D cI [(a_p1, .inl (cI.1, 30, .inl c_p1))] sz)) (zQi D (va_A [(a_p1, .inl (cI.1, 30, .inl c_p1))] sz) (fun v => v = r ∧ narrow .boolean (.int v) = .int v) (fun (u : Unit) => ([(a_p1, .inl (cI.1, 30, .inl c_p1))] : va_W))) 0 0 (va_A [(a_p1, .inl (cI.1, 30, .inl c_p1))] sz) := by
  induction d with
  | zero => intro sz a_p1 fu c_p1 x1 x2 x3 r hf; exact absurd hf (fun h => by cases h)
  | succ d ih_rec =>
  intro sz a_p1 fu c_p1 x1 x2 x3 r hf
  replace hf : m_X5_leaveSomeFrom_b (m_X5_leaveSomeFrom d fu) fu c_p1 x1 x2 x3 = some r := hf
  unfold m_X5_leaveSomeFrom_b at hf
  refine zhead (C := RX5) (by decide +kernel) rfl ?_
  intro p e s m below meth c hx hb hr hlocks hml hown hnm hts hE hK H hP hS hD hA
  generalize va_A [(a_p1, .inl (cI.1, 30, .inl c_p1))] sz = A at hS hD hA ⊢
  have hl := lv_entry ([.ref a_p1, .int x1, .int x2, .int x3]) (n := 7) (Nat.le_of_ble_eq_true rfl)
  rw [lg_entry_eq]
  generalize (lg_sl ([.ref a_p1, .int x1, .int x2, .int x3]) ++ List.replicate (7 - (lg_sl ([.ref a_p1, .int x1, .int x2, .int x3])).length) Slot.unset).toArray = ls at hl ⊢
  have hl : lv_has ls 7 [(0, .ref a_p1), (1, .int x1), (2, .int x2), (3, .int x3)] := hl

  have w_L10 : ∀ (n : Nat) (x4 : Int32), m_X5_leaveSomeFrom_L10 (m_X5_leaveSomeFrom d fu) fu x1 x2 x3 c_p1 n x4 = some r → ∀ (H : Heap) (locs : List Loc), va_P D vwCl [(a_p1, .inl (cI.1, 30, .inl c_p1))] H → va_D A [(a_p1, .inl (cI.1, 30, .inl c_p1))] → va_S A s.heap H locs → ∀ ls : Array Slot, lv_has ls 7 [(0, .ref a_p1), (1, .int x1), (2, .int x2), (3, .int x3), (4, .int x4)] → W p l e (rm_X5_leaveSomeFrom (d + 1)) s m ([.ref a_p1, .int x1, .int x2, .int x3] : List Value).toArray below meth c H locs 0 0 (MQ below (zQi D A (fun v => v = r ∧ narrow .boolean (.int v) = .int v) (fun (u : Unit) => ([(a_p1, .inl (cI.1, 30, .inl c_p1))] : va_W))) ([.ref a_p1, .int x1, .int x2, .int x3] : List Value).toArray s 0 0 A) (F0 m 10 ls []) := by
    intro n_10
    induction n_10 with
    | zero => intro x4  hf; exact absurd hf (fun h => by cases h)
    | succ n_10 ih_10 =>
      intro x4  hf H locs hP hD hS ls hl
      replace hf : m_X5_leaveSomeFrom_L10_b (m_X5_leaveSomeFrom d fu) fu x1 x2 x3 c_p1  (m_X5_leaveSomeFrom_L10 (m_X5_leaveSomeFrom d fu) fu x1 x2 x3 c_p1 n_10) x4 = some r := hf
      unfold m_X5_leaveSomeFrom_L10_b at hf
      refine lv_iload hx hb dX5_leaveSomeFrom_10 (lv_at hl 4 rfl) ?_
      refine lv_iconst (v := 5) hx hb dX5_leaveSomeFrom_12 (by decide) ?_
      refine lv_icmp_ge (tgt := 74) hx hb dX5_leaveSomeFrom_13 (by decide) (fun c_2 => ?_) (fun c_2 => ?_)
      · replace hf := zit hf c_2
        refine lv_iconst (v := 0) hx hb dX5_leaveSomeFrom_74 (by decide) ?_
        obtain rfl := Option.some.inj hf
        exact zret_i hx hb hr rfl ⟨rfl, rfl⟩ () hP hD hS [0] rfl (by decide) dX5_leaveSomeFrom_75 hlocks
      · replace hf := zif hf c_2
        refine lv_iload_n hx hb dX5_leaveSomeFrom_16 rfl (lv_at hl 2 rfl) ?_
        refine lv_iload hx hb dX5_leaveSomeFrom_17 (lv_at hl 4 rfl) ?_
        obtain ⟨u_3, e_3, hf⟩ := zbd hf
        refine zcall_i (wr := [(a_p1, .inl (cI.1, 30, .inl c_p1))]) (va_runSN (As := [.int x2, .int x4]) (rest := []) ⟨hx, hb, hml, hown, hts⟩ (c_X9_slotOf l D cI H.size x2 x4 u_3 e_3) ⟨va_cnB 2 hts (zG_B kw_0) rfl rfl rfl (hE.1 _ kn_5) (hts _ (zw_in kw_3)) hd_X9_slotOf ⟨Nat.le_of_ble_eq_true rfl, Nat.le_of_ble_eq_true rfl⟩, hts _ (zw_in kw_2), trivial⟩ ⟨zblind, zpre hP hD hK hE [] rfl (by decide)⟩ rfl rfl hl.1 rfl (lv_room (Nat.le_of_ble_eq_true rfl)) dX5_leaveSomeFrom_19 ⟨Nat.le_of_ble_eq_true rfl, Nat.le_of_ble_eq_true rfl⟩) hP hD hS hA [] [0] rfl rfl (by decide) (by decide) (fun r9 uu H locs hX9 hP hD hS => ?_)
        obtain rfl := hX9.symm
        have hP : va_P D vwCl [(a_p1, .inl (cI.1, 30, .inl c_p1))] H := hP
        have hD : va_D A [(a_p1, .inl (cI.1, 30, .inl c_p1))] := hD
        refine lv_istore (lv' := [(5, .int u_3), (0, .ref a_p1), (1, .int x1), (2, .int x2), (3, .int x3), (4, .int x4)]) hx hb dX5_leaveSomeFrom_22 hl (by decide) rfl (fun ls hl => ?_)
        refine lv_iload_n hx hb dX5_leaveSomeFrom_24 rfl (lv_at hl 4 rfl) ?_
        refine lv_iload hx hb dX5_leaveSomeFrom_25 (lv_at hl 0 rfl) ?_
        obtain ⟨u_4, e_4, hf⟩ := zbd hf
        refine zcall_i (wr := [(a_p1, .inl (cI.1, 30, .inl c_p1))]) (va_runSN (As := [.int x3, .int u_3]) (rest := []) ⟨hx, hb, hml, hown, hts⟩ (c_X9_holds l D cI H.size x3 u_3 u_4 e_4) ⟨va_cnB 2 hts (zG_B kw_7) rfl rfl rfl (hE.1 _ kn_4) (hts _ (zw_in kw_3)) hd_X9_holds ⟨Nat.le_of_ble_eq_true rfl, Nat.le_of_ble_eq_true rfl⟩, hts _ (zw_in kw_9), trivial⟩ ⟨zblind, zpre hP hD hK hE [] rfl (by decide)⟩ rfl rfl hl.1 rfl (lv_room (Nat.le_of_ble_eq_true rfl)) dX5_leaveSomeFrom_27 ⟨Nat.le_of_ble_eq_true rfl, Nat.le_of_ble_eq_true rfl⟩) hP hD hS hA [] [0] rfl rfl (by decide) (by decide) (fun r9 uu H locs hX9 hP hD hS => ?_)
        obtain ⟨hX8, hb_4⟩ := hX9
        obtain rfl := hX8.symm
        have hP : va_P D vwCl [(a_p1, .inl (cI.1, 30, .inl c_p1))] H := hP
        have hD : va_D A [(a_p1, .inl (cI.1, 30, .inl c_p1))] := hD
        refine lv_if_eq (tgt := 68) hx hb dX5_leaveSomeFrom_30 (by decide) (fun c_5 => ?_) (fun c_5 => ?_)
        · replace hf := zit hf c_5
          refine lv_iinc (v := x4 + 1) (lv' := [(4, .int (x4 + 1)), (5, .int u_3), (0, .ref a_p1), (1, .int x1), (2, .int x2), (3, .int x3)]) hx hb dX5_leaveSomeFrom_68 hl (k := 5) rfl rfl (by decide) rfl (fun ls hl => ?_)
          refine lv_goto (tgt := 10) hx hb dX5_leaveSomeFrom_71 (by decide) ?_
          exact ih_10 (x4 + 1)  hf _ _ (hP.sub [0] rfl) (hD.sub [0] (by decide) rfl) hS _ (lv_sub hl [2, 3, 4, 5, 0] rfl)
        · replace hf := zif hf c_5
          refine lv_iload_n hx hb dX5_leaveSomeFrom_33 rfl (lv_at hl 4 rfl) ?_
          refine lv_aload_n hx hb dX5_leaveSomeFrom_34 rfl (lv_at hl 1 rfl) ?_
          refine lv_iload hx hb dX5_leaveSomeFrom_35 (lv_at hl 0 rfl) ?_
          obtain ⟨b_6, hf⟩ := zib hf
          refine va_iald hx hb hK hP 0 0 (cA := cI.1) rfl rfl b_6 dX5_leaveSomeFrom_37 ?_
          refine lv_iand hx hb dX5_leaveSomeFrom_38 ?_
          refine lv_istore (lv' := [(6, .int (x3 &&& (c_p1 (u_3).toNatClampNeg))), (5, .int u_3), (0, .ref a_p1), (1, .int x1), (2, .int x2), (3, .int x3), (4, .int x4)]) hx hb dX5_leaveSomeFrom_39 hl (by decide) rfl (fun ls hl => ?_)
          refine lv_iload_n hx hb dX5_leaveSomeFrom_41 rfl (lv_at hl 4 rfl) ?_
          refine lv_iconst (v := 1) hx hb dX5_leaveSomeFrom_42 (by decide) ?_
          refine lv_iadd hx hb dX5_leaveSomeFrom_43 ?_
          refine lv_iload_n hx hb dX5_leaveSomeFrom_44 rfl (lv_at hl 3 rfl) ?_
          refine lv_iload hx hb dX5_leaveSomeFrom_45 (lv_at hl 0 rfl) ?_
          obtain ⟨u_7, e_7, hf⟩ := zbd hf
          refine zcall_i (wr := [(a_p1, .inl (cI.1, 30, .inl c_p1))]) (va_runSN (As := [.int (x2 + (1 : Int32)), .int x1, .int (x3 &&& (c_p1 (u_3).toNatClampNeg))]) (rest := []) ⟨hx, hb, hml, hown, hts⟩ (c_X9_isSomeLeftFrom l D cI H.size fu (x2 + (1 : Int32)) x1 (x3 &&& (c_p1 (u_3).toNatClampNeg)) u_7 e_7) ⟨va_cnB 3 hts (zG_B kw_71) rfl rfl rfl (hE.1 _ kn_6) (hts _ (zw_in kw_3)) hd_X9_isSomeLeftFrom ⟨Nat.le_of_ble_eq_true rfl, Nat.le_of_ble_eq_true rfl⟩, hts _ (zw_in kw_72), trivial⟩ ⟨zblind, zpre hP hD hK hE [] rfl (by decide)⟩ rfl rfl hl.1 rfl (lv_room (Nat.le_of_ble_eq_true rfl)) dX5_leaveSomeFrom_47 ⟨Nat.le_of_ble_eq_true rfl, Nat.le_of_ble_eq_true rfl⟩) hP hD hS hA [] [0] rfl rfl (by decide) (by decide) (fun r9 uu H locs hX9 hP hD hS => ?_)
          obtain ⟨hX8, hb_7⟩ := hX9
          obtain rfl := hX8.symm
          have hP : va_P D vwCl [(a_p1, .inl (cI.1, 30, .inl c_p1))] H := hP
          have hD : va_D A [(a_p1, .inl (cI.1, 30, .inl c_p1))] := hD
          refine lv_if_eq (tgt := 68) hx hb dX5_leaveSomeFrom_50 (by decide) (fun c_8 => ?_) (fun c_8 => ?_)
          · replace hf := zit hf c_8
            refine lv_iinc (v := x4 + 1) (lv' := [(4, .int (x4 + 1)), (6, .int (x3 &&& (c_p1 (u_3).toNatClampNeg))), (5, .int u_3), (0, .ref a_p1), (1, .int x1), (2, .int x2), (3, .int x3)]) hx hb dX5_leaveSomeFrom_68 hl (k := 6) rfl rfl (by decide) rfl (fun ls hl => ?_)
            refine lv_goto (tgt := 10) hx hb dX5_leaveSomeFrom_71 (by decide) ?_
            exact ih_10 (x4 + 1)  hf _ _ (hP.sub [0] rfl) (hD.sub [0] (by decide) rfl) hS _ (lv_sub hl [3, 4, 5, 6, 0] rfl)
          · replace hf := zif hf c_8
            refine lv_aload_n hx hb dX5_leaveSomeFrom_53 rfl (lv_at hl 2 rfl) ?_
            refine lv_iload_n hx hb dX5_leaveSomeFrom_54 rfl (lv_at hl 3 rfl) ?_
            refine lv_iload_n hx hb dX5_leaveSomeFrom_55 rfl (lv_at hl 4 rfl) ?_
            refine lv_iconst (v := 1) hx hb dX5_leaveSomeFrom_56 (by decide) ?_
            refine lv_iadd hx hb dX5_leaveSomeFrom_57 ?_
            refine lv_iload hx hb dX5_leaveSomeFrom_58 (lv_at hl 0 rfl) ?_
            obtain ⟨u_9, e_9, hf⟩ := zbd hf
            refine zcall_i (wr := []) (va_runS (As := [.ref a_p1, .int x1, .int (x2 + (1 : Int32)), .int (x3 &&& (c_p1 (u_3).toNatClampNeg))]) (rest := []) ⟨hx, hb, hml, hown, hts⟩ (ih_rec H.size a_p1 fu c_p1 x1 (x2 + (1 : Int32)) (x3 &&& (c_p1 (u_3).toNatClampNeg)) u_9 e_9) (va_cwS 4 hts (zG_S kw_74 kw_75 kw_54 kw_73) rfl rfl rfl hd_X5_leaveSomeFrom ⟨by show d + 2 + 1 ≤ d + 1 + 2; omega, by show 8 + (7 + 11) + (26 * d + 44) ≤ 26 * (d + 1) + 44; omega⟩) ⟨zblind, zpre hP hD hK hE [0] rfl (by decide)⟩ rfl rfl hl.1 rfl (lv_room (Nat.le_of_ble_eq_true rfl)) dX5_leaveSomeFrom_60 ⟨Nat.le_of_ble_eq_true rfl, Nat.le_of_ble_eq_true rfl⟩) hP hD hS hA [0] [] rfl rfl (by decide) (by decide) (fun r9 uu H locs hX9 hP hD hS => ?_)
            obtain ⟨hX8, hb_9⟩ := hX9
            obtain rfl := hX8.symm
            have hP : va_P D vwCl [(a_p1, .inl (cI.1, 30, .inl c_p1))] H := hP
            have hD : va_D A [(a_p1, .inl (cI.1, 30, .inl c_p1))] := hD
            refine lv_if_eq (tgt := 68) hx hb dX5_leaveSomeFrom_63 (by decide) (fun c_10 => ?_) (fun c_10 => ?_)
            · replace hf := zit hf c_10
              refine lv_iinc (v := x4 + 1) (lv' := [(4, .int (x4 + 1)), (6, .int (x3 &&& (c_p1 (u_3).toNatClampNeg))), (5, .int u_3), (0, .ref a_p1), (1, .int x1), (2, .int x2), (3, .int x3)]) hx hb dX5_leaveSomeFrom_68 hl (k := 6) rfl rfl (by decide) rfl (fun ls hl => ?_)
              refine lv_goto (tgt := 10) hx hb dX5_leaveSomeFrom_71 (by decide) ?_
              exact ih_10 (x4 + 1)  hf _ _ (hP.sub [0] rfl) (hD.sub [0] (by decide) rfl) hS _ (lv_sub hl [3, 4, 5, 6, 0] rfl)
            · replace hf := zif hf c_10
              refine lv_iconst (v := 1) hx hb dX5_leaveSomeFrom_66 (by decide) ?_
              obtain rfl := Option.some.inj hf
              exact zret_i hx hb hr rfl ⟨rfl, rfl⟩ () hP hD hS [0] rfl (by decide) dX5_leaveSomeFrom_67 hlocks
  refine lv_iload_n hx hb dX5_leaveSomeFrom_0 rfl (lv_at hl 2 rfl) ?_
  refine lv_iload_n hx hb dX5_leaveSomeFrom_1 rfl (lv_at hl 1 rfl) ?_
  refine lv_icmp_lt (tgt := 7) hx hb dX5_leaveSomeFrom_2 (by decide) (fun c_1 => ?_) (fun c_1 => ?_)
  · replace hf := zit hf c_1
    refine lv_iconst (v := 0) hx hb dX5_leaveSomeFrom_7 (by decide) ?_
    refine lv_istore (lv' := [(4, .int 0), (0, .ref a_p1), (1, .int x1), (2, .int x2), (3, .int x3)]) hx hb dX5_leaveSomeFrom_8 hl (by decide) rfl (fun ls hl => ?_)
    exact w_L10 fu (0 : Int32)  hf _ _ (hP.sub [0] rfl) (hD.sub [0] (by decide) rfl) hS _ (lv_sub hl [1, 2, 3, 4, 0] rfl)
  · replace hf := zif hf c_1
    refine lv_iconst (v := 1) hx hb dX5_leaveSomeFrom_5 (by decide) ?_
    obtain rfl := Option.some.inj hf
    exact zret_i hx hb hr rfl ⟨rfl, rfl⟩ () hP hD hS [0] rfl (by decide) dX5_leaveSomeFrom_6 hlocks
theorem c_X5_leaveSomeFrom (l : Launch) (D : va_G) (cI : ClassId × ClassId) (sz : Nat) (d : Nat) (a_p1 : Nat) (fu : Nat) (c_p1 : Nat → Int32) (x1 : Int32) (x2 : Int32) (x3 : Int32) (r : Int32) (hf : m_X5_leaveSomeFrom d fu c_p1 x1 x2 x3 = some r) : Met l yX5_leaveSomeFrom (zw (Cond.code yX5_leaveSomeFrom cX5_leaveSomeFrom 7 (some .boolean))) (rm_X5_leaveSomeFrom d) (va_Pc [.ref a_p1, .int x1, .int x2, .int x3] (zA D cI [(a_p1, .inl (cI.1, 30, .inl c_p1))] sz)) (zQi D (va_A [(a_p1, .inl (cI.1, 30, .inl c_p1))] sz) (fun v => v = r ∧ narrow .boolean (.int v) = .int v) (fun (u : Unit) => ([(a_p1, .inl (cI.1, 30, .inl c_p1))] : va_W))) 0 0 (va_A [(a_p1, .inl (cI.1, 30, .inl c_p1))] sz) := ci_X5_leaveSomeFrom l D cI d sz a_p1 fu c_p1 x1 x2 x3 r hf
noncomputable def m_X5_leaveSome (fu : Nat) (c_t_partners : Nat → Int32) (x1 : Int32) (x2 : Int32) : Option (Int32) :=
  (m_X5_leaveSomeFrom 7 fu c_t_partners x2 (0 : Int32) x1).bind fun u_1 => some u_1
def rm_X5_leaveSome : Room := { frames := 10, cells := 0, slots := 0, locals := 252 }
theorem hd_X5_leaveSome : yX5_leaveSome.cls ≠ "java/lang/invoke/MethodHandle" ∧ yX5_leaveSome.cls ≠ "java/lang/invoke/VarHandle" ∧ (parseMethodDescriptor yX5_leaveSome.desc).map (fun d => d.parameters.length) = some 2 := by decide +kernel
set_option maxHeartbeats 4000000 in
set_option maxRecDepth 100000 in
theorem c_X5_leaveSome (l : Launch) (D : va_G) (cI : ClassId × ClassId) (sz : Nat) (a_t : Nat) (a_t_partners : Nat) (fu : Nat) (c_t_partners : Nat → Int32) (x1 : Int32) (x2 : Int32) (r : Int32) (hf : m_X5_leaveSome fu c_t_partners x1 x2 = some r) : Met l yX5_leaveSome (zw (Cond.code yX5_leaveSome cX5_leaveSome 3 (some .boolean))) rm_X5_leaveSome (va_Pc [.ref a_t, .int x1, .int x2] (zA D cI [(a_t, .inr (5, [.ref a_t_partners])), (a_t_partners, .inl (cI.1, 30, .inl c_t_partners))] sz)) (zQi D (va_A [(a_t, .inr (5, [.ref a_t_partners])), (a_t_partners, .inl (cI.1, 30, .inl c_t_partners))] sz) (fun v => v = r ∧ narrow .boolean (.int v) = .int v) (fun (u : Unit) => ([(a_t, .inr (5, [.ref a_t_partners])), (a_t_partners, .inl (cI.1, 30, .inl c_t_partners))] : va_W))) 0 0 (va_A [(a_t, .inr (5, [.ref a_t_partners])), (a_t_partners, .inl (cI.1, 30, .inl c_t_partners))] sz) := by
  unfold m_X5_leaveSome at hf
  refine zhead (C := RX5) (by decide +kernel) rfl ?_
  intro p e s m below meth c hx hb hr hlocks hml hown hnm hts hE hK H hP hS hD hA
  generalize va_A [(a_t, .inr (5, [.ref a_t_partners])), (a_t_partners, .inl (cI.1, 30, .inl c_t_partners))] sz = A at hS hD hA ⊢
  have hl := lv_entry ([.ref a_t, .int x1, .int x2]) (n := 3) (Nat.le_of_ble_eq_true rfl)
  rw [lg_entry_eq]
  generalize (lg_sl ([.ref a_t, .int x1, .int x2]) ++ List.replicate (3 - (lg_sl ([.ref a_t, .int x1, .int x2])).length) Slot.unset).toArray = ls at hl ⊢
  have hl : lv_has ls 3 [(0, .ref a_t), (1, .int x1), (2, .int x2)] := hl

  refine lv_aload_n hx hb dX5_leaveSome_0 rfl (lv_at hl 0 rfl) ?_
  refine va_get (D := D) (ci := 5) (v := .ref a_t_partners) (C := RX5) (T := TX5) (N := 1) hx hb hts (fun w h => zw_in (inX5 w h)) hown hK hP 0 rfl rfl 0 (by decide) (hts _ (zw_in kw_48)) (fun _ h9 => h9) rfl dX5_leaveSome_1 ?_
  refine lv_iload_n hx hb dX5_leaveSome_4 rfl (lv_at hl 2 rfl) ?_
  refine lv_iconst (v := 0) hx hb dX5_leaveSome_5 (by decide) ?_
  refine lv_iload_n hx hb dX5_leaveSome_6 rfl (lv_at hl 1 rfl) ?_
  obtain ⟨u_1, e_1, hf⟩ := zbd hf
  refine zcall_i (wr := [(a_t, .inr (5, [.ref a_t_partners]))]) (va_runS (As := [.ref a_t_partners, .int x2, .int 0, .int x1]) (rest := []) ⟨hx, hb, hml, hown, hts⟩ (c_X5_leaveSomeFrom l D cI H.size 7 a_t_partners fu c_t_partners x2 (0 : Int32) x1 u_1 e_1) (va_cwS 4 hts (zG_S kw_74 kw_75 kw_54 kw_73) rfl rfl rfl hd_X5_leaveSomeFrom ⟨Nat.le_of_ble_eq_true rfl, Nat.le_of_ble_eq_true rfl⟩) ⟨zblind, zpre hP hD hK hE [1] rfl (by decide)⟩ rfl rfl hl.1 rfl (lv_room (Nat.le_of_ble_eq_true rfl)) dX5_leaveSome_7 ⟨Nat.le_of_ble_eq_true rfl, Nat.le_of_ble_eq_true rfl⟩) hP hD hS hA [1] [0] rfl rfl (by decide) (by decide) (fun r9 uu H locs hX9 hP hD hS => ?_)
  obtain ⟨hX8, hb_1⟩ := hX9
  obtain rfl := hX8.symm
  have hP : va_P D vwCl [(a_t, .inr (5, [.ref a_t_partners])), (a_t_partners, .inl (cI.1, 30, .inl c_t_partners))] H := hP
  have hD : va_D A [(a_t, .inr (5, [.ref a_t_partners])), (a_t_partners, .inl (cI.1, 30, .inl c_t_partners))] := hD
  obtain rfl := Option.some.inj hf
  exact zret_i hx hb hr hb_1 ⟨rfl, hb_1⟩ () hP hD hS [0, 1] rfl (by decide) dX5_leaveSome_10 hlocks
noncomputable def m_X5_narrow_L18_b (fu : Nat) (x1 : Int32) (x2 : Int32) (c_t_partners : Nat → Int32) (k5 : Int32 → Int32 → Option (Int32)) (k18 : Int32 → Int32 → Int32 → Int32 → Option (Int32)) (x3 : Int32) (x4 : Int32) (x5 : Int32) (x6 : Int32) : Option (Int32) :=
  if (30 : Int32) ≤ x6 then if x3 = x5 then some x3 else k5 x3 (x4 + 1) else (m_X9_holds x3 x6).bind fun u_4 => if u_4 = (0 : Int32) then k18 x3 x4 x5 (x6 + 1) else if x6 < 0 ∨ 30 ≤ (x6).toNatClampNeg then none else (m_X9_isSomeLeftFrom fu (0 : Int32) x2 (x3 &&& (c_t_partners (x6).toNatClampNeg))).bind fun u_7 => if u_7 = (0 : Int32) then k18 (x3 &&& (((1 : Int32) <<< (x6 &&& 31)) ^^^ (-1 : Int32))) x4 x5 (x6 + 1) else k18 x3 x4 x5 (x6 + 1)
noncomputable def m_X5_narrow_L18 (fu : Nat) (x1 : Int32) (x2 : Int32) (c_t_partners : Nat → Int32) (k5 : Int32 → Int32 → Option (Int32)) (n : Nat) : Int32 → Int32 → Int32 → Int32 → Option (Int32) :=
  Nat.rec (motive := fun _ => Int32 → Int32 → Int32 → Int32 → Option (Int32)) (fun _ _ _ _ => none) (fun _ ih => m_X5_narrow_L18_b fu x1 x2 c_t_partners k5  ih) n
noncomputable def m_X5_narrow_L5_b (fu : Nat) (x1 : Int32) (x2 : Int32) (c_t_partners : Nat → Int32)  (k5 : Int32 → Int32 → Option (Int32)) (x3 : Int32) (x4 : Int32) : Option (Int32) :=
  if (30 : Int32) ≤ x4 then some x3 else m_X5_narrow_L18 fu x1 x2 c_t_partners k5 fu x3 x4 x3 (0 : Int32)
noncomputable def m_X5_narrow_L5 (fu : Nat) (x1 : Int32) (x2 : Int32) (c_t_partners : Nat → Int32)  (n : Nat) : Int32 → Int32 → Option (Int32) :=
  Nat.rec (motive := fun _ => Int32 → Int32 → Option (Int32)) (fun _ _ => none) (fun _ ih => m_X5_narrow_L5_b fu x1 x2 c_t_partners  ih) n
noncomputable def m_X5_narrow (fu : Nat) (c_t_partners : Nat → Int32) (x1 : Int32) (x2 : Int32) : Option (Int32) :=
  m_X5_narrow_L5 fu x1 x2 c_t_partners fu x1 (0 : Int32)
def rm_X5_narrow : Room := { frames := 2, cells := 0, slots := 0, locals := 44 }
theorem hd_X5_narrow : yX5_narrow.cls ≠ "java/lang/invoke/MethodHandle" ∧ yX5_narrow.cls ≠ "java/lang/invoke/VarHandle" ∧ (parseMethodDescriptor yX5_narrow.desc).map (fun d => d.parameters.length) = some 2 := by decide +kernel
set_option maxHeartbeats 4000000 in
set_option maxRecDepth 100000 in
theorem c_X5_narrow (l : Launch) (D : va_G) (cI : ClassId × ClassId) (sz : Nat) (a_t : Nat) (a_t_partners : Nat) (fu : Nat) (c_t_partners : Nat → Int32) (x1 : Int32) (x2 : Int32) (r : Int32) (hf : m_X5_narrow fu c_t_partners x1 x2 = some r) : Met l yX5_narrow (zw (Cond.code yX5_narrow cX5_narrow 7 (some .int))) rm_X5_narrow (va_Pc [.ref a_t, .int x1, .int x2] (zA D cI [(a_t, .inr (5, [.ref a_t_partners])), (a_t_partners, .inl (cI.1, 30, .inl c_t_partners))] sz)) (zQi D (va_A [(a_t, .inr (5, [.ref a_t_partners])), (a_t_partners, .inl (cI.1, 30, .inl c_t_partners))] sz) (fun v => v = r) (fun (u : Unit) => ([(a_t, .inr (5, [.ref a_t_partners])), (a_t_partners, .inl (cI.1, 30, .inl c_t_partners))] : va_W))) 0 0 (va_A [(a_t, .inr (5, [.ref a_t_partners])), (a_t_partners, .inl (cI.1, 30, .inl c_t_partners))] sz) := by
  unfold m_X5_narrow at hf
  refine zhead (C := RX5) (by decide +kernel) rfl ?_
  intro p e s m below meth c hx hb hr hlocks hml hown hnm hts hE hK H hP hS hD hA
  generalize va_A [(a_t, .inr (5, [.ref a_t_partners])), (a_t_partners, .inl (cI.1, 30, .inl c_t_partners))] sz = A at hS hD hA ⊢
  have hl := lv_entry ([.ref a_t, .int x1, .int x2]) (n := 7) (Nat.le_of_ble_eq_true rfl)
  rw [lg_entry_eq]
  generalize (lg_sl ([.ref a_t, .int x1, .int x2]) ++ List.replicate (7 - (lg_sl ([.ref a_t, .int x1, .int x2])).length) Slot.unset).toArray = ls at hl ⊢
  have hl : lv_has ls 7 [(0, .ref a_t), (1, .int x1), (2, .int x2)] := hl

  have w_L5 : ∀ (n : Nat) (x3 : Int32) (x4 : Int32), m_X5_narrow_L5 fu x1 x2 c_t_partners n x3 x4 = some r → ∀ (H : Heap) (locs : List Loc), va_P D vwCl [(a_t, .inr (5, [.ref a_t_partners])), (a_t_partners, .inl (cI.1, 30, .inl c_t_partners))] H → va_D A [(a_t, .inr (5, [.ref a_t_partners])), (a_t_partners, .inl (cI.1, 30, .inl c_t_partners))] → va_S A s.heap H locs → ∀ ls : Array Slot, lv_has ls 7 [(0, .ref a_t), (1, .int x1), (2, .int x2), (3, .int x3), (4, .int x4)] → W p l e rm_X5_narrow s m ([.ref a_t, .int x1, .int x2] : List Value).toArray below meth c H locs 0 0 (MQ below (zQi D A (fun v => v = r) (fun (u : Unit) => ([(a_t, .inr (5, [.ref a_t_partners])), (a_t_partners, .inl (cI.1, 30, .inl c_t_partners))] : va_W))) ([.ref a_t, .int x1, .int x2] : List Value).toArray s 0 0 A) (F0 m 5 ls []) := by
    intro n_5
    induction n_5 with
    | zero => intro x3 x4  hf; exact absurd hf (fun h => by cases h)
    | succ n_5 ih_5 =>
      intro x3 x4  hf H locs hP hD hS ls hl
      replace hf : m_X5_narrow_L5_b fu x1 x2 c_t_partners  (m_X5_narrow_L5 fu x1 x2 c_t_partners n_5) x3 x4 = some r := hf
      unfold m_X5_narrow_L5_b at hf
      have w_L18 : ∀ (n : Nat) (x3 : Int32) (x4 : Int32) (x5 : Int32) (x6 : Int32), m_X5_narrow_L18 fu x1 x2 c_t_partners (m_X5_narrow_L5 fu x1 x2 c_t_partners n_5) n x3 x4 x5 x6 = some r → ∀ (H : Heap) (locs : List Loc), va_P D vwCl [(a_t, .inr (5, [.ref a_t_partners])), (a_t_partners, .inl (cI.1, 30, .inl c_t_partners))] H → va_D A [(a_t, .inr (5, [.ref a_t_partners])), (a_t_partners, .inl (cI.1, 30, .inl c_t_partners))] → va_S A s.heap H locs → ∀ ls : Array Slot, lv_has ls 7 [(0, .ref a_t), (1, .int x1), (2, .int x2), (3, .int x3), (4, .int x4), (5, .int x5), (6, .int x6)] → W p l e rm_X5_narrow s m ([.ref a_t, .int x1, .int x2] : List Value).toArray below meth c H locs 0 0 (MQ below (zQi D A (fun v => v = r) (fun (u : Unit) => ([(a_t, .inr (5, [.ref a_t_partners])), (a_t_partners, .inl (cI.1, 30, .inl c_t_partners))] : va_W))) ([.ref a_t, .int x1, .int x2] : List Value).toArray s 0 0 A) (F0 m 18 ls []) := by
        intro n_18
        induction n_18 with
        | zero => intro x3 x4 x5 x6  hf; exact absurd hf (fun h => by cases h)
        | succ n_18 ih_18 =>
          intro x3 x4 x5 x6  hf H locs hP hD hS ls hl
          replace hf : m_X5_narrow_L18_b fu x1 x2 c_t_partners (m_X5_narrow_L5 fu x1 x2 c_t_partners n_5) (m_X5_narrow_L18 fu x1 x2 c_t_partners (m_X5_narrow_L5 fu x1 x2 c_t_partners n_5) n_18) x3 x4 x5 x6 = some r := hf
          unfold m_X5_narrow_L18_b at hf
          refine lv_iload hx hb dX5_narrow_18 (lv_at hl 6 rfl) ?_
          refine lv_bipush (v := 30) hx hb dX5_narrow_20 (by decide) ?_
          refine lv_icmp_ge (tgt := 66) hx hb dX5_narrow_22 (by decide) (fun c_2 => ?_) (fun c_2 => ?_)
          · replace hf := zit hf c_2
            refine lv_iload_n hx hb dX5_narrow_66 rfl (lv_at hl 3 rfl) ?_
            refine lv_iload hx hb dX5_narrow_67 (lv_at hl 5 rfl) ?_
            refine lv_icmp_ne (tgt := 74) hx hb dX5_narrow_69 (by decide) (fun c_3 => ?_) (fun c_3 => ?_)
            · replace hf := zif hf c_3
              refine lv_iinc (v := x4 + 1) (lv' := [(4, .int (x4 + 1)), (0, .ref a_t), (1, .int x1), (2, .int x2), (3, .int x3), (5, .int x5), (6, .int x6)]) hx hb dX5_narrow_74 hl (k := 4) rfl rfl (by decide) rfl (fun ls hl => ?_)
              refine lv_goto (tgt := 5) hx hb dX5_narrow_77 (by decide) ?_
              exact ih_5 x3 (x4 + 1)  hf _ _ (hP.sub [0, 1] rfl) (hD.sub [0, 1] (by decide) rfl) hS _ (lv_sub hl [1, 2, 3, 4, 0] rfl)
            · replace hf := zit hf c_3
              refine lv_iload_n hx hb dX5_narrow_72 rfl (lv_at hl 3 rfl) ?_
              obtain rfl := Option.some.inj hf
              exact zret_i hx hb hr rfl rfl () hP hD hS [0, 1] rfl (by decide) dX5_narrow_73 hlocks
          · replace hf := zif hf c_2
            refine lv_iload_n hx hb dX5_narrow_25 rfl (lv_at hl 3 rfl) ?_
            refine lv_iload hx hb dX5_narrow_26 (lv_at hl 6 rfl) ?_
            obtain ⟨u_4, e_4, hf⟩ := zbd hf
            refine zcall_i (wr := [(a_t, .inr (5, [.ref a_t_partners])), (a_t_partners, .inl (cI.1, 30, .inl c_t_partners))]) (va_runSN (As := [.int x3, .int x6]) (rest := []) ⟨hx, hb, hml, hown, hts⟩ (c_X9_holds l D cI H.size x3 x6 u_4 e_4) ⟨va_cnB 2 hts (zG_B kw_7) rfl rfl rfl (hE.1 _ kn_4) (hts _ (zw_in kw_3)) hd_X9_holds ⟨Nat.le_of_ble_eq_true rfl, Nat.le_of_ble_eq_true rfl⟩, hts _ (zw_in kw_9), trivial⟩ ⟨zblind, zpre hP hD hK hE [] rfl (by decide)⟩ rfl rfl hl.1 rfl (lv_room (Nat.le_of_ble_eq_true rfl)) dX5_narrow_28 ⟨Nat.le_of_ble_eq_true rfl, Nat.le_of_ble_eq_true rfl⟩) hP hD hS hA [] [0, 1] rfl rfl (by decide) (by decide) (fun r9 uu H locs hX9 hP hD hS => ?_)
            obtain ⟨hX8, hb_4⟩ := hX9
            obtain rfl := hX8.symm
            have hP : va_P D vwCl [(a_t, .inr (5, [.ref a_t_partners])), (a_t_partners, .inl (cI.1, 30, .inl c_t_partners))] H := hP
            have hD : va_D A [(a_t, .inr (5, [.ref a_t_partners])), (a_t_partners, .inl (cI.1, 30, .inl c_t_partners))] := hD
            refine lv_if_eq (tgt := 60) hx hb dX5_narrow_31 (by decide) (fun c_5 => ?_) (fun c_5 => ?_)
            · replace hf := zit hf c_5
              refine lv_iinc (v := x6 + 1) (lv' := [(6, .int (x6 + 1)), (0, .ref a_t), (1, .int x1), (2, .int x2), (3, .int x3), (4, .int x4), (5, .int x5)]) hx hb dX5_narrow_60 hl (k := 6) rfl rfl (by decide) rfl (fun ls hl => ?_)
              refine lv_goto (tgt := 18) hx hb dX5_narrow_63 (by decide) ?_
              exact ih_18 x3 x4 x5 (x6 + 1)  hf _ _ (hP.sub [0, 1] rfl) (hD.sub [0, 1] (by decide) rfl) hS _ (lv_sub hl [1, 2, 3, 4, 5, 6, 0] rfl)
            · replace hf := zif hf c_5
              refine lv_iconst (v := 0) hx hb dX5_narrow_34 (by decide) ?_
              refine lv_iload_n hx hb dX5_narrow_35 rfl (lv_at hl 2 rfl) ?_
              refine lv_iload_n hx hb dX5_narrow_36 rfl (lv_at hl 3 rfl) ?_
              refine lv_aload_n hx hb dX5_narrow_37 rfl (lv_at hl 0 rfl) ?_
              refine va_get (D := D) (ci := 5) (v := .ref a_t_partners) (C := RX5) (T := TX5) (N := 1) hx hb hts (fun w h => zw_in (inX5 w h)) hown hK hP 0 rfl rfl 0 (by decide) (hts _ (zw_in kw_48)) (fun _ h9 => h9) rfl dX5_narrow_38 ?_
              refine lv_iload hx hb dX5_narrow_41 (lv_at hl 6 rfl) ?_
              obtain ⟨b_6, hf⟩ := zib hf
              refine va_iald hx hb hK hP 1 0 (cA := cI.1) rfl rfl b_6 dX5_narrow_43 ?_
              refine lv_iand hx hb dX5_narrow_44 ?_
              obtain ⟨u_7, e_7, hf⟩ := zbd hf
              refine zcall_i (wr := [(a_t, .inr (5, [.ref a_t_partners])), (a_t_partners, .inl (cI.1, 30, .inl c_t_partners))]) (va_runSN (As := [.int 0, .int x2, .int (x3 &&& (c_t_partners (x6).toNatClampNeg))]) (rest := []) ⟨hx, hb, hml, hown, hts⟩ (c_X9_isSomeLeftFrom l D cI H.size fu (0 : Int32) x2 (x3 &&& (c_t_partners (x6).toNatClampNeg)) u_7 e_7) ⟨va_cnB 3 hts (zG_B kw_71) rfl rfl rfl (hE.1 _ kn_6) (hts _ (zw_in kw_3)) hd_X9_isSomeLeftFrom ⟨Nat.le_of_ble_eq_true rfl, Nat.le_of_ble_eq_true rfl⟩, hts _ (zw_in kw_72), trivial⟩ ⟨zblind, zpre hP hD hK hE [] rfl (by decide)⟩ rfl rfl hl.1 rfl (lv_room (Nat.le_of_ble_eq_true rfl)) dX5_narrow_45 ⟨Nat.le_of_ble_eq_true rfl, Nat.le_of_ble_eq_true rfl⟩) hP hD hS hA [] [0, 1] rfl rfl (by decide) (by decide) (fun r9 uu H locs hX9 hP hD hS => ?_)
              obtain ⟨hX8, hb_7⟩ := hX9
              obtain rfl := hX8.symm
              have hP : va_P D vwCl [(a_t, .inr (5, [.ref a_t_partners])), (a_t_partners, .inl (cI.1, 30, .inl c_t_partners))] H := hP
              have hD : va_D A [(a_t, .inr (5, [.ref a_t_partners])), (a_t_partners, .inl (cI.1, 30, .inl c_t_partners))] := hD
              refine lv_if_ne (tgt := 60) hx hb dX5_narrow_48 (by decide) (fun c_8 => ?_) (fun c_8 => ?_)
              · replace hf := zif hf c_8
                refine lv_iinc (v := x6 + 1) (lv' := [(6, .int (x6 + 1)), (0, .ref a_t), (1, .int x1), (2, .int x2), (3, .int x3), (4, .int x4), (5, .int x5)]) hx hb dX5_narrow_60 hl (k := 6) rfl rfl (by decide) rfl (fun ls hl => ?_)
                refine lv_goto (tgt := 18) hx hb dX5_narrow_63 (by decide) ?_
                exact ih_18 x3 x4 x5 (x6 + 1)  hf _ _ (hP.sub [0, 1] rfl) (hD.sub [0, 1] (by decide) rfl) hS _ (lv_sub hl [1, 2, 3, 4, 5, 6, 0] rfl)
              · replace hf := zit hf c_8
                refine lv_iload_n hx hb dX5_narrow_51 rfl (lv_at hl 3 rfl) ?_
                refine lv_iconst (v := 1) hx hb dX5_narrow_52 (by decide) ?_
                refine lv_iload hx hb dX5_narrow_53 (lv_at hl 6 rfl) ?_
                refine lv_ishl hx hb dX5_narrow_55 ?_
                refine lv_iconst (v := -1) hx hb dX5_narrow_56 (by decide) ?_
                refine lv_ixor hx hb dX5_narrow_57 ?_
                refine lv_iand hx hb dX5_narrow_58 ?_
                refine lv_istore_n (lv' := [(3, .int (x3 &&& (((1 : Int32) <<< (x6 &&& 31)) ^^^ (-1 : Int32)))), (0, .ref a_t), (1, .int x1), (2, .int x2), (4, .int x4), (5, .int x5), (6, .int x6)]) hx hb dX5_narrow_59 rfl hl (by decide) rfl (fun ls hl => ?_)
                refine lv_iinc (v := x6 + 1) (lv' := [(6, .int (x6 + 1)), (3, .int (x3 &&& (((1 : Int32) <<< (x6 &&& 31)) ^^^ (-1 : Int32)))), (0, .ref a_t), (1, .int x1), (2, .int x2), (4, .int x4), (5, .int x5)]) hx hb dX5_narrow_60 hl (k := 6) rfl rfl (by decide) rfl (fun ls hl => ?_)
                refine lv_goto (tgt := 18) hx hb dX5_narrow_63 (by decide) ?_
                exact ih_18 (x3 &&& (((1 : Int32) <<< (x6 &&& 31)) ^^^ (-1 : Int32))) x4 x5 (x6 + 1)  hf _ _ (hP.sub [0, 1] rfl) (hD.sub [0, 1] (by decide) rfl) hS _ (lv_sub hl [2, 3, 4, 1, 5, 6, 0] rfl)
      refine lv_iload hx hb dX5_narrow_5 (lv_at hl 4 rfl) ?_
      refine lv_bipush (v := 30) hx hb dX5_narrow_7 (by decide) ?_
      refine lv_icmp_ge (tgt := 80) hx hb dX5_narrow_9 (by decide) (fun c_1 => ?_) (fun c_1 => ?_)
      · replace hf := zit hf c_1
        refine lv_iload_n hx hb dX5_narrow_80 rfl (lv_at hl 3 rfl) ?_
        obtain rfl := Option.some.inj hf
        exact zret_i hx hb hr rfl rfl () hP hD hS [0, 1] rfl (by decide) dX5_narrow_81 hlocks
      · replace hf := zif hf c_1
        refine lv_iload_n hx hb dX5_narrow_12 rfl (lv_at hl 3 rfl) ?_
        refine lv_istore (lv' := [(5, .int x3), (0, .ref a_t), (1, .int x1), (2, .int x2), (3, .int x3), (4, .int x4)]) hx hb dX5_narrow_13 hl (by decide) rfl (fun ls hl => ?_)
        refine lv_iconst (v := 0) hx hb dX5_narrow_15 (by decide) ?_
        refine lv_istore (lv' := [(6, .int 0), (5, .int x3), (0, .ref a_t), (1, .int x1), (2, .int x2), (3, .int x3), (4, .int x4)]) hx hb dX5_narrow_16 hl (by decide) rfl (fun ls hl => ?_)
        exact w_L18 fu x3 x4 x3 (0 : Int32)  hf _ _ (hP.sub [0, 1] rfl) (hD.sub [0, 1] (by decide) rfl) hS _ (lv_sub hl [2, 3, 4, 5, 6, 1, 0] rfl)
  refine lv_iload_n hx hb dX5_narrow_0 rfl (lv_at hl 1 rfl) ?_
  refine lv_istore_n (lv' := [(3, .int x1), (0, .ref a_t), (1, .int x1), (2, .int x2)]) hx hb dX5_narrow_1 rfl hl (by decide) rfl (fun ls hl => ?_)
  refine lv_iconst (v := 0) hx hb dX5_narrow_2 (by decide) ?_
  refine lv_istore (lv' := [(4, .int 0), (3, .int x1), (0, .ref a_t), (1, .int x1), (2, .int x2)]) hx hb dX5_narrow_3 hl (by decide) rfl (fun ls hl => ?_)
  exact w_L5 fu x1 (0 : Int32)  hf _ _ (hP.sub [0, 1] rfl) (hD.sub [0, 1] (by decide) rfl) hS _ (lv_sub hl [2, 3, 4, 1, 0] rfl)
noncomputable def m_X6_init   : Option (Int32 × Int32 × Int32 × Int32 × Int32) :=
  some ((0 : Int32), (0 : Int32), (0 : Int32), (0 : Int32), (0 : Int32))
def rm_X6_init : Room := { frames := 1, cells := 0, slots := 0, locals := 20 }
theorem hd_X6_init : yX6_init.cls ≠ "java/lang/invoke/MethodHandle" ∧ yX6_init.cls ≠ "java/lang/invoke/VarHandle" ∧ (parseMethodDescriptor yX6_init.desc).map (fun d => d.parameters.length) = some 0 := by decide +kernel
set_option maxHeartbeats 4000000 in
set_option maxRecDepth 100000 in
theorem c_X6_init (l : Launch) (D : va_G) (cI : ClassId × ClassId) (sz : Nat) (a_t : Nat)   (r : Int32 × Int32 × Int32 × Int32 × Int32) (hf : m_X6_init   = some r) : Met l yX6_init (zw (Cond.code yX6_init cX6_init 1 none)) rm_X6_init (va_Pc [.ref a_t] (zA D cI [(a_t, .inr (6, [.int 0, .int 0, .int 0, .int 0]))] sz)) (zQv D (va_A [(a_t, .inr (6, [.int 0, .int 0, .int 0, .int 0]))] sz) (True) (fun (u : Unit) => ([(a_t, .inr (6, [.int r.2.1, .int r.2.2.1, .int r.2.2.2.1, .int r.2.2.2.2]))] : va_W))) 0 0 (va_A [(a_t, .inr (6, [.int 0, .int 0, .int 0, .int 0]))] sz) := by
  unfold m_X6_init at hf
  refine zhead (C := RX6) (by decide +kernel) rfl ?_
  intro p e s m below meth c hx hb hr hlocks hml hown hnm hts hE hK H hP hS hD hA
  generalize va_A [(a_t, .inr (6, [.int 0, .int 0, .int 0, .int 0]))] sz = A at hS hD hA ⊢
  have hl := lv_entry ([.ref a_t]) (n := 1) (Nat.le_of_ble_eq_true rfl)
  rw [lg_entry_eq]
  generalize (lg_sl ([.ref a_t]) ++ List.replicate (1 - (lg_sl ([.ref a_t])).length) Slot.unset).toArray = ls at hl ⊢
  have hl : lv_has ls 1 [(0, .ref a_t)] := hl

  refine lv_aload_n hx hb dX6_init_0 rfl (lv_at hl 0 rfl) ?_
  refine W.objInit hx hb hown (hts _ (zw_in kw_76)) (hts _ (zw_in kw_11)) (hts _ (zw_in kw_12)) rfl (by rw [hml]; exact hl.1) rfl dX6_init_1 (Nat.le_of_ble_eq_true rfl) (Nat.le_of_ble_eq_true rfl) ?_
  refine W.eq (g2 := F0 m 4 ls []) rfl ?_
  obtain rfl := Option.some.inj hf
  exact zret_v hx hb hr trivial () hP hD hS [0] rfl (by decide) dX6_init_4 hlocks
noncomputable def m_X6_start (f_t_isFound : Int32) (f_t_sign : Int32) (x1 : Int32) : Option (Int32 × Int32 × Int32) :=
  some ((0 : Int32), (0 : Int32), x1)
def rm_X6_start : Room := { frames := 0, cells := 0, slots := 0, locals := 0 }
theorem hd_X6_start : yX6_start.cls ≠ "java/lang/invoke/MethodHandle" ∧ yX6_start.cls ≠ "java/lang/invoke/VarHandle" ∧ (parseMethodDescriptor yX6_start.desc).map (fun d => d.parameters.length) = some 1 := by decide +kernel
set_option maxHeartbeats 4000000 in
set_option maxRecDepth 100000 in
theorem c_X6_start (l : Launch) (D : va_G) (cI : ClassId × ClassId) (sz : Nat) (a_t : Nat) (f_t_configuration : Int32) (f_t_isFound : Int32) (f_t_best : Int32) (f_t_sign : Int32) (x1 : Int32) (r : Int32 × Int32 × Int32) (hf : m_X6_start f_t_isFound f_t_sign x1 = some r) : Met l yX6_start (zw (Cond.code yX6_start cX6_start 2 none)) rm_X6_start (va_Pc [.ref a_t, .int x1] (zA D cI [(a_t, .inr (6, [.int f_t_configuration, .int f_t_isFound, .int f_t_best, .int f_t_sign]))] sz)) (zQv D (va_A [(a_t, .inr (6, [.int f_t_configuration, .int f_t_isFound, .int f_t_best, .int f_t_sign]))] sz) (True) (fun (u : Unit) => ([(a_t, .inr (6, [.int f_t_configuration, .int r.2.1, .int f_t_best, .int r.2.2]))] : va_W))) 0 0 (va_A [(a_t, .inr (6, [.int f_t_configuration, .int f_t_isFound, .int f_t_best, .int f_t_sign]))] sz) := by
  unfold m_X6_start at hf
  refine zhead (C := RX6) (by decide +kernel) rfl ?_
  intro p e s m below meth c hx hb hr hlocks hml hown hnm hts hE hK H hP hS hD hA
  generalize va_A [(a_t, .inr (6, [.int f_t_configuration, .int f_t_isFound, .int f_t_best, .int f_t_sign]))] sz = A at hS hD hA ⊢
  have hl := lv_entry ([.ref a_t, .int x1]) (n := 2) (Nat.le_of_ble_eq_true rfl)
  rw [lg_entry_eq]
  generalize (lg_sl ([.ref a_t, .int x1]) ++ List.replicate (2 - (lg_sl ([.ref a_t, .int x1])).length) Slot.unset).toArray = ls at hl ⊢
  have hl : lv_has ls 2 [(0, .ref a_t), (1, .int x1)] := hl

  refine lv_aload_n hx hb dX6_start_0 rfl (lv_at hl 0 rfl) ?_
  refine lv_iload_n hx hb dX6_start_1 rfl (lv_at hl 1 rfl) ?_
  refine va_put (D := D) (ci := 6) (v := .int x1) (ty := .int) (C := RX6) (T := TX6) (N := 4) hx hb hts (fun w h => zw_in (inX6 w h)) tyX6 tyX6_ok nmX6 hown hK hP hD hS 0 rfl rfl 3 (by decide) (hts _ (zw_in kw_77)) (fun _ h9 => h9) rfl (by decide +kernel) rfl rfl (Nat.le_of_ble_eq_true rfl) dX6_start_2 (fun H locs hP hD hS => ?_)
  have hP : va_P D vwCl [(a_t, .inr (6, [.int f_t_configuration, .int f_t_isFound, .int f_t_best, .int x1]))] H := hP
  have hD : va_D A [(a_t, .inr (6, [.int f_t_configuration, .int f_t_isFound, .int f_t_best, .int x1]))] := hD
  refine lv_aload_n hx hb dX6_start_5 rfl (lv_at hl 0 rfl) ?_
  refine lv_iconst (v := 0) hx hb dX6_start_6 (by decide) ?_
  refine va_put (D := D) (ci := 6) (v := .int 0) (ty := .boolean) (C := RX6) (T := TX6) (N := 4) hx hb hts (fun w h => zw_in (inX6 w h)) tyX6 tyX6_ok nmX6 hown hK hP hD hS 0 rfl rfl 1 (by decide) (hts _ (zw_in kw_78)) (fun _ h9 => h9) rfl (by decide +kernel) rfl rfl (Nat.le_of_ble_eq_true rfl) dX6_start_7 (fun H locs hP hD hS => ?_)
  have hP : va_P D vwCl [(a_t, .inr (6, [.int f_t_configuration, .int 0, .int f_t_best, .int x1]))] H := hP
  have hD : va_D A [(a_t, .inr (6, [.int f_t_configuration, .int 0, .int f_t_best, .int x1]))] := hD
  obtain rfl := Option.some.inj hf
  exact zret_v hx hb hr trivial () hP hD hS [0] rfl (by decide) dX6_start_10 hlocks
noncomputable def m_X6_meet (f_t_configuration : Int32) (f_t_isFound : Int32) (f_t_best : Int32) (f_t_sign : Int32) (x1 : Int32) (x2 : Int32) : Option (Int32 × Int32 × Int32 × Int32) :=
  if f_t_isFound = (0 : Int32) then some ((0 : Int32), x1, (1 : Int32), x2) else if f_t_sign * f_t_best ≤ f_t_sign * x2 then some ((0 : Int32), f_t_configuration, f_t_isFound, f_t_best) else some ((0 : Int32), x1, (1 : Int32), x2)
def rm_X6_meet : Room := { frames := 0, cells := 0, slots := 0, locals := 0 }
theorem hd_X6_meet : yX6_meet.cls ≠ "java/lang/invoke/MethodHandle" ∧ yX6_meet.cls ≠ "java/lang/invoke/VarHandle" ∧ (parseMethodDescriptor yX6_meet.desc).map (fun d => d.parameters.length) = some 2 := by decide +kernel
set_option maxHeartbeats 4000000 in
set_option maxRecDepth 100000 in
theorem c_X6_meet (l : Launch) (D : va_G) (cI : ClassId × ClassId) (sz : Nat) (a_t : Nat) (f_t_configuration : Int32) (f_t_isFound : Int32) (f_t_best : Int32) (f_t_sign : Int32) (x1 : Int32) (x2 : Int32) (r : Int32 × Int32 × Int32 × Int32) (hf : m_X6_meet f_t_configuration f_t_isFound f_t_best f_t_sign x1 x2 = some r) : Met l yX6_meet (zw (Cond.code yX6_meet cX6_meet 3 none)) rm_X6_meet (va_Pc [.ref a_t, .int x1, .int x2] (zA D cI [(a_t, .inr (6, [.int f_t_configuration, .int f_t_isFound, .int f_t_best, .int f_t_sign]))] sz)) (zQv D (va_A [(a_t, .inr (6, [.int f_t_configuration, .int f_t_isFound, .int f_t_best, .int f_t_sign]))] sz) (True) (fun (u : Unit) => ([(a_t, .inr (6, [.int r.2.1, .int r.2.2.1, .int r.2.2.2, .int f_t_sign]))] : va_W))) 0 0 (va_A [(a_t, .inr (6, [.int f_t_configuration, .int f_t_isFound, .int f_t_best, .int f_t_sign]))] sz) := by
  unfold m_X6_meet at hf
  refine zhead (C := RX6) (by decide +kernel) rfl ?_
  intro p e s m below meth c hx hb hr hlocks hml hown hnm hts hE hK H hP hS hD hA
  generalize va_A [(a_t, .inr (6, [.int f_t_configuration, .int f_t_isFound, .int f_t_best, .int f_t_sign]))] sz = A at hS hD hA ⊢
  have hl := lv_entry ([.ref a_t, .int x1, .int x2]) (n := 3) (Nat.le_of_ble_eq_true rfl)
  rw [lg_entry_eq]
  generalize (lg_sl ([.ref a_t, .int x1, .int x2]) ++ List.replicate (3 - (lg_sl ([.ref a_t, .int x1, .int x2])).length) Slot.unset).toArray = ls at hl ⊢
  have hl : lv_has ls 3 [(0, .ref a_t), (1, .int x1), (2, .int x2)] := hl

  refine lv_aload_n hx hb dX6_meet_0 rfl (lv_at hl 0 rfl) ?_
  refine va_get (D := D) (ci := 6) (v := .int f_t_isFound) (C := RX6) (T := TX6) (N := 4) hx hb hts (fun w h => zw_in (inX6 w h)) hown hK hP 0 rfl rfl 1 (by decide) (hts _ (zw_in kw_78)) (fun _ h9 => h9) rfl dX6_meet_1 ?_
  refine lv_if_eq (tgt := 25) hx hb dX6_meet_4 (by decide) (fun c_1 => ?_) (fun c_1 => ?_)
  · replace hf := zit hf c_1
    refine lv_aload_n hx hb dX6_meet_25 rfl (lv_at hl 0 rfl) ?_
    refine lv_iconst (v := 1) hx hb dX6_meet_26 (by decide) ?_
    refine va_put (D := D) (ci := 6) (v := .int 1) (ty := .boolean) (C := RX6) (T := TX6) (N := 4) hx hb hts (fun w h => zw_in (inX6 w h)) tyX6 tyX6_ok nmX6 hown hK hP hD hS 0 rfl rfl 1 (by decide) (hts _ (zw_in kw_78)) (fun _ h9 => h9) rfl (by decide +kernel) rfl rfl (Nat.le_of_ble_eq_true rfl) dX6_meet_27 (fun H locs hP hD hS => ?_)
    have hP : va_P D vwCl [(a_t, .inr (6, [.int f_t_configuration, .int 1, .int f_t_best, .int f_t_sign]))] H := hP
    have hD : va_D A [(a_t, .inr (6, [.int f_t_configuration, .int 1, .int f_t_best, .int f_t_sign]))] := hD
    refine lv_aload_n hx hb dX6_meet_30 rfl (lv_at hl 0 rfl) ?_
    refine lv_iload_n hx hb dX6_meet_31 rfl (lv_at hl 2 rfl) ?_
    refine va_put (D := D) (ci := 6) (v := .int x2) (ty := .int) (C := RX6) (T := TX6) (N := 4) hx hb hts (fun w h => zw_in (inX6 w h)) tyX6 tyX6_ok nmX6 hown hK hP hD hS 0 rfl rfl 2 (by decide) (hts _ (zw_in kw_79)) (fun _ h9 => h9) rfl (by decide +kernel) rfl rfl (Nat.le_of_ble_eq_true rfl) dX6_meet_32 (fun H locs hP hD hS => ?_)
    have hP : va_P D vwCl [(a_t, .inr (6, [.int f_t_configuration, .int 1, .int x2, .int f_t_sign]))] H := hP
    have hD : va_D A [(a_t, .inr (6, [.int f_t_configuration, .int 1, .int x2, .int f_t_sign]))] := hD
    refine lv_aload_n hx hb dX6_meet_35 rfl (lv_at hl 0 rfl) ?_
    refine lv_iload_n hx hb dX6_meet_36 rfl (lv_at hl 1 rfl) ?_
    refine va_put (D := D) (ci := 6) (v := .int x1) (ty := .int) (C := RX6) (T := TX6) (N := 4) hx hb hts (fun w h => zw_in (inX6 w h)) tyX6 tyX6_ok nmX6 hown hK hP hD hS 0 rfl rfl 0 (by decide) (hts _ (zw_in kw_80)) (fun _ h9 => h9) rfl (by decide +kernel) rfl rfl (Nat.le_of_ble_eq_true rfl) dX6_meet_37 (fun H locs hP hD hS => ?_)
    have hP : va_P D vwCl [(a_t, .inr (6, [.int x1, .int 1, .int x2, .int f_t_sign]))] H := hP
    have hD : va_D A [(a_t, .inr (6, [.int x1, .int 1, .int x2, .int f_t_sign]))] := hD
    obtain rfl := Option.some.inj hf
    exact zret_v hx hb hr trivial () hP hD hS [0] rfl (by decide) dX6_meet_40 hlocks
  · replace hf := zif hf c_1
    refine lv_aload_n hx hb dX6_meet_7 rfl (lv_at hl 0 rfl) ?_
    refine va_get (D := D) (ci := 6) (v := .int f_t_sign) (C := RX6) (T := TX6) (N := 4) hx hb hts (fun w h => zw_in (inX6 w h)) hown hK hP 0 rfl rfl 3 (by decide) (hts _ (zw_in kw_77)) (fun _ h9 => h9) rfl dX6_meet_8 ?_
    refine lv_iload_n hx hb dX6_meet_11 rfl (lv_at hl 2 rfl) ?_
    refine lv_imul hx hb dX6_meet_12 ?_
    refine lv_aload_n hx hb dX6_meet_13 rfl (lv_at hl 0 rfl) ?_
    refine va_get (D := D) (ci := 6) (v := .int f_t_sign) (C := RX6) (T := TX6) (N := 4) hx hb hts (fun w h => zw_in (inX6 w h)) hown hK hP 0 rfl rfl 3 (by decide) (hts _ (zw_in kw_77)) (fun _ h9 => h9) rfl dX6_meet_14 ?_
    refine lv_aload_n hx hb dX6_meet_17 rfl (lv_at hl 0 rfl) ?_
    refine va_get (D := D) (ci := 6) (v := .int f_t_best) (C := RX6) (T := TX6) (N := 4) hx hb hts (fun w h => zw_in (inX6 w h)) hown hK hP 0 rfl rfl 2 (by decide) (hts _ (zw_in kw_79)) (fun _ h9 => h9) rfl dX6_meet_18 ?_
    refine lv_imul hx hb dX6_meet_21 ?_
    refine lv_icmp_ge (tgt := 40) hx hb dX6_meet_22 (by decide) (fun c_2 => ?_) (fun c_2 => ?_)
    · replace hf := zit hf c_2
      obtain rfl := Option.some.inj hf
      exact zret_v hx hb hr trivial () hP hD hS [0] rfl (by decide) dX6_meet_40 hlocks
    · replace hf := zif hf c_2
      refine lv_aload_n hx hb dX6_meet_25 rfl (lv_at hl 0 rfl) ?_
      refine lv_iconst (v := 1) hx hb dX6_meet_26 (by decide) ?_
      refine va_put (D := D) (ci := 6) (v := .int 1) (ty := .boolean) (C := RX6) (T := TX6) (N := 4) hx hb hts (fun w h => zw_in (inX6 w h)) tyX6 tyX6_ok nmX6 hown hK hP hD hS 0 rfl rfl 1 (by decide) (hts _ (zw_in kw_78)) (fun _ h9 => h9) rfl (by decide +kernel) rfl rfl (Nat.le_of_ble_eq_true rfl) dX6_meet_27 (fun H locs hP hD hS => ?_)
      have hP : va_P D vwCl [(a_t, .inr (6, [.int f_t_configuration, .int 1, .int f_t_best, .int f_t_sign]))] H := hP
      have hD : va_D A [(a_t, .inr (6, [.int f_t_configuration, .int 1, .int f_t_best, .int f_t_sign]))] := hD
      refine lv_aload_n hx hb dX6_meet_30 rfl (lv_at hl 0 rfl) ?_
      refine lv_iload_n hx hb dX6_meet_31 rfl (lv_at hl 2 rfl) ?_
      refine va_put (D := D) (ci := 6) (v := .int x2) (ty := .int) (C := RX6) (T := TX6) (N := 4) hx hb hts (fun w h => zw_in (inX6 w h)) tyX6 tyX6_ok nmX6 hown hK hP hD hS 0 rfl rfl 2 (by decide) (hts _ (zw_in kw_79)) (fun _ h9 => h9) rfl (by decide +kernel) rfl rfl (Nat.le_of_ble_eq_true rfl) dX6_meet_32 (fun H locs hP hD hS => ?_)
      have hP : va_P D vwCl [(a_t, .inr (6, [.int f_t_configuration, .int 1, .int x2, .int f_t_sign]))] H := hP
      have hD : va_D A [(a_t, .inr (6, [.int f_t_configuration, .int 1, .int x2, .int f_t_sign]))] := hD
      refine lv_aload_n hx hb dX6_meet_35 rfl (lv_at hl 0 rfl) ?_
      refine lv_iload_n hx hb dX6_meet_36 rfl (lv_at hl 1 rfl) ?_
      refine va_put (D := D) (ci := 6) (v := .int x1) (ty := .int) (C := RX6) (T := TX6) (N := 4) hx hb hts (fun w h => zw_in (inX6 w h)) tyX6 tyX6_ok nmX6 hown hK hP hD hS 0 rfl rfl 0 (by decide) (hts _ (zw_in kw_80)) (fun _ h9 => h9) rfl (by decide +kernel) rfl rfl (Nat.le_of_ble_eq_true rfl) dX6_meet_37 (fun H locs hP hD hS => ?_)
      have hP : va_P D vwCl [(a_t, .inr (6, [.int x1, .int 1, .int x2, .int f_t_sign]))] H := hP
      have hD : va_D A [(a_t, .inr (6, [.int x1, .int 1, .int x2, .int f_t_sign]))] := hD
      obtain rfl := Option.some.inj hf
      exact zret_v hx hb hr trivial () hP hD hS [0] rfl (by decide) dX6_meet_40 hlocks
noncomputable def m_X6_lookFrom_L25_b (rec : Int32 → Int32 → Int32 → Int32 → (Nat → Int32) → Int32 → (Nat → Int32) → (Nat → Int32) → (Nat → Int32) → Int32 → Int32 → Int32 → Int32 → Option (Int32 × Int32 × Int32 × Int32)) (fu : Nat) (x3 : Int32) (x4 : Int32) (x5 : Int32) (x6 : Int32) (f_p1_sign : Int32) (c_p2_partners : Nat → Int32) (f_p3_surcharges : Int32) (c_p3_ofSlots : Nat → Int32) (c_p3_both : Nat → Int32) (c_p3_amounts : Nat → Int32)  (k25 : Int32 → Int32 → Int32 → Int32 → Option (Int32 × Int32 × Int32 × Int32)) (x7 : Int32) (f_p1_configuration : Int32) (f_p1_isFound : Int32) (f_p1_best : Int32) : Option (Int32 × Int32 × Int32 × Int32) :=
  if (5 : Int32) ≤ x7 then some ((0 : Int32), f_p1_configuration, f_p1_isFound, f_p1_best) else (m_X9_slotOf x4 x7).bind fun u_5 => (m_X9_holds x5 u_5).bind fun u_6 => if u_6 = (0 : Int32) then k25 (x7 + 1) f_p1_configuration f_p1_isFound f_p1_best else if u_5 < 0 ∨ 30 ≤ (u_5).toNatClampNeg then none else (m_X9_isSomeLeftFrom fu (x4 + (1 : Int32)) x3 (x5 &&& (c_p2_partners (u_5).toNatClampNeg))).bind fun u_9 => if u_9 = (0 : Int32) then k25 (x7 + 1) f_p1_configuration f_p1_isFound f_p1_best else (rec f_p1_configuration f_p1_isFound f_p1_best f_p1_sign c_p2_partners f_p3_surcharges c_p3_ofSlots c_p3_both c_p3_amounts x3 (x4 + (1 : Int32)) (x5 &&& (c_p2_partners (u_5).toNatClampNeg)) (x6 + (c_p3_ofSlots (u_5).toNatClampNeg))).bind fun u_11 => k25 (x7 + 1) u_11.2.1 u_11.2.2.1 u_11.2.2.2
noncomputable def m_X6_lookFrom_L25 (rec : Int32 → Int32 → Int32 → Int32 → (Nat → Int32) → Int32 → (Nat → Int32) → (Nat → Int32) → (Nat → Int32) → Int32 → Int32 → Int32 → Int32 → Option (Int32 × Int32 × Int32 × Int32)) (fu : Nat) (x3 : Int32) (x4 : Int32) (x5 : Int32) (x6 : Int32) (f_p1_sign : Int32) (c_p2_partners : Nat → Int32) (f_p3_surcharges : Int32) (c_p3_ofSlots : Nat → Int32) (c_p3_both : Nat → Int32) (c_p3_amounts : Nat → Int32)  (n : Nat) : Int32 → Int32 → Int32 → Int32 → Option (Int32 × Int32 × Int32 × Int32) :=
  Nat.rec (motive := fun _ => Int32 → Int32 → Int32 → Int32 → Option (Int32 × Int32 × Int32 × Int32)) (fun _ _ _ _ => none) (fun _ ih => m_X6_lookFrom_L25_b rec fu x3 x4 x5 x6 f_p1_sign c_p2_partners f_p3_surcharges c_p3_ofSlots c_p3_both c_p3_amounts  ih) n
noncomputable def m_X6_lookFrom_b (rec : Int32 → Int32 → Int32 → Int32 → (Nat → Int32) → Int32 → (Nat → Int32) → (Nat → Int32) → (Nat → Int32) → Int32 → Int32 → Int32 → Int32 → Option (Int32 × Int32 × Int32 × Int32)) (fu : Nat) (f_p1_configuration : Int32) (f_p1_isFound : Int32) (f_p1_best : Int32) (f_p1_sign : Int32) (c_p2_partners : Nat → Int32) (f_p3_surcharges : Int32) (c_p3_ofSlots : Nat → Int32) (c_p3_both : Nat → Int32) (c_p3_amounts : Nat → Int32) (x3 : Int32) (x4 : Int32) (x5 : Int32) (x6 : Int32) : Option (Int32 × Int32 × Int32 × Int32) :=
  if x4 < x3 then m_X6_lookFrom_L25 rec fu x3 x4 x5 x6 f_p1_sign c_p2_partners f_p3_surcharges c_p3_ofSlots c_p3_both c_p3_amounts fu (0 : Int32) f_p1_configuration f_p1_isFound f_p1_best else (m_X7_surchargesOf fu f_p3_surcharges c_p3_both c_p3_amounts x5).bind fun u_2 => (m_X6_meet f_p1_configuration f_p1_isFound f_p1_best f_p1_sign x5 (x6 + u_2)).bind fun u_3 => some ((0 : Int32), u_3.2.1, u_3.2.2.1, u_3.2.2.2)
noncomputable def m_X6_lookFrom (d : Nat) (fu : Nat) : Int32 → Int32 → Int32 → Int32 → (Nat → Int32) → Int32 → (Nat → Int32) → (Nat → Int32) → (Nat → Int32) → Int32 → Int32 → Int32 → Int32 → Option (Int32 × Int32 × Int32 × Int32) :=
  Nat.rec (motive := fun _ => Int32 → Int32 → Int32 → Int32 → (Nat → Int32) → Int32 → (Nat → Int32) → (Nat → Int32) → (Nat → Int32) → Int32 → Int32 → Int32 → Int32 → Option (Int32 × Int32 × Int32 × Int32)) (fun _ _ _ _ _ _ _ _ _ _ _ _ _ => none) (fun _ ih => m_X6_lookFrom_b ih fu) d
def rm_X6_lookFrom (d : Nat) : Room := { frames := d + 2, cells := 0, slots := 0, locals := 29 * d + 44 }
theorem hd_X6_lookFrom : yX6_lookFrom.cls ≠ "java/lang/invoke/MethodHandle" ∧ yX6_lookFrom.cls ≠ "java/lang/invoke/VarHandle" ∧ (parseMethodDescriptor yX6_lookFrom.desc).map (fun d => d.parameters.length) = some 7 := by decide +kernel
set_option maxHeartbeats 4000000 in
set_option maxRecDepth 100000 in
theorem ci_X6_lookFrom (l : Launch) (D : va_G) (cI : ClassId × ClassId) (d : Nat) : ∀ (sz : Nat) (a_p1 : Nat) (a_p2 : Nat) (a_p2_partners : Nat) (a_p3 : Nat) (a_p3_ofSlots : Nat) (a_p3_both : Nat) (a_p3_amounts : Nat) (fu : Nat) (f_p1_configuration : Int32) (f_p1_isFound : Int32) (f_p1_best : Int32) (f_p1_sign : Int32) (c_p2_partners : Nat → Int32) (f_p3_surcharges : Int32) (c_p3_ofSlots : Nat → Int32) (c_p3_both : Nat → Int32) (c_p3_amounts : Nat → Int32) (x3 : Int32) (x4 : Int32) (x5 : Int32) (x6 : Int32) (r : Int32 × Int32 × Int32 × Int32) (hf : m_X6_lookFrom d fu f_p1_configuration f_p1_isFound f_p1_best f_p1_sign c_p2_partners f_p3_surcharges c_p3_ofSlots c_p3_both c_p3_amounts x3 x4 x5 x6 = some r), Met l yX6_lookFrom (zw (Cond.code yX6_lookFrom cX6_lookFrom 10 none)) (rm_X6_lookFrom d) (va_Pc [.ref a_p1, .ref a_p2, .ref a_p3, .int x3, .int x4, .int x5, .int x6] (zA D cI [(a_p1, .inr (6, [.int f_p1_configuration, .int f_p1_isFound, .int f_p1_best, .int f_p1_sign])), (a_p2, .inr (5, [.ref a_p2_partners])), (a_p2_partners, .inl (cI.1, 30, .inl c_p2_partners)), (a_p3, .inr (7, [.ref a_p3_ofSlots, .int f_p3_surcharges, .ref a_p3_both, .ref a_p3_amounts])), (a_p3_ofSlots, .inl (cI.1, 30, .inl c_p3_ofSlots)), (a_p3_both, .inl (cI.1, 10, .inl c_p3_both)), (a_p3_amounts, .inl (cI.1, 10, .inl c_p3_amounts))] sz)) (zQv D (va_A [(a_p1, .inr (6, [.int f_p1_configuration, .int f_p1_isFound, .int f_p1_best, .int f_p1_sign])), (a_p2, .inr (5, [.ref a_p2_partners])), (a_p2_partners, .inl (cI.1, 30, .inl c_p2_partners)), (a_p3, .inr (7, [.ref a_p3_ofSlots, .int f_p3_surcharges, .ref a_p3_both, .ref a_p3_amounts])), (a_p3_ofSlots, .inl (cI.1, 30, .inl c_p3_ofSlots)), (a_p3_both, .inl (cI.1, 10, .inl c_p3_both)), (a_p3_amounts, .inl (cI.1, 10, .inl c_p3_amounts))] sz) (True) (fun (u : Unit) => ([(a_p1, .inr (6, [.int r.2.1, .int r.2.2.1, .int r.2.2.2, .int f_p1_sign])), (a_p2, .inr (5, [.ref a_p2_partners])), (a_p2_partners, .inl (cI.1, 30, .inl c_p2_partners)), (a_p3, .inr (7, [.ref a_p3_ofSlots, .int f_p3_surcharges, .ref a_p3_both, .ref a_p3_amounts])), (a_p3_ofSlots, .inl (cI.1, 30, .inl c_p3_ofSlots)), (a_p3_both, .inl (cI.1, 10, .inl c_p3_both)), (a_p3_amounts, .inl (cI.1, 10, .inl c_p3_amounts))] : va_W))) 0 0 (va_A [(a_p1, .inr (6, [.int f_p1_configuration, .int f_p1_isFound, .int f_p1_best, .int f_p1_sign])), (a_p2, .inr (5, [.ref a_p2_partners])), (a_p2_partners, .inl (cI.1, 30, .inl c_p2_partners)), (a_p3, .inr (7, [.ref a_p3_ofSlots, .int f_p3_surcharges, .ref a_p3_both, .ref a_p3_amounts])), (a_p3_ofSlots, .inl (cI.1, 30, .inl c_p3_ofSlots)), (a_p3_both, .inl (cI.1, 10, .inl c_p3_both)), (a_p3_amounts, .inl (cI.1, 10, .inl c_p3_amounts))] sz) := by
  induction d with
  | zero => intro sz a_p1 a_p2 a_p2_partners a_p3 a_p3_ofSlots a_p3_both a_p3_amounts fu f_p1_configuration f_p1_isFound f_p1_best f_p1_sign c_p2_partners f_p3_surcharges c_p3_ofSlots c_p3_both c_p3_amounts x3 x4 x5 x6 r hf; exact absurd hf (fun h => by cases h)
  | succ d ih_rec =>
  intro sz a_p1 a_p2 a_p2_partners a_p3 a_p3_ofSlots a_p3_both a_p3_amounts fu f_p1_configuration f_p1_isFound f_p1_best f_p1_sign c_p2_partners f_p3_surcharges c_p3_ofSlots c_p3_both c_p3_amounts x3 x4 x5 x6 r hf
  replace hf : m_X6_lookFrom_b (m_X6_lookFrom d fu) fu f_p1_configuration f_p1_isFound f_p1_best f_p1_sign c_p2_partners f_p3_surcharges c_p3_ofSlots c_p3_both c_p3_amounts x3 x4 x5 x6 = some r := hf
  unfold m_X6_lookFrom_b at hf
  refine zhead (C := RX6) (by decide +kernel) rfl ?_
  intro p e s m below meth c hx hb hr hlocks hml hown hnm hts hE hK H hP hS hD hA
  generalize va_A [(a_p1, .inr (6, [.int f_p1_configuration, .int f_p1_isFound, .int f_p1_best, .int f_p1_sign])), (a_p2, .inr (5, [.ref a_p2_partners])), (a_p2_partners, .inl (cI.1, 30, .inl c_p2_partners)), (a_p3, .inr (7, [.ref a_p3_ofSlots, .int f_p3_surcharges, .ref a_p3_both, .ref a_p3_amounts])), (a_p3_ofSlots, .inl (cI.1, 30, .inl c_p3_ofSlots)), (a_p3_both, .inl (cI.1, 10, .inl c_p3_both)), (a_p3_amounts, .inl (cI.1, 10, .inl c_p3_amounts))] sz = A at hS hD hA ⊢
  have hl := lv_entry ([.ref a_p1, .ref a_p2, .ref a_p3, .int x3, .int x4, .int x5, .int x6]) (n := 10) (Nat.le_of_ble_eq_true rfl)
  rw [lg_entry_eq]
  generalize (lg_sl ([.ref a_p1, .ref a_p2, .ref a_p3, .int x3, .int x4, .int x5, .int x6]) ++ List.replicate (10 - (lg_sl ([.ref a_p1, .ref a_p2, .ref a_p3, .int x3, .int x4, .int x5, .int x6])).length) Slot.unset).toArray = ls at hl ⊢
  have hl : lv_has ls 10 [(0, .ref a_p1), (1, .ref a_p2), (2, .ref a_p3), (3, .int x3), (4, .int x4), (5, .int x5), (6, .int x6)] := hl

  have w_L25 : ∀ (n : Nat) (x7 : Int32) (f_p1_configuration : Int32) (f_p1_isFound : Int32) (f_p1_best : Int32), m_X6_lookFrom_L25 (m_X6_lookFrom d fu) fu x3 x4 x5 x6 f_p1_sign c_p2_partners f_p3_surcharges c_p3_ofSlots c_p3_both c_p3_amounts n x7 f_p1_configuration f_p1_isFound f_p1_best = some r → ∀ (H : Heap) (locs : List Loc), va_P D vwCl [(a_p1, .inr (6, [.int f_p1_configuration, .int f_p1_isFound, .int f_p1_best, .int f_p1_sign])), (a_p2, .inr (5, [.ref a_p2_partners])), (a_p2_partners, .inl (cI.1, 30, .inl c_p2_partners)), (a_p3, .inr (7, [.ref a_p3_ofSlots, .int f_p3_surcharges, .ref a_p3_both, .ref a_p3_amounts])), (a_p3_ofSlots, .inl (cI.1, 30, .inl c_p3_ofSlots)), (a_p3_both, .inl (cI.1, 10, .inl c_p3_both)), (a_p3_amounts, .inl (cI.1, 10, .inl c_p3_amounts))] H → va_D A [(a_p1, .inr (6, [.int f_p1_configuration, .int f_p1_isFound, .int f_p1_best, .int f_p1_sign])), (a_p2, .inr (5, [.ref a_p2_partners])), (a_p2_partners, .inl (cI.1, 30, .inl c_p2_partners)), (a_p3, .inr (7, [.ref a_p3_ofSlots, .int f_p3_surcharges, .ref a_p3_both, .ref a_p3_amounts])), (a_p3_ofSlots, .inl (cI.1, 30, .inl c_p3_ofSlots)), (a_p3_both, .inl (cI.1, 10, .inl c_p3_both)), (a_p3_amounts, .inl (cI.1, 10, .inl c_p3_amounts))] → va_S A s.heap H locs → ∀ ls : Array Slot, lv_has ls 10 [(0, .ref a_p1), (1, .ref a_p2), (2, .ref a_p3), (3, .int x3), (4, .int x4), (5, .int x5), (6, .int x6), (7, .int x7)] → W p l e (rm_X6_lookFrom (d + 1)) s m ([.ref a_p1, .ref a_p2, .ref a_p3, .int x3, .int x4, .int x5, .int x6] : List Value).toArray below meth c H locs 0 0 (MQ below (zQv D A (True) (fun (u : Unit) => ([(a_p1, .inr (6, [.int r.2.1, .int r.2.2.1, .int r.2.2.2, .int f_p1_sign])), (a_p2, .inr (5, [.ref a_p2_partners])), (a_p2_partners, .inl (cI.1, 30, .inl c_p2_partners)), (a_p3, .inr (7, [.ref a_p3_ofSlots, .int f_p3_surcharges, .ref a_p3_both, .ref a_p3_amounts])), (a_p3_ofSlots, .inl (cI.1, 30, .inl c_p3_ofSlots)), (a_p3_both, .inl (cI.1, 10, .inl c_p3_both)), (a_p3_amounts, .inl (cI.1, 10, .inl c_p3_amounts))] : va_W))) ([.ref a_p1, .ref a_p2, .ref a_p3, .int x3, .int x4, .int x5, .int x6] : List Value).toArray s 0 0 A) (F0 m 25 ls []) := by
    intro n_25
    induction n_25 with
    | zero => intro x7 f_p1_configuration f_p1_isFound f_p1_best  hf; exact absurd hf (fun h => by cases h)
    | succ n_25 ih_25 =>
      intro x7 f_p1_configuration f_p1_isFound f_p1_best  hf H locs hP hD hS ls hl
      replace hf : m_X6_lookFrom_L25_b (m_X6_lookFrom d fu) fu x3 x4 x5 x6 f_p1_sign c_p2_partners f_p3_surcharges c_p3_ofSlots c_p3_both c_p3_amounts  (m_X6_lookFrom_L25 (m_X6_lookFrom d fu) fu x3 x4 x5 x6 f_p1_sign c_p2_partners f_p3_surcharges c_p3_ofSlots c_p3_both c_p3_amounts n_25) x7 f_p1_configuration f_p1_isFound f_p1_best = some r := hf
      unfold m_X6_lookFrom_L25_b at hf
      refine lv_iload hx hb dX6_lookFrom_25 (lv_at hl 7 rfl) ?_
      refine lv_iconst (v := 5) hx hb dX6_lookFrom_27 (by decide) ?_
      refine lv_icmp_ge (tgt := 104) hx hb dX6_lookFrom_28 (by decide) (fun c_4 => ?_) (fun c_4 => ?_)
      · replace hf := zit hf c_4
        obtain rfl := Option.some.inj hf
        exact zret_v hx hb hr trivial () hP hD hS [0, 1, 2, 3, 4, 5, 6] rfl (by decide) dX6_lookFrom_104 hlocks
      · replace hf := zif hf c_4
        refine lv_iload hx hb dX6_lookFrom_31 (lv_at hl 4 rfl) ?_
        refine lv_iload hx hb dX6_lookFrom_33 (lv_at hl 7 rfl) ?_
        obtain ⟨u_5, e_5, hf⟩ := zbd hf
        refine zcall_i (wr := [(a_p1, .inr (6, [.int f_p1_configuration, .int f_p1_isFound, .int f_p1_best, .int f_p1_sign])), (a_p2, .inr (5, [.ref a_p2_partners])), (a_p2_partners, .inl (cI.1, 30, .inl c_p2_partners)), (a_p3, .inr (7, [.ref a_p3_ofSlots, .int f_p3_surcharges, .ref a_p3_both, .ref a_p3_amounts])), (a_p3_ofSlots, .inl (cI.1, 30, .inl c_p3_ofSlots)), (a_p3_both, .inl (cI.1, 10, .inl c_p3_both)), (a_p3_amounts, .inl (cI.1, 10, .inl c_p3_amounts))]) (va_runSN (As := [.int x4, .int x7]) (rest := []) ⟨hx, hb, hml, hown, hts⟩ (c_X9_slotOf l D cI H.size x4 x7 u_5 e_5) ⟨va_cnB 2 hts (zG_B kw_0) rfl rfl rfl (hE.1 _ kn_7) (hts _ (zw_in kw_3)) hd_X9_slotOf ⟨Nat.le_of_ble_eq_true rfl, Nat.le_of_ble_eq_true rfl⟩, hts _ (zw_in kw_2), trivial⟩ ⟨zblind, zpre hP hD hK hE [] rfl (by decide)⟩ rfl rfl hl.1 rfl (lv_room (Nat.le_of_ble_eq_true rfl)) dX6_lookFrom_35 ⟨Nat.le_of_ble_eq_true rfl, Nat.le_of_ble_eq_true rfl⟩) hP hD hS hA [] [0, 1, 2, 3, 4, 5, 6] rfl rfl (by decide) (by decide) (fun r9 uu H locs hX9 hP hD hS => ?_)
        obtain rfl := hX9.symm
        have hP : va_P D vwCl [(a_p1, .inr (6, [.int f_p1_configuration, .int f_p1_isFound, .int f_p1_best, .int f_p1_sign])), (a_p2, .inr (5, [.ref a_p2_partners])), (a_p2_partners, .inl (cI.1, 30, .inl c_p2_partners)), (a_p3, .inr (7, [.ref a_p3_ofSlots, .int f_p3_surcharges, .ref a_p3_both, .ref a_p3_amounts])), (a_p3_ofSlots, .inl (cI.1, 30, .inl c_p3_ofSlots)), (a_p3_both, .inl (cI.1, 10, .inl c_p3_both)), (a_p3_amounts, .inl (cI.1, 10, .inl c_p3_amounts))] H := hP
        have hD : va_D A [(a_p1, .inr (6, [.int f_p1_configuration, .int f_p1_isFound, .int f_p1_best, .int f_p1_sign])), (a_p2, .inr (5, [.ref a_p2_partners])), (a_p2_partners, .inl (cI.1, 30, .inl c_p2_partners)), (a_p3, .inr (7, [.ref a_p3_ofSlots, .int f_p3_surcharges, .ref a_p3_both, .ref a_p3_amounts])), (a_p3_ofSlots, .inl (cI.1, 30, .inl c_p3_ofSlots)), (a_p3_both, .inl (cI.1, 10, .inl c_p3_both)), (a_p3_amounts, .inl (cI.1, 10, .inl c_p3_amounts))] := hD
        refine lv_istore (lv' := [(8, .int u_5), (0, .ref a_p1), (1, .ref a_p2), (2, .ref a_p3), (3, .int x3), (4, .int x4), (5, .int x5), (6, .int x6), (7, .int x7)]) hx hb dX6_lookFrom_38 hl (by decide) rfl (fun ls hl => ?_)
        refine lv_iload hx hb dX6_lookFrom_40 (lv_at hl 6 rfl) ?_
        refine lv_iload hx hb dX6_lookFrom_42 (lv_at hl 0 rfl) ?_
        obtain ⟨u_6, e_6, hf⟩ := zbd hf
        refine zcall_i (wr := [(a_p1, .inr (6, [.int f_p1_configuration, .int f_p1_isFound, .int f_p1_best, .int f_p1_sign])), (a_p2, .inr (5, [.ref a_p2_partners])), (a_p2_partners, .inl (cI.1, 30, .inl c_p2_partners)), (a_p3, .inr (7, [.ref a_p3_ofSlots, .int f_p3_surcharges, .ref a_p3_both, .ref a_p3_amounts])), (a_p3_ofSlots, .inl (cI.1, 30, .inl c_p3_ofSlots)), (a_p3_both, .inl (cI.1, 10, .inl c_p3_both)), (a_p3_amounts, .inl (cI.1, 10, .inl c_p3_amounts))]) (va_runSN (As := [.int x5, .int u_5]) (rest := []) ⟨hx, hb, hml, hown, hts⟩ (c_X9_holds l D cI H.size x5 u_5 u_6 e_6) ⟨va_cnB 2 hts (zG_B kw_7) rfl rfl rfl (hE.1 _ kn_8) (hts _ (zw_in kw_3)) hd_X9_holds ⟨Nat.le_of_ble_eq_true rfl, Nat.le_of_ble_eq_true rfl⟩, hts _ (zw_in kw_9), trivial⟩ ⟨zblind, zpre hP hD hK hE [] rfl (by decide)⟩ rfl rfl hl.1 rfl (lv_room (Nat.le_of_ble_eq_true rfl)) dX6_lookFrom_44 ⟨Nat.le_of_ble_eq_true rfl, Nat.le_of_ble_eq_true rfl⟩) hP hD hS hA [] [0, 1, 2, 3, 4, 5, 6] rfl rfl (by decide) (by decide) (fun r9 uu H locs hX9 hP hD hS => ?_)
        obtain ⟨hX8, hb_6⟩ := hX9
        obtain rfl := hX8.symm
        have hP : va_P D vwCl [(a_p1, .inr (6, [.int f_p1_configuration, .int f_p1_isFound, .int f_p1_best, .int f_p1_sign])), (a_p2, .inr (5, [.ref a_p2_partners])), (a_p2_partners, .inl (cI.1, 30, .inl c_p2_partners)), (a_p3, .inr (7, [.ref a_p3_ofSlots, .int f_p3_surcharges, .ref a_p3_both, .ref a_p3_amounts])), (a_p3_ofSlots, .inl (cI.1, 30, .inl c_p3_ofSlots)), (a_p3_both, .inl (cI.1, 10, .inl c_p3_both)), (a_p3_amounts, .inl (cI.1, 10, .inl c_p3_amounts))] H := hP
        have hD : va_D A [(a_p1, .inr (6, [.int f_p1_configuration, .int f_p1_isFound, .int f_p1_best, .int f_p1_sign])), (a_p2, .inr (5, [.ref a_p2_partners])), (a_p2_partners, .inl (cI.1, 30, .inl c_p2_partners)), (a_p3, .inr (7, [.ref a_p3_ofSlots, .int f_p3_surcharges, .ref a_p3_both, .ref a_p3_amounts])), (a_p3_ofSlots, .inl (cI.1, 30, .inl c_p3_ofSlots)), (a_p3_both, .inl (cI.1, 10, .inl c_p3_both)), (a_p3_amounts, .inl (cI.1, 10, .inl c_p3_amounts))] := hD
        refine lv_if_eq (tgt := 98) hx hb dX6_lookFrom_47 (by decide) (fun c_7 => ?_) (fun c_7 => ?_)
        · replace hf := zit hf c_7
          refine lv_iinc (v := x7 + 1) (lv' := [(7, .int (x7 + 1)), (8, .int u_5), (0, .ref a_p1), (1, .ref a_p2), (2, .ref a_p3), (3, .int x3), (4, .int x4), (5, .int x5), (6, .int x6)]) hx hb dX6_lookFrom_98 hl (k := 8) rfl rfl (by decide) rfl (fun ls hl => ?_)
          refine lv_goto (tgt := 25) hx hb dX6_lookFrom_101 (by decide) ?_
          exact ih_25 (x7 + 1) f_p1_configuration f_p1_isFound f_p1_best  hf _ _ (hP.sub [0, 1, 2, 3, 4, 5, 6] rfl) (hD.sub [0, 1, 2, 3, 4, 5, 6] (by decide) rfl) hS _ (lv_sub hl [2, 3, 4, 5, 6, 7, 8, 0] rfl)
        · replace hf := zif hf c_7
          refine lv_iload hx hb dX6_lookFrom_50 (lv_at hl 6 rfl) ?_
          refine lv_aload_n hx hb dX6_lookFrom_52 rfl (lv_at hl 2 rfl) ?_
          refine va_get (D := D) (ci := 5) (v := .ref a_p2_partners) (C := RX5) (T := TX5) (N := 1) hx hb hts (fun w h => zw_in (inX5 w h)) hown hK hP 1 rfl rfl 0 (by decide) (hts _ (zw_in kw_91)) (fun _ h9 => h9) rfl dX6_lookFrom_53 ?_
          refine lv_iload hx hb dX6_lookFrom_56 (lv_at hl 0 rfl) ?_
          obtain ⟨b_8, hf⟩ := zib hf
          refine va_iald hx hb hK hP 2 0 (cA := cI.1) rfl rfl b_8 dX6_lookFrom_58 ?_
          refine lv_iand hx hb dX6_lookFrom_59 ?_
          refine lv_istore (lv' := [(9, .int (x5 &&& (c_p2_partners (u_5).toNatClampNeg))), (8, .int u_5), (0, .ref a_p1), (1, .ref a_p2), (2, .ref a_p3), (3, .int x3), (4, .int x4), (5, .int x5), (6, .int x6), (7, .int x7)]) hx hb dX6_lookFrom_60 hl (by decide) rfl (fun ls hl => ?_)
          refine lv_iload hx hb dX6_lookFrom_62 (lv_at hl 6 rfl) ?_
          refine lv_iconst (v := 1) hx hb dX6_lookFrom_64 (by decide) ?_
          refine lv_iadd hx hb dX6_lookFrom_65 ?_
          refine lv_iload_n hx hb dX6_lookFrom_66 rfl (lv_at hl 5 rfl) ?_
          refine lv_iload hx hb dX6_lookFrom_67 (lv_at hl 0 rfl) ?_
          obtain ⟨u_9, e_9, hf⟩ := zbd hf
          refine zcall_i (wr := [(a_p1, .inr (6, [.int f_p1_configuration, .int f_p1_isFound, .int f_p1_best, .int f_p1_sign])), (a_p2, .inr (5, [.ref a_p2_partners])), (a_p2_partners, .inl (cI.1, 30, .inl c_p2_partners)), (a_p3, .inr (7, [.ref a_p3_ofSlots, .int f_p3_surcharges, .ref a_p3_both, .ref a_p3_amounts])), (a_p3_ofSlots, .inl (cI.1, 30, .inl c_p3_ofSlots)), (a_p3_both, .inl (cI.1, 10, .inl c_p3_both)), (a_p3_amounts, .inl (cI.1, 10, .inl c_p3_amounts))]) (va_runSN (As := [.int (x4 + (1 : Int32)), .int x3, .int (x5 &&& (c_p2_partners (u_5).toNatClampNeg))]) (rest := []) ⟨hx, hb, hml, hown, hts⟩ (c_X9_isSomeLeftFrom l D cI H.size fu (x4 + (1 : Int32)) x3 (x5 &&& (c_p2_partners (u_5).toNatClampNeg)) u_9 e_9) ⟨va_cnB 3 hts (zG_B kw_71) rfl rfl rfl (hE.1 _ kn_9) (hts _ (zw_in kw_3)) hd_X9_isSomeLeftFrom ⟨Nat.le_of_ble_eq_true rfl, Nat.le_of_ble_eq_true rfl⟩, hts _ (zw_in kw_72), trivial⟩ ⟨zblind, zpre hP hD hK hE [] rfl (by decide)⟩ rfl rfl hl.1 rfl (lv_room (Nat.le_of_ble_eq_true rfl)) dX6_lookFrom_69 ⟨Nat.le_of_ble_eq_true rfl, Nat.le_of_ble_eq_true rfl⟩) hP hD hS hA [] [0, 1, 2, 3, 4, 5, 6] rfl rfl (by decide) (by decide) (fun r9 uu H locs hX9 hP hD hS => ?_)
          obtain ⟨hX8, hb_9⟩ := hX9
          obtain rfl := hX8.symm
          have hP : va_P D vwCl [(a_p1, .inr (6, [.int f_p1_configuration, .int f_p1_isFound, .int f_p1_best, .int f_p1_sign])), (a_p2, .inr (5, [.ref a_p2_partners])), (a_p2_partners, .inl (cI.1, 30, .inl c_p2_partners)), (a_p3, .inr (7, [.ref a_p3_ofSlots, .int f_p3_surcharges, .ref a_p3_both, .ref a_p3_amounts])), (a_p3_ofSlots, .inl (cI.1, 30, .inl c_p3_ofSlots)), (a_p3_both, .inl (cI.1, 10, .inl c_p3_both)), (a_p3_amounts, .inl (cI.1, 10, .inl c_p3_amounts))] H := hP
          have hD : va_D A [(a_p1, .inr (6, [.int f_p1_configuration, .int f_p1_isFound, .int f_p1_best, .int f_p1_sign])), (a_p2, .inr (5, [.ref a_p2_partners])), (a_p2_partners, .inl (cI.1, 30, .inl c_p2_partners)), (a_p3, .inr (7, [.ref a_p3_ofSlots, .int f_p3_surcharges, .ref a_p3_both, .ref a_p3_amounts])), (a_p3_ofSlots, .inl (cI.1, 30, .inl c_p3_ofSlots)), (a_p3_both, .inl (cI.1, 10, .inl c_p3_both)), (a_p3_amounts, .inl (cI.1, 10, .inl c_p3_amounts))] := hD
          refine lv_if_eq (tgt := 98) hx hb dX6_lookFrom_72 (by decide) (fun c_10 => ?_) (fun c_10 => ?_)
          · replace hf := zit hf c_10
            refine lv_iinc (v := x7 + 1) (lv' := [(7, .int (x7 + 1)), (9, .int (x5 &&& (c_p2_partners (u_5).toNatClampNeg))), (8, .int u_5), (0, .ref a_p1), (1, .ref a_p2), (2, .ref a_p3), (3, .int x3), (4, .int x4), (5, .int x5), (6, .int x6)]) hx hb dX6_lookFrom_98 hl (k := 9) rfl rfl (by decide) rfl (fun ls hl => ?_)
            refine lv_goto (tgt := 25) hx hb dX6_lookFrom_101 (by decide) ?_
            exact ih_25 (x7 + 1) f_p1_configuration f_p1_isFound f_p1_best  hf _ _ (hP.sub [0, 1, 2, 3, 4, 5, 6] rfl) (hD.sub [0, 1, 2, 3, 4, 5, 6] (by decide) rfl) hS _ (lv_sub hl [3, 4, 5, 6, 7, 8, 9, 0] rfl)
          · replace hf := zif hf c_10
            refine lv_aload_n hx hb dX6_lookFrom_75 rfl (lv_at hl 2 rfl) ?_
            refine lv_aload_n hx hb dX6_lookFrom_76 rfl (lv_at hl 3 rfl) ?_
            refine lv_aload_n hx hb dX6_lookFrom_77 rfl (lv_at hl 4 rfl) ?_
            refine lv_iload_n hx hb dX6_lookFrom_78 rfl (lv_at hl 5 rfl) ?_
            refine lv_iload hx hb dX6_lookFrom_79 (lv_at hl 6 rfl) ?_
            refine lv_iconst (v := 1) hx hb dX6_lookFrom_81 (by decide) ?_
            refine lv_iadd hx hb dX6_lookFrom_82 ?_
            refine lv_iload hx hb dX6_lookFrom_83 (lv_at hl 0 rfl) ?_
            refine lv_iload hx hb dX6_lookFrom_85 (lv_at hl 8 rfl) ?_
            refine lv_aload_n hx hb dX6_lookFrom_87 rfl (lv_at hl 4 rfl) ?_
            refine va_get (D := D) (ci := 7) (v := .ref a_p3_ofSlots) (C := RX7) (T := TX7) (N := 4) hx hb hts (fun w h => zw_in (inX7 w h)) hown hK hP 3 rfl rfl 0 (by decide) (hts _ (zw_in kw_92)) (fun _ h9 => h9) rfl dX6_lookFrom_88 ?_
            refine lv_iload hx hb dX6_lookFrom_91 (lv_at hl 1 rfl) ?_
            refine va_iald hx hb hK hP 4 0 (cA := cI.1) rfl rfl b_8 dX6_lookFrom_93 ?_
            refine lv_iadd hx hb dX6_lookFrom_94 ?_
            obtain ⟨u_11, e_11, hf⟩ := zbd hf
            refine zcall_v (wr := []) (va_runS (As := [.ref a_p1, .ref a_p2, .ref a_p3, .int x3, .int (x4 + (1 : Int32)), .int (x5 &&& (c_p2_partners (u_5).toNatClampNeg)), .int (x6 + (c_p3_ofSlots (u_5).toNatClampNeg))]) (rest := []) ⟨hx, hb, hml, hown, hts⟩ (ih_rec H.size a_p1 a_p2 a_p2_partners a_p3 a_p3_ofSlots a_p3_both a_p3_amounts fu f_p1_configuration f_p1_isFound f_p1_best f_p1_sign c_p2_partners f_p3_surcharges c_p3_ofSlots c_p3_both c_p3_amounts x3 (x4 + (1 : Int32)) (x5 &&& (c_p2_partners (u_5).toNatClampNeg)) (x6 + (c_p3_ofSlots (u_5).toNatClampNeg)) u_11 e_11) (va_cwS 7 hts (zG_S kw_94 kw_95 kw_90 kw_93) rfl rfl rfl hd_X6_lookFrom ⟨by show d + 2 + 1 ≤ d + 1 + 2; omega, by show 8 + (10 + 11) + (29 * d + 44) ≤ 29 * (d + 1) + 44; omega⟩) ⟨zblind, zpre hP hD hK hE [0, 1, 2, 3, 4, 5, 6] rfl (by decide)⟩ rfl rfl hl.1 rfl (lv_room (Nat.le_of_ble_eq_true rfl)) dX6_lookFrom_95 ⟨Nat.le_of_ble_eq_true rfl, Nat.le_of_ble_eq_true rfl⟩) hP hD hS hA [0, 1, 2, 3, 4, 5, 6] [] rfl rfl (by decide) (by decide) (fun uu H locs hX9 hP hD hS => ?_)
            have hP : va_P D vwCl [(a_p1, .inr (6, [.int u_11.2.1, .int u_11.2.2.1, .int u_11.2.2.2, .int f_p1_sign])), (a_p2, .inr (5, [.ref a_p2_partners])), (a_p2_partners, .inl (cI.1, 30, .inl c_p2_partners)), (a_p3, .inr (7, [.ref a_p3_ofSlots, .int f_p3_surcharges, .ref a_p3_both, .ref a_p3_amounts])), (a_p3_ofSlots, .inl (cI.1, 30, .inl c_p3_ofSlots)), (a_p3_both, .inl (cI.1, 10, .inl c_p3_both)), (a_p3_amounts, .inl (cI.1, 10, .inl c_p3_amounts))] H := hP
            have hD : va_D A [(a_p1, .inr (6, [.int u_11.2.1, .int u_11.2.2.1, .int u_11.2.2.2, .int f_p1_sign])), (a_p2, .inr (5, [.ref a_p2_partners])), (a_p2_partners, .inl (cI.1, 30, .inl c_p2_partners)), (a_p3, .inr (7, [.ref a_p3_ofSlots, .int f_p3_surcharges, .ref a_p3_both, .ref a_p3_amounts])), (a_p3_ofSlots, .inl (cI.1, 30, .inl c_p3_ofSlots)), (a_p3_both, .inl (cI.1, 10, .inl c_p3_both)), (a_p3_amounts, .inl (cI.1, 10, .inl c_p3_amounts))] := hD
            refine lv_iinc (v := x7 + 1) (lv' := [(7, .int (x7 + 1)), (9, .int (x5 &&& (c_p2_partners (u_5).toNatClampNeg))), (8, .int u_5), (0, .ref a_p1), (1, .ref a_p2), (2, .ref a_p3), (3, .int x3), (4, .int x4), (5, .int x5), (6, .int x6)]) hx hb dX6_lookFrom_98 hl (k := 9) rfl rfl (by decide) rfl (fun ls hl => ?_)
            refine lv_goto (tgt := 25) hx hb dX6_lookFrom_101 (by decide) ?_
            exact ih_25 (x7 + 1) u_11.2.1 u_11.2.2.1 u_11.2.2.2  hf _ _ (hP.sub [0, 1, 2, 3, 4, 5, 6] rfl) (hD.sub [0, 1, 2, 3, 4, 5, 6] (by decide) rfl) hS _ (lv_sub hl [3, 4, 5, 6, 7, 8, 9, 0] rfl)
  refine lv_iload hx hb dX6_lookFrom_0 (lv_at hl 4 rfl) ?_
  refine lv_iload_n hx hb dX6_lookFrom_2 rfl (lv_at hl 3 rfl) ?_
  refine lv_icmp_lt (tgt := 22) hx hb dX6_lookFrom_3 (by decide) (fun c_1 => ?_) (fun c_1 => ?_)
  · replace hf := zit hf c_1
    refine lv_iconst (v := 0) hx hb dX6_lookFrom_22 (by decide) ?_
    refine lv_istore (lv' := [(7, .int 0), (0, .ref a_p1), (1, .ref a_p2), (2, .ref a_p3), (3, .int x3), (4, .int x4), (5, .int x5), (6, .int x6)]) hx hb dX6_lookFrom_23 hl (by decide) rfl (fun ls hl => ?_)
    exact w_L25 fu (0 : Int32) f_p1_configuration f_p1_isFound f_p1_best  hf _ _ (hP.sub [0, 1, 2, 3, 4, 5, 6] rfl) (hD.sub [0, 1, 2, 3, 4, 5, 6] (by decide) rfl) hS _ (lv_sub hl [1, 2, 3, 4, 5, 6, 7, 0] rfl)
  · replace hf := zif hf c_1
    refine lv_aload_n hx hb dX6_lookFrom_6 rfl (lv_at hl 0 rfl) ?_
    refine lv_iload hx hb dX6_lookFrom_7 (lv_at hl 5 rfl) ?_
    refine lv_iload hx hb dX6_lookFrom_9 (lv_at hl 6 rfl) ?_
    refine lv_aload_n hx hb dX6_lookFrom_11 rfl (lv_at hl 2 rfl) ?_
    refine lv_iload hx hb dX6_lookFrom_12 (lv_at hl 5 rfl) ?_
    obtain ⟨u_2, e_2, hf⟩ := zbd hf
    refine zcall_i (wr := [(a_p1, .inr (6, [.int f_p1_configuration, .int f_p1_isFound, .int f_p1_best, .int f_p1_sign])), (a_p2, .inr (5, [.ref a_p2_partners])), (a_p2_partners, .inl (cI.1, 30, .inl c_p2_partners)), (a_p3_ofSlots, .inl (cI.1, 30, .inl c_p3_ofSlots))]) (va_runV (As := [.int x5]) (rest := [.int x6, .int x5, .ref a_p1]) ⟨hx, hb, hml, hown, hts⟩ (c_X7_surchargesOf l D cI H.size a_p3 a_p3_ofSlots a_p3_both a_p3_amounts fu f_p3_surcharges c_p3_both c_p3_amounts x5 u_2 e_2) (cwV 1 hts (zG_V kw_82 kw_83 kw_84 kw_85 kw_81) rfl rfl rfl ⟨rfl, hd_X7_surchargesOf⟩ ⟨Nat.le_of_ble_eq_true rfl, Nat.le_of_ble_eq_true rfl⟩) ⟨zblind, va_recv hK hP (ci := 7) (q0 := 3) rfl rfl, zpre hP hD hK hE [3, 5, 6] rfl (by decide)⟩ rfl rfl hl.1 rfl (lv_room (Nat.le_of_ble_eq_true rfl)) dX6_lookFrom_14 ⟨Nat.le_of_ble_eq_true rfl, Nat.le_of_ble_eq_true rfl⟩) hP hD hS hA [3, 5, 6] [0, 1, 2, 4] rfl rfl (by decide) (by decide) (fun r9 uu H locs hX9 hP hD hS => ?_)
    obtain rfl := hX9.symm
    have hP : va_P D vwCl [(a_p1, .inr (6, [.int f_p1_configuration, .int f_p1_isFound, .int f_p1_best, .int f_p1_sign])), (a_p2, .inr (5, [.ref a_p2_partners])), (a_p2_partners, .inl (cI.1, 30, .inl c_p2_partners)), (a_p3_ofSlots, .inl (cI.1, 30, .inl c_p3_ofSlots)), (a_p3, .inr (7, [.ref a_p3_ofSlots, .int f_p3_surcharges, .ref a_p3_both, .ref a_p3_amounts])), (a_p3_both, .inl (cI.1, 10, .inl c_p3_both)), (a_p3_amounts, .inl (cI.1, 10, .inl c_p3_amounts))] H := hP
    have hD : va_D A [(a_p1, .inr (6, [.int f_p1_configuration, .int f_p1_isFound, .int f_p1_best, .int f_p1_sign])), (a_p2, .inr (5, [.ref a_p2_partners])), (a_p2_partners, .inl (cI.1, 30, .inl c_p2_partners)), (a_p3_ofSlots, .inl (cI.1, 30, .inl c_p3_ofSlots)), (a_p3, .inr (7, [.ref a_p3_ofSlots, .int f_p3_surcharges, .ref a_p3_both, .ref a_p3_amounts])), (a_p3_both, .inl (cI.1, 10, .inl c_p3_both)), (a_p3_amounts, .inl (cI.1, 10, .inl c_p3_amounts))] := hD
    refine lv_iadd hx hb dX6_lookFrom_17 ?_
    obtain ⟨u_3, e_3, hf⟩ := zbd hf
    refine zcall_v (wr := [(a_p2, .inr (5, [.ref a_p2_partners])), (a_p2_partners, .inl (cI.1, 30, .inl c_p2_partners)), (a_p3_ofSlots, .inl (cI.1, 30, .inl c_p3_ofSlots)), (a_p3, .inr (7, [.ref a_p3_ofSlots, .int f_p3_surcharges, .ref a_p3_both, .ref a_p3_amounts])), (a_p3_both, .inl (cI.1, 10, .inl c_p3_both)), (a_p3_amounts, .inl (cI.1, 10, .inl c_p3_amounts))]) (va_runV (As := [.int x5, .int (x6 + u_2)]) (rest := []) ⟨hx, hb, hml, hown, hts⟩ (c_X6_meet l D cI H.size a_p1 f_p1_configuration f_p1_isFound f_p1_best f_p1_sign x5 (x6 + u_2) u_3 e_3) (cwV 2 hts (zG_V kw_87 kw_88 kw_89 kw_90 kw_86) rfl rfl rfl ⟨rfl, hd_X6_meet⟩ ⟨Nat.le_of_ble_eq_true rfl, Nat.le_of_ble_eq_true rfl⟩) ⟨zblind, va_recv hK hP (ci := 6) (q0 := 0) rfl rfl, zpre hP hD hK hE [0] rfl (by decide)⟩ rfl rfl hl.1 rfl (lv_room (Nat.le_of_ble_eq_true rfl)) dX6_lookFrom_18 ⟨Nat.le_of_ble_eq_true rfl, Nat.le_of_ble_eq_true rfl⟩) hP hD hS hA [0] [1, 2, 3, 4, 5, 6] rfl rfl (by decide) (by decide) (fun uu H locs hX9 hP hD hS => ?_)
    have hP : va_P D vwCl [(a_p2, .inr (5, [.ref a_p2_partners])), (a_p2_partners, .inl (cI.1, 30, .inl c_p2_partners)), (a_p3_ofSlots, .inl (cI.1, 30, .inl c_p3_ofSlots)), (a_p3, .inr (7, [.ref a_p3_ofSlots, .int f_p3_surcharges, .ref a_p3_both, .ref a_p3_amounts])), (a_p3_both, .inl (cI.1, 10, .inl c_p3_both)), (a_p3_amounts, .inl (cI.1, 10, .inl c_p3_amounts)), (a_p1, .inr (6, [.int u_3.2.1, .int u_3.2.2.1, .int u_3.2.2.2, .int f_p1_sign]))] H := hP
    have hD : va_D A [(a_p2, .inr (5, [.ref a_p2_partners])), (a_p2_partners, .inl (cI.1, 30, .inl c_p2_partners)), (a_p3_ofSlots, .inl (cI.1, 30, .inl c_p3_ofSlots)), (a_p3, .inr (7, [.ref a_p3_ofSlots, .int f_p3_surcharges, .ref a_p3_both, .ref a_p3_amounts])), (a_p3_both, .inl (cI.1, 10, .inl c_p3_both)), (a_p3_amounts, .inl (cI.1, 10, .inl c_p3_amounts)), (a_p1, .inr (6, [.int u_3.2.1, .int u_3.2.2.1, .int u_3.2.2.2, .int f_p1_sign]))] := hD
    obtain rfl := Option.some.inj hf
    exact zret_v hx hb hr trivial () hP hD hS [6, 0, 1, 3, 2, 4, 5] rfl (by decide) dX6_lookFrom_21 hlocks
theorem c_X6_lookFrom (l : Launch) (D : va_G) (cI : ClassId × ClassId) (sz : Nat) (d : Nat) (a_p1 : Nat) (a_p2 : Nat) (a_p2_partners : Nat) (a_p3 : Nat) (a_p3_ofSlots : Nat) (a_p3_both : Nat) (a_p3_amounts : Nat) (fu : Nat) (f_p1_configuration : Int32) (f_p1_isFound : Int32) (f_p1_best : Int32) (f_p1_sign : Int32) (c_p2_partners : Nat → Int32) (f_p3_surcharges : Int32) (c_p3_ofSlots : Nat → Int32) (c_p3_both : Nat → Int32) (c_p3_amounts : Nat → Int32) (x3 : Int32) (x4 : Int32) (x5 : Int32) (x6 : Int32) (r : Int32 × Int32 × Int32 × Int32) (hf : m_X6_lookFrom d fu f_p1_configuration f_p1_isFound f_p1_best f_p1_sign c_p2_partners f_p3_surcharges c_p3_ofSlots c_p3_both c_p3_amounts x3 x4 x5 x6 = some r) : Met l yX6_lookFrom (zw (Cond.code yX6_lookFrom cX6_lookFrom 10 none)) (rm_X6_lookFrom d) (va_Pc [.ref a_p1, .ref a_p2, .ref a_p3, .int x3, .int x4, .int x5, .int x6] (zA D cI [(a_p1, .inr (6, [.int f_p1_configuration, .int f_p1_isFound, .int f_p1_best, .int f_p1_sign])), (a_p2, .inr (5, [.ref a_p2_partners])), (a_p2_partners, .inl (cI.1, 30, .inl c_p2_partners)), (a_p3, .inr (7, [.ref a_p3_ofSlots, .int f_p3_surcharges, .ref a_p3_both, .ref a_p3_amounts])), (a_p3_ofSlots, .inl (cI.1, 30, .inl c_p3_ofSlots)), (a_p3_both, .inl (cI.1, 10, .inl c_p3_both)), (a_p3_amounts, .inl (cI.1, 10, .inl c_p3_amounts))] sz)) (zQv D (va_A [(a_p1, .inr (6, [.int f_p1_configuration, .int f_p1_isFound, .int f_p1_best, .int f_p1_sign])), (a_p2, .inr (5, [.ref a_p2_partners])), (a_p2_partners, .inl (cI.1, 30, .inl c_p2_partners)), (a_p3, .inr (7, [.ref a_p3_ofSlots, .int f_p3_surcharges, .ref a_p3_both, .ref a_p3_amounts])), (a_p3_ofSlots, .inl (cI.1, 30, .inl c_p3_ofSlots)), (a_p3_both, .inl (cI.1, 10, .inl c_p3_both)), (a_p3_amounts, .inl (cI.1, 10, .inl c_p3_amounts))] sz) (True) (fun (u : Unit) => ([(a_p1, .inr (6, [.int r.2.1, .int r.2.2.1, .int r.2.2.2, .int f_p1_sign])), (a_p2, .inr (5, [.ref a_p2_partners])), (a_p2_partners, .inl (cI.1, 30, .inl c_p2_partners)), (a_p3, .inr (7, [.ref a_p3_ofSlots, .int f_p3_surcharges, .ref a_p3_both, .ref a_p3_amounts])), (a_p3_ofSlots, .inl (cI.1, 30, .inl c_p3_ofSlots)), (a_p3_both, .inl (cI.1, 10, .inl c_p3_both)), (a_p3_amounts, .inl (cI.1, 10, .inl c_p3_amounts))] : va_W))) 0 0 (va_A [(a_p1, .inr (6, [.int f_p1_configuration, .int f_p1_isFound, .int f_p1_best, .int f_p1_sign])), (a_p2, .inr (5, [.ref a_p2_partners])), (a_p2_partners, .inl (cI.1, 30, .inl c_p2_partners)), (a_p3, .inr (7, [.ref a_p3_ofSlots, .int f_p3_surcharges, .ref a_p3_both, .ref a_p3_amounts])), (a_p3_ofSlots, .inl (cI.1, 30, .inl c_p3_ofSlots)), (a_p3_both, .inl (cI.1, 10, .inl c_p3_both)), (a_p3_amounts, .inl (cI.1, 10, .inl c_p3_amounts))] sz) := ci_X6_lookFrom l D cI d sz a_p1 a_p2 a_p2_partners a_p3 a_p3_ofSlots a_p3_both a_p3_amounts fu f_p1_configuration f_p1_isFound f_p1_best f_p1_sign c_p2_partners f_p3_surcharges c_p3_ofSlots c_p3_both c_p3_amounts x3 x4 x5 x6 r hf
noncomputable def m_X6_least (fu : Nat) (f_t_configuration : Int32) (f_t_isFound : Int32) (f_t_best : Int32) (f_t_sign : Int32) (c_p1_partners : Nat → Int32) (f_p2_surcharges : Int32) (c_p2_ofSlots : Nat → Int32) (c_p2_both : Nat → Int32) (c_p2_amounts : Nat → Int32) (x3 : Int32) (x4 : Int32) : Option (Int32 × Int32 × Int32 × Int32 × Int32) :=
  (m_X6_start f_t_isFound f_t_sign (1 : Int32)).bind fun u_1 => (m_X6_lookFrom 7 fu f_t_configuration u_1.2.1 f_t_best u_1.2.2 c_p1_partners f_p2_surcharges c_p2_ofSlots c_p2_both c_p2_amounts x3 (0 : Int32) x4 (0 : Int32)).bind fun u_2 => some (u_2.2.2.2, u_2.2.1, u_2.2.2.1, u_2.2.2.2, u_1.2.2)
def rm_X6_least : Room := { frames := 10, cells := 0, slots := 0, locals := 276 }
theorem hd_X6_least : yX6_least.cls ≠ "java/lang/invoke/MethodHandle" ∧ yX6_least.cls ≠ "java/lang/invoke/VarHandle" ∧ (parseMethodDescriptor yX6_least.desc).map (fun d => d.parameters.length) = some 4 := by decide +kernel
set_option maxHeartbeats 4000000 in
set_option maxRecDepth 100000 in
theorem c_X6_least (l : Launch) (D : va_G) (cI : ClassId × ClassId) (sz : Nat) (a_t : Nat) (a_p1 : Nat) (a_p1_partners : Nat) (a_p2 : Nat) (a_p2_ofSlots : Nat) (a_p2_both : Nat) (a_p2_amounts : Nat) (fu : Nat) (f_t_configuration : Int32) (f_t_isFound : Int32) (f_t_best : Int32) (f_t_sign : Int32) (c_p1_partners : Nat → Int32) (f_p2_surcharges : Int32) (c_p2_ofSlots : Nat → Int32) (c_p2_both : Nat → Int32) (c_p2_amounts : Nat → Int32) (x3 : Int32) (x4 : Int32) (r : Int32 × Int32 × Int32 × Int32 × Int32) (hf : m_X6_least fu f_t_configuration f_t_isFound f_t_best f_t_sign c_p1_partners f_p2_surcharges c_p2_ofSlots c_p2_both c_p2_amounts x3 x4 = some r) : Met l yX6_least (zw (Cond.code yX6_least cX6_least 5 (some .int))) rm_X6_least (va_Pc [.ref a_t, .ref a_p1, .ref a_p2, .int x3, .int x4] (zA D cI [(a_t, .inr (6, [.int f_t_configuration, .int f_t_isFound, .int f_t_best, .int f_t_sign])), (a_p1, .inr (5, [.ref a_p1_partners])), (a_p1_partners, .inl (cI.1, 30, .inl c_p1_partners)), (a_p2, .inr (7, [.ref a_p2_ofSlots, .int f_p2_surcharges, .ref a_p2_both, .ref a_p2_amounts])), (a_p2_ofSlots, .inl (cI.1, 30, .inl c_p2_ofSlots)), (a_p2_both, .inl (cI.1, 10, .inl c_p2_both)), (a_p2_amounts, .inl (cI.1, 10, .inl c_p2_amounts))] sz)) (zQi D (va_A [(a_t, .inr (6, [.int f_t_configuration, .int f_t_isFound, .int f_t_best, .int f_t_sign])), (a_p1, .inr (5, [.ref a_p1_partners])), (a_p1_partners, .inl (cI.1, 30, .inl c_p1_partners)), (a_p2, .inr (7, [.ref a_p2_ofSlots, .int f_p2_surcharges, .ref a_p2_both, .ref a_p2_amounts])), (a_p2_ofSlots, .inl (cI.1, 30, .inl c_p2_ofSlots)), (a_p2_both, .inl (cI.1, 10, .inl c_p2_both)), (a_p2_amounts, .inl (cI.1, 10, .inl c_p2_amounts))] sz) (fun v => v = r.1) (fun (u : Unit) => ([(a_t, .inr (6, [.int r.2.1, .int r.2.2.1, .int r.2.2.2.1, .int r.2.2.2.2])), (a_p1, .inr (5, [.ref a_p1_partners])), (a_p1_partners, .inl (cI.1, 30, .inl c_p1_partners)), (a_p2, .inr (7, [.ref a_p2_ofSlots, .int f_p2_surcharges, .ref a_p2_both, .ref a_p2_amounts])), (a_p2_ofSlots, .inl (cI.1, 30, .inl c_p2_ofSlots)), (a_p2_both, .inl (cI.1, 10, .inl c_p2_both)), (a_p2_amounts, .inl (cI.1, 10, .inl c_p2_amounts))] : va_W))) 0 0 (va_A [(a_t, .inr (6, [.int f_t_configuration, .int f_t_isFound, .int f_t_best, .int f_t_sign])), (a_p1, .inr (5, [.ref a_p1_partners])), (a_p1_partners, .inl (cI.1, 30, .inl c_p1_partners)), (a_p2, .inr (7, [.ref a_p2_ofSlots, .int f_p2_surcharges, .ref a_p2_both, .ref a_p2_amounts])), (a_p2_ofSlots, .inl (cI.1, 30, .inl c_p2_ofSlots)), (a_p2_both, .inl (cI.1, 10, .inl c_p2_both)), (a_p2_amounts, .inl (cI.1, 10, .inl c_p2_amounts))] sz) := by
  unfold m_X6_least at hf
  refine zhead (C := RX6) (by decide +kernel) rfl ?_
  intro p e s m below meth c hx hb hr hlocks hml hown hnm hts hE hK H hP hS hD hA
  generalize va_A [(a_t, .inr (6, [.int f_t_configuration, .int f_t_isFound, .int f_t_best, .int f_t_sign])), (a_p1, .inr (5, [.ref a_p1_partners])), (a_p1_partners, .inl (cI.1, 30, .inl c_p1_partners)), (a_p2, .inr (7, [.ref a_p2_ofSlots, .int f_p2_surcharges, .ref a_p2_both, .ref a_p2_amounts])), (a_p2_ofSlots, .inl (cI.1, 30, .inl c_p2_ofSlots)), (a_p2_both, .inl (cI.1, 10, .inl c_p2_both)), (a_p2_amounts, .inl (cI.1, 10, .inl c_p2_amounts))] sz = A at hS hD hA ⊢
  have hl := lv_entry ([.ref a_t, .ref a_p1, .ref a_p2, .int x3, .int x4]) (n := 5) (Nat.le_of_ble_eq_true rfl)
  rw [lg_entry_eq]
  generalize (lg_sl ([.ref a_t, .ref a_p1, .ref a_p2, .int x3, .int x4]) ++ List.replicate (5 - (lg_sl ([.ref a_t, .ref a_p1, .ref a_p2, .int x3, .int x4])).length) Slot.unset).toArray = ls at hl ⊢
  have hl : lv_has ls 5 [(0, .ref a_t), (1, .ref a_p1), (2, .ref a_p2), (3, .int x3), (4, .int x4)] := hl

  refine lv_aload_n hx hb dX6_least_0 rfl (lv_at hl 0 rfl) ?_
  refine lv_iconst (v := 1) hx hb dX6_least_1 (by decide) ?_
  obtain ⟨u_1, e_1, hf⟩ := zbd hf
  refine zcall_v (wr := [(a_p1, .inr (5, [.ref a_p1_partners])), (a_p1_partners, .inl (cI.1, 30, .inl c_p1_partners)), (a_p2, .inr (7, [.ref a_p2_ofSlots, .int f_p2_surcharges, .ref a_p2_both, .ref a_p2_amounts])), (a_p2_ofSlots, .inl (cI.1, 30, .inl c_p2_ofSlots)), (a_p2_both, .inl (cI.1, 10, .inl c_p2_both)), (a_p2_amounts, .inl (cI.1, 10, .inl c_p2_amounts))]) (va_runV (As := [.int 1]) (rest := []) ⟨hx, hb, hml, hown, hts⟩ (c_X6_start l D cI H.size a_t f_t_configuration f_t_isFound f_t_best f_t_sign (1 : Int32) u_1 e_1) (cwV 1 hts (zG_V kw_97 kw_98 kw_99 kw_90 kw_96) rfl rfl rfl ⟨rfl, hd_X6_start⟩ ⟨Nat.le_of_ble_eq_true rfl, Nat.le_of_ble_eq_true rfl⟩) ⟨zblind, va_recv hK hP (ci := 6) (q0 := 0) rfl rfl, zpre hP hD hK hE [0] rfl (by decide)⟩ rfl rfl hl.1 rfl (lv_room (Nat.le_of_ble_eq_true rfl)) dX6_least_2 ⟨Nat.le_of_ble_eq_true rfl, Nat.le_of_ble_eq_true rfl⟩) hP hD hS hA [0] [1, 2, 3, 4, 5, 6] rfl rfl (by decide) (by decide) (fun uu H locs hX9 hP hD hS => ?_)
  have hP : va_P D vwCl [(a_p1, .inr (5, [.ref a_p1_partners])), (a_p1_partners, .inl (cI.1, 30, .inl c_p1_partners)), (a_p2, .inr (7, [.ref a_p2_ofSlots, .int f_p2_surcharges, .ref a_p2_both, .ref a_p2_amounts])), (a_p2_ofSlots, .inl (cI.1, 30, .inl c_p2_ofSlots)), (a_p2_both, .inl (cI.1, 10, .inl c_p2_both)), (a_p2_amounts, .inl (cI.1, 10, .inl c_p2_amounts)), (a_t, .inr (6, [.int f_t_configuration, .int u_1.2.1, .int f_t_best, .int u_1.2.2]))] H := hP
  have hD : va_D A [(a_p1, .inr (5, [.ref a_p1_partners])), (a_p1_partners, .inl (cI.1, 30, .inl c_p1_partners)), (a_p2, .inr (7, [.ref a_p2_ofSlots, .int f_p2_surcharges, .ref a_p2_both, .ref a_p2_amounts])), (a_p2_ofSlots, .inl (cI.1, 30, .inl c_p2_ofSlots)), (a_p2_both, .inl (cI.1, 10, .inl c_p2_both)), (a_p2_amounts, .inl (cI.1, 10, .inl c_p2_amounts)), (a_t, .inr (6, [.int f_t_configuration, .int u_1.2.1, .int f_t_best, .int u_1.2.2]))] := hD
  refine lv_aload_n hx hb dX6_least_5 rfl (lv_at hl 0 rfl) ?_
  refine lv_aload_n hx hb dX6_least_6 rfl (lv_at hl 1 rfl) ?_
  refine lv_aload_n hx hb dX6_least_7 rfl (lv_at hl 2 rfl) ?_
  refine lv_iload_n hx hb dX6_least_8 rfl (lv_at hl 3 rfl) ?_
  refine lv_iconst (v := 0) hx hb dX6_least_9 (by decide) ?_
  refine lv_iload hx hb dX6_least_10 (lv_at hl 4 rfl) ?_
  refine lv_iconst (v := 0) hx hb dX6_least_12 (by decide) ?_
  obtain ⟨u_2, e_2, hf⟩ := zbd hf
  refine zcall_v (wr := []) (va_runS (As := [.ref a_t, .ref a_p1, .ref a_p2, .int x3, .int 0, .int x4, .int 0]) (rest := []) ⟨hx, hb, hml, hown, hts⟩ (c_X6_lookFrom l D cI H.size 7 a_t a_p1 a_p1_partners a_p2 a_p2_ofSlots a_p2_both a_p2_amounts fu f_t_configuration u_1.2.1 f_t_best u_1.2.2 c_p1_partners f_p2_surcharges c_p2_ofSlots c_p2_both c_p2_amounts x3 (0 : Int32) x4 (0 : Int32) u_2 e_2) (va_cwS 7 hts (zG_S kw_94 kw_95 kw_90 kw_93) rfl rfl rfl hd_X6_lookFrom ⟨Nat.le_of_ble_eq_true rfl, Nat.le_of_ble_eq_true rfl⟩) ⟨zblind, zpre hP hD hK hE [6, 0, 1, 2, 3, 4, 5] rfl (by decide)⟩ rfl rfl hl.1 rfl (lv_room (Nat.le_of_ble_eq_true rfl)) dX6_least_13 ⟨Nat.le_of_ble_eq_true rfl, Nat.le_of_ble_eq_true rfl⟩) hP hD hS hA [6, 0, 1, 2, 3, 4, 5] [] rfl rfl (by decide) (by decide) (fun uu H locs hX9 hP hD hS => ?_)
  have hP : va_P D vwCl [(a_t, .inr (6, [.int u_2.2.1, .int u_2.2.2.1, .int u_2.2.2.2, .int u_1.2.2])), (a_p1, .inr (5, [.ref a_p1_partners])), (a_p1_partners, .inl (cI.1, 30, .inl c_p1_partners)), (a_p2, .inr (7, [.ref a_p2_ofSlots, .int f_p2_surcharges, .ref a_p2_both, .ref a_p2_amounts])), (a_p2_ofSlots, .inl (cI.1, 30, .inl c_p2_ofSlots)), (a_p2_both, .inl (cI.1, 10, .inl c_p2_both)), (a_p2_amounts, .inl (cI.1, 10, .inl c_p2_amounts))] H := hP
  have hD : va_D A [(a_t, .inr (6, [.int u_2.2.1, .int u_2.2.2.1, .int u_2.2.2.2, .int u_1.2.2])), (a_p1, .inr (5, [.ref a_p1_partners])), (a_p1_partners, .inl (cI.1, 30, .inl c_p1_partners)), (a_p2, .inr (7, [.ref a_p2_ofSlots, .int f_p2_surcharges, .ref a_p2_both, .ref a_p2_amounts])), (a_p2_ofSlots, .inl (cI.1, 30, .inl c_p2_ofSlots)), (a_p2_both, .inl (cI.1, 10, .inl c_p2_both)), (a_p2_amounts, .inl (cI.1, 10, .inl c_p2_amounts))] := hD
  refine lv_aload_n hx hb dX6_least_16 rfl (lv_at hl 0 rfl) ?_
  refine va_get (D := D) (ci := 6) (v := .int u_2.2.2.2) (C := RX6) (T := TX6) (N := 4) hx hb hts (fun w h => zw_in (inX6 w h)) hown hK hP 0 rfl rfl 2 (by decide) (hts _ (zw_in kw_79)) (fun _ h9 => h9) rfl dX6_least_17 ?_
  obtain rfl := Option.some.inj hf
  exact zret_i hx hb hr rfl rfl () hP hD hS [0, 1, 2, 3, 4, 5, 6] rfl (by decide) dX6_least_20 hlocks
noncomputable def m_X6_greatest (fu : Nat) (f_t_configuration : Int32) (f_t_isFound : Int32) (f_t_best : Int32) (f_t_sign : Int32) (c_p1_partners : Nat → Int32) (f_p2_surcharges : Int32) (c_p2_ofSlots : Nat → Int32) (c_p2_both : Nat → Int32) (c_p2_amounts : Nat → Int32) (x3 : Int32) (x4 : Int32) : Option (Int32 × Int32 × Int32 × Int32 × Int32) :=
  (m_X6_start f_t_isFound f_t_sign (-1 : Int32)).bind fun u_1 => (m_X6_lookFrom 7 fu f_t_configuration u_1.2.1 f_t_best u_1.2.2 c_p1_partners f_p2_surcharges c_p2_ofSlots c_p2_both c_p2_amounts x3 (0 : Int32) x4 (0 : Int32)).bind fun u_2 => some (u_2.2.2.2, u_2.2.1, u_2.2.2.1, u_2.2.2.2, u_1.2.2)
def rm_X6_greatest : Room := { frames := 10, cells := 0, slots := 0, locals := 276 }
theorem hd_X6_greatest : yX6_greatest.cls ≠ "java/lang/invoke/MethodHandle" ∧ yX6_greatest.cls ≠ "java/lang/invoke/VarHandle" ∧ (parseMethodDescriptor yX6_greatest.desc).map (fun d => d.parameters.length) = some 4 := by decide +kernel
set_option maxHeartbeats 4000000 in
set_option maxRecDepth 100000 in
theorem c_X6_greatest (l : Launch) (D : va_G) (cI : ClassId × ClassId) (sz : Nat) (a_t : Nat) (a_p1 : Nat) (a_p1_partners : Nat) (a_p2 : Nat) (a_p2_ofSlots : Nat) (a_p2_both : Nat) (a_p2_amounts : Nat) (fu : Nat) (f_t_configuration : Int32) (f_t_isFound : Int32) (f_t_best : Int32) (f_t_sign : Int32) (c_p1_partners : Nat → Int32) (f_p2_surcharges : Int32) (c_p2_ofSlots : Nat → Int32) (c_p2_both : Nat → Int32) (c_p2_amounts : Nat → Int32) (x3 : Int32) (x4 : Int32) (r : Int32 × Int32 × Int32 × Int32 × Int32) (hf : m_X6_greatest fu f_t_configuration f_t_isFound f_t_best f_t_sign c_p1_partners f_p2_surcharges c_p2_ofSlots c_p2_both c_p2_amounts x3 x4 = some r) : Met l yX6_greatest (zw (Cond.code yX6_greatest cX6_greatest 5 (some .int))) rm_X6_greatest (va_Pc [.ref a_t, .ref a_p1, .ref a_p2, .int x3, .int x4] (zA D cI [(a_t, .inr (6, [.int f_t_configuration, .int f_t_isFound, .int f_t_best, .int f_t_sign])), (a_p1, .inr (5, [.ref a_p1_partners])), (a_p1_partners, .inl (cI.1, 30, .inl c_p1_partners)), (a_p2, .inr (7, [.ref a_p2_ofSlots, .int f_p2_surcharges, .ref a_p2_both, .ref a_p2_amounts])), (a_p2_ofSlots, .inl (cI.1, 30, .inl c_p2_ofSlots)), (a_p2_both, .inl (cI.1, 10, .inl c_p2_both)), (a_p2_amounts, .inl (cI.1, 10, .inl c_p2_amounts))] sz)) (zQi D (va_A [(a_t, .inr (6, [.int f_t_configuration, .int f_t_isFound, .int f_t_best, .int f_t_sign])), (a_p1, .inr (5, [.ref a_p1_partners])), (a_p1_partners, .inl (cI.1, 30, .inl c_p1_partners)), (a_p2, .inr (7, [.ref a_p2_ofSlots, .int f_p2_surcharges, .ref a_p2_both, .ref a_p2_amounts])), (a_p2_ofSlots, .inl (cI.1, 30, .inl c_p2_ofSlots)), (a_p2_both, .inl (cI.1, 10, .inl c_p2_both)), (a_p2_amounts, .inl (cI.1, 10, .inl c_p2_amounts))] sz) (fun v => v = r.1) (fun (u : Unit) => ([(a_t, .inr (6, [.int r.2.1, .int r.2.2.1, .int r.2.2.2.1, .int r.2.2.2.2])), (a_p1, .inr (5, [.ref a_p1_partners])), (a_p1_partners, .inl (cI.1, 30, .inl c_p1_partners)), (a_p2, .inr (7, [.ref a_p2_ofSlots, .int f_p2_surcharges, .ref a_p2_both, .ref a_p2_amounts])), (a_p2_ofSlots, .inl (cI.1, 30, .inl c_p2_ofSlots)), (a_p2_both, .inl (cI.1, 10, .inl c_p2_both)), (a_p2_amounts, .inl (cI.1, 10, .inl c_p2_amounts))] : va_W))) 0 0 (va_A [(a_t, .inr (6, [.int f_t_configuration, .int f_t_isFound, .int f_t_best, .int f_t_sign])), (a_p1, .inr (5, [.ref a_p1_partners])), (a_p1_partners, .inl (cI.1, 30, .inl c_p1_partners)), (a_p2, .inr (7, [.ref a_p2_ofSlots, .int f_p2_surcharges, .ref a_p2_both, .ref a_p2_amounts])), (a_p2_ofSlots, .inl (cI.1, 30, .inl c_p2_ofSlots)), (a_p2_both, .inl (cI.1, 10, .inl c_p2_both)), (a_p2_amounts, .inl (cI.1, 10, .inl c_p2_amounts))] sz) := by
  unfold m_X6_greatest at hf
  refine zhead (C := RX6) (by decide +kernel) rfl ?_
  intro p e s m below meth c hx hb hr hlocks hml hown hnm hts hE hK H hP hS hD hA
  generalize va_A [(a_t, .inr (6, [.int f_t_configuration, .int f_t_isFound, .int f_t_best, .int f_t_sign])), (a_p1, .inr (5, [.ref a_p1_partners])), (a_p1_partners, .inl (cI.1, 30, .inl c_p1_partners)), (a_p2, .inr (7, [.ref a_p2_ofSlots, .int f_p2_surcharges, .ref a_p2_both, .ref a_p2_amounts])), (a_p2_ofSlots, .inl (cI.1, 30, .inl c_p2_ofSlots)), (a_p2_both, .inl (cI.1, 10, .inl c_p2_both)), (a_p2_amounts, .inl (cI.1, 10, .inl c_p2_amounts))] sz = A at hS hD hA ⊢
  have hl := lv_entry ([.ref a_t, .ref a_p1, .ref a_p2, .int x3, .int x4]) (n := 5) (Nat.le_of_ble_eq_true rfl)
  rw [lg_entry_eq]
  generalize (lg_sl ([.ref a_t, .ref a_p1, .ref a_p2, .int x3, .int x4]) ++ List.replicate (5 - (lg_sl ([.ref a_t, .ref a_p1, .ref a_p2, .int x3, .int x4])).length) Slot.unset).toArray = ls at hl ⊢
  have hl : lv_has ls 5 [(0, .ref a_t), (1, .ref a_p1), (2, .ref a_p2), (3, .int x3), (4, .int x4)] := hl

  refine lv_aload_n hx hb dX6_greatest_0 rfl (lv_at hl 0 rfl) ?_
  refine lv_iconst (v := -1) hx hb dX6_greatest_1 (by decide) ?_
  obtain ⟨u_1, e_1, hf⟩ := zbd hf
  refine zcall_v (wr := [(a_p1, .inr (5, [.ref a_p1_partners])), (a_p1_partners, .inl (cI.1, 30, .inl c_p1_partners)), (a_p2, .inr (7, [.ref a_p2_ofSlots, .int f_p2_surcharges, .ref a_p2_both, .ref a_p2_amounts])), (a_p2_ofSlots, .inl (cI.1, 30, .inl c_p2_ofSlots)), (a_p2_both, .inl (cI.1, 10, .inl c_p2_both)), (a_p2_amounts, .inl (cI.1, 10, .inl c_p2_amounts))]) (va_runV (As := [.int (-1)]) (rest := []) ⟨hx, hb, hml, hown, hts⟩ (c_X6_start l D cI H.size a_t f_t_configuration f_t_isFound f_t_best f_t_sign (-1 : Int32) u_1 e_1) (cwV 1 hts (zG_V kw_97 kw_98 kw_99 kw_90 kw_96) rfl rfl rfl ⟨rfl, hd_X6_start⟩ ⟨Nat.le_of_ble_eq_true rfl, Nat.le_of_ble_eq_true rfl⟩) ⟨zblind, va_recv hK hP (ci := 6) (q0 := 0) rfl rfl, zpre hP hD hK hE [0] rfl (by decide)⟩ rfl rfl hl.1 rfl (lv_room (Nat.le_of_ble_eq_true rfl)) dX6_greatest_2 ⟨Nat.le_of_ble_eq_true rfl, Nat.le_of_ble_eq_true rfl⟩) hP hD hS hA [0] [1, 2, 3, 4, 5, 6] rfl rfl (by decide) (by decide) (fun uu H locs hX9 hP hD hS => ?_)
  have hP : va_P D vwCl [(a_p1, .inr (5, [.ref a_p1_partners])), (a_p1_partners, .inl (cI.1, 30, .inl c_p1_partners)), (a_p2, .inr (7, [.ref a_p2_ofSlots, .int f_p2_surcharges, .ref a_p2_both, .ref a_p2_amounts])), (a_p2_ofSlots, .inl (cI.1, 30, .inl c_p2_ofSlots)), (a_p2_both, .inl (cI.1, 10, .inl c_p2_both)), (a_p2_amounts, .inl (cI.1, 10, .inl c_p2_amounts)), (a_t, .inr (6, [.int f_t_configuration, .int u_1.2.1, .int f_t_best, .int u_1.2.2]))] H := hP
  have hD : va_D A [(a_p1, .inr (5, [.ref a_p1_partners])), (a_p1_partners, .inl (cI.1, 30, .inl c_p1_partners)), (a_p2, .inr (7, [.ref a_p2_ofSlots, .int f_p2_surcharges, .ref a_p2_both, .ref a_p2_amounts])), (a_p2_ofSlots, .inl (cI.1, 30, .inl c_p2_ofSlots)), (a_p2_both, .inl (cI.1, 10, .inl c_p2_both)), (a_p2_amounts, .inl (cI.1, 10, .inl c_p2_amounts)), (a_t, .inr (6, [.int f_t_configuration, .int u_1.2.1, .int f_t_best, .int u_1.2.2]))] := hD
  refine lv_aload_n hx hb dX6_greatest_5 rfl (lv_at hl 0 rfl) ?_
  refine lv_aload_n hx hb dX6_greatest_6 rfl (lv_at hl 1 rfl) ?_
  refine lv_aload_n hx hb dX6_greatest_7 rfl (lv_at hl 2 rfl) ?_
  refine lv_iload_n hx hb dX6_greatest_8 rfl (lv_at hl 3 rfl) ?_
  refine lv_iconst (v := 0) hx hb dX6_greatest_9 (by decide) ?_
  refine lv_iload hx hb dX6_greatest_10 (lv_at hl 4 rfl) ?_
  refine lv_iconst (v := 0) hx hb dX6_greatest_12 (by decide) ?_
  obtain ⟨u_2, e_2, hf⟩ := zbd hf
  refine zcall_v (wr := []) (va_runS (As := [.ref a_t, .ref a_p1, .ref a_p2, .int x3, .int 0, .int x4, .int 0]) (rest := []) ⟨hx, hb, hml, hown, hts⟩ (c_X6_lookFrom l D cI H.size 7 a_t a_p1 a_p1_partners a_p2 a_p2_ofSlots a_p2_both a_p2_amounts fu f_t_configuration u_1.2.1 f_t_best u_1.2.2 c_p1_partners f_p2_surcharges c_p2_ofSlots c_p2_both c_p2_amounts x3 (0 : Int32) x4 (0 : Int32) u_2 e_2) (va_cwS 7 hts (zG_S kw_94 kw_95 kw_90 kw_93) rfl rfl rfl hd_X6_lookFrom ⟨Nat.le_of_ble_eq_true rfl, Nat.le_of_ble_eq_true rfl⟩) ⟨zblind, zpre hP hD hK hE [6, 0, 1, 2, 3, 4, 5] rfl (by decide)⟩ rfl rfl hl.1 rfl (lv_room (Nat.le_of_ble_eq_true rfl)) dX6_greatest_13 ⟨Nat.le_of_ble_eq_true rfl, Nat.le_of_ble_eq_true rfl⟩) hP hD hS hA [6, 0, 1, 2, 3, 4, 5] [] rfl rfl (by decide) (by decide) (fun uu H locs hX9 hP hD hS => ?_)
  have hP : va_P D vwCl [(a_t, .inr (6, [.int u_2.2.1, .int u_2.2.2.1, .int u_2.2.2.2, .int u_1.2.2])), (a_p1, .inr (5, [.ref a_p1_partners])), (a_p1_partners, .inl (cI.1, 30, .inl c_p1_partners)), (a_p2, .inr (7, [.ref a_p2_ofSlots, .int f_p2_surcharges, .ref a_p2_both, .ref a_p2_amounts])), (a_p2_ofSlots, .inl (cI.1, 30, .inl c_p2_ofSlots)), (a_p2_both, .inl (cI.1, 10, .inl c_p2_both)), (a_p2_amounts, .inl (cI.1, 10, .inl c_p2_amounts))] H := hP
  have hD : va_D A [(a_t, .inr (6, [.int u_2.2.1, .int u_2.2.2.1, .int u_2.2.2.2, .int u_1.2.2])), (a_p1, .inr (5, [.ref a_p1_partners])), (a_p1_partners, .inl (cI.1, 30, .inl c_p1_partners)), (a_p2, .inr (7, [.ref a_p2_ofSlots, .int f_p2_surcharges, .ref a_p2_both, .ref a_p2_amounts])), (a_p2_ofSlots, .inl (cI.1, 30, .inl c_p2_ofSlots)), (a_p2_both, .inl (cI.1, 10, .inl c_p2_both)), (a_p2_amounts, .inl (cI.1, 10, .inl c_p2_amounts))] := hD
  refine lv_aload_n hx hb dX6_greatest_16 rfl (lv_at hl 0 rfl) ?_
  refine va_get (D := D) (ci := 6) (v := .int u_2.2.2.2) (C := RX6) (T := TX6) (N := 4) hx hb hts (fun w h => zw_in (inX6 w h)) hown hK hP 0 rfl rfl 2 (by decide) (hts _ (zw_in kw_79)) (fun _ h9 => h9) rfl dX6_greatest_17 ?_
  obtain rfl := Option.some.inj hf
  exact zret_i hx hb hr rfl rfl () hP hD hS [0, 1, 2, 3, 4, 5, 6] rfl (by decide) dX6_greatest_20 hlocks
