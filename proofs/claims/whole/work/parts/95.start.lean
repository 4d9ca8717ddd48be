/-! the law starts: what the tables say at its entry -/
theorem st_flags (l : Launch) (h : l.flags = flags0) : l.stackTraces = false := by
  unfold Launch.stackTraces
  rw [h]
  decide +kernel
theorem st_hts {args : Array Value} {s : State} (h : ∀ w ∈ lw_tbl, w.before args s = true) : ∀ w ∈ zw (Cond.initialized RL), w.before args s = true := fun w hw => by
  rcases List.mem_cons.mp hw with rfl | hw
  · exact h _ (by decide +kernel)
  · exact h w (List.mem_filter.mp hw).1
theorem st_N {args : Array Value} {s : State} (h : (Jvm.Cond.and given_1 narrow_1).before args s = true) : Nn s := by
  have hs := flat_of_before _ h
  intro q hq
  exact va_Nc.of (hs _ ((by decide +kernel : ∀ q ∈ ncL, (Cond.not (.castable q.1 q.2)) ∈ flatC (Jvm.Cond.and given_1 narrow_1)) q hq))
theorem st_arr {args : Array Value} {s : State} {ty : FieldType} (hno : ∀ C, ty ≠ .object C) (h : (Cond.arrayClass ty).before args s = true) : ∃ cA : ClassId, ArrOfT s cA ty ∧ va_RA s cA ty := by
  obtain ⟨cA, kA, comp, h1, h2, h3⟩ := Cond.arrayClass_spec h
  refine ⟨cA, fun n z => ⟨fun k h => (by cases h), kA, h2, comp, h3⟩, ?_⟩
  unfold va_RA
  cases ty with
  | object C => exact absurd rfl (hno C)
  | _ => exact h1
theorem st_K {args : Array Value} {s : State} (h : ∀ w ∈ lw_tbl, w.before args s = true) : ∃ (D : va_G) (cI : ClassId × ClassId), va_K D vwCl (zT cI) s := by
  obtain ⟨c0, iS0, hK0⟩ := u_known (C := RX0) (T := TX0) (N := 4) (n := 4) h (by decide +kernel) (h (.instantiable RX0 4) (by decide +kernel))
  obtain ⟨c1, iS1, hK1⟩ := u_known (C := RX1) (T := TX1) (N := 2) (n := 2) h (by decide +kernel) (h (.instantiable RX1 2) (by decide +kernel))
  obtain ⟨c2, iS2, hK2⟩ := u_known (C := RX2) (T := TX2) (N := 7) (n := 7) h (by decide +kernel) (h (.instantiable RX2 7) (by decide +kernel))
  obtain ⟨c3, iS3, hK3⟩ := u_known (C := RX3) (T := TX3) (N := 3) (n := 3) h (by decide +kernel) (h (.instantiable RX3 3) (by decide +kernel))
  obtain ⟨c4, iS4, hK4⟩ := u_known (C := RX4) (T := TX4) (N := 3) (n := 3) h (by decide +kernel) (h (.instantiable RX4 3) (by decide +kernel))
  obtain ⟨c5, iS5, hK5⟩ := u_known (C := RX5) (T := TX5) (N := 1) (n := 1) h (by decide +kernel) (h (.instantiable RX5 1) (by decide +kernel))
  obtain ⟨c6, iS6, hK6⟩ := u_known (C := RX6) (T := TX6) (N := 4) (n := 4) h (by decide +kernel) (h (.instantiable RX6 4) (by decide +kernel))
  obtain ⟨c7, iS7, hK7⟩ := u_known (C := RX7) (T := TX7) (N := 4) (n := 4) h (by decide +kernel) (h (.instantiable RX7 4) (by decide +kernel))
  obtain ⟨c8, iS8, hK8⟩ := u_known (C := RX8) (T := TX8) (N := 5) (n := 5) h (by decide +kernel) (h (.instantiable RX8 5) (by decide +kernel))
  obtain ⟨c9, iS9, hK9⟩ := u_known (C := RX9) (T := TX9) (N := 10) (n := 10) h (by decide +kernel) (h (.instantiable RX9 10) (by decide +kernel))
  obtain ⟨c10, iS10, hK10⟩ := u_known (C := RX10) (T := TX10) (N := 29) (n := 29) h (by decide +kernel) (h (.instantiable RX10 29) (by decide +kernel))
  obtain ⟨a1, ha1, ha2⟩ := st_arr (ty := .int) (fun C h => by cases h) (h (.arrayClass .int) (by decide +kernel))
  obtain ⟨a2, hb1, hb2⟩ := st_arr (ty := .long) (fun C h => by cases h) (h (.arrayClass .long) (by decide +kernel))
  refine ⟨(fun k => match k with | 0 => c0 | 1 => c1 | 2 => c2 | 3 => c3 | 4 => c4 | 5 => c5 | 6 => c6 | 7 => c7 | 8 => c8 | 9 => c9 | 10 => c10 | _ => c0, fun k => match k with | 0 => iS0 | 1 => iS1 | 2 => iS2 | 3 => iS3 | 4 => iS4 | 5 => iS5 | 6 => iS6 | 7 => iS7 | 8 => iS8 | 9 => iS9 | 10 => iS10 | _ => iS0), (a1, a2), fun k q hq => ?_, fun k q hq => ?_⟩
  · match k, hq with
    | 0, hq => cases hq; exact hK0
    | 1, hq => cases hq; exact hK1
    | 2, hq => cases hq; exact hK2
    | 3, hq => cases hq; exact hK3
    | 4, hq => cases hq; exact hK4
    | 5, hq => cases hq; exact hK5
    | 6, hq => cases hq; exact hK6
    | 7, hq => cases hq; exact hK7
    | 8, hq => cases hq; exact hK8
    | 9, hq => cases hq; exact hK9
    | 10, hq => cases hq; exact hK10
    | k + 11, hq => simp at hq
  · match k, hq with
    | 0, hq => cases hq; exact ⟨ha1, ha2⟩
    | 1, hq => cases hq; exact ⟨hb1, hb2⟩
    | k + 2, hq => simp at hq
