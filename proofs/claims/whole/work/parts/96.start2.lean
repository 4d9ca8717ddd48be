/-! strings, links, statics at the entry -/
theorem st_str {args : Array Value} {s : State} {own C : String} {k : Nat} (h : (Cond.exactly (Term.string own k) C).before args s = true) : ∃ a, (Term.string own k).eval args s none [] s = some (.ref a) := by
  simp only [Cond.before, Cond.holds] at h
  cases he : (Term.string own k).eval args s none [] s with
  | none => simp [Cond.value, he] at h
  | some v =>
    cases v with
    | ref a => exact ⟨a, rfl⟩
    | null => cases hf : s.vm.findClass C <;> simp [Cond.value, he, hf] at h
    | _ => simp [Cond.value, he] at h
theorem st_E {args : Array Value} {s : State} (h : ∀ w ∈ lw_tbl, w.before args s = true) (hg : (Jvm.Cond.and given_1 narrow_1).before args s = true) : Ev s := by
  have hs := flat_of_before _ hg
  refine ⟨fun w hw => va_Nw.of ((by decide +kernel : ∀ w ∈ evL, w.onTables = true) w hw) (h w (List.mem_append_right _ (List.mem_filter.mp hw).1)), fun q hq => ?_⟩
  obtain ⟨a, ha⟩ := st_str (hs _ ((by decide +kernel : ∀ q ∈ evS, (Cond.exactly (Term.string RX9 q.1) "java/lang/String") ∈ flatC (Jvm.Cond.and given_1 narrow_1)) q hq))
  exact ⟨a, vk_R.of (h _ ((by decide +kernel : ∀ q ∈ evS, (Cond.stringRef RX9 q.1 q.2) ∈ lw_tbl) q hq)) ha⟩
theorem st_Z {args : Array Value} {s : State} (h : ∀ w ∈ lw_tbl, w.before args s = true) (hg : (Jvm.Cond.and given_1 narrow_1).before args s = true) : zZ (fun q => s.heap.size ≤ q) s s.heap := by
  have hs := flat_of_before _ hg
  have hA : ∀ a : Nat, a < s.heap.size → ¬ (fun q : Nat => s.heap.size ≤ q) a := fun a ha => Nat.not_le.mpr ha
  have hi : (Cond.initialized Bundle.tN).before args s = true := h _ (by decide +kernel)
  have l1 : (Cond.laysStatic Bundle.tN "UNASSIGNED_STACK" Bundle.steD).before args s = true := h _ (by decide +kernel)
  have l2 : (Cond.laysStatic Bundle.tN "SUPPRESSED_SENTINEL" Bundle.listD).before args s = true := h _ (by decide +kernel)
  have r1 : (Cond.isRef (.static Bundle.tN "UNASSIGNED_STACK" Bundle.steD)).before args s = true := hs _ (by decide +kernel)
  have r2 : (Cond.isRef (.static Bundle.tN "SUPPRESSED_SENTINEL" Bundle.listD)).before args s = true := hs _ (by decide +kernel)
  exact ⟨vx_Zqof l1 hi r1 hA, vx_Zqof l2 hi r2 hA⟩
