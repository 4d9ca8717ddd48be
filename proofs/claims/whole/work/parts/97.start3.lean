/-! from the entry -/
theorem whole_start {p : Program} {e : Env} {s : State} {m : MethodId} {below : List Frame} {meth : Method} {c : Code} (l : Launch) (hflags : l.flags = flags0) {b L : Nat} {xs : Nat → Int32} (hL : L ≤ 3072) (C0 : lw_At p s m meth c b L xs) : W p l e room_1 s m #[Value.ref b] below meth c s.heap [] 0 0 (lw_Z below #[Value.ref b] s) (entryFrame m ([Value.ref b] : List Value).toArray 7) := by
  obtain ⟨hx, hb, hr, hml, hown, hts, hX, hbl, hlocks, hgv⟩ := id C0
  obtain ⟨D, cI, hK⟩ := st_K hts
  exact law_walk l (st_flags l hflags) D cI hL hx hb hr hml hown (st_hts hts) hX hbl hlocks (st_E hts hgv) (st_N hgv) hK (A := fun q => s.heap.size ≤ q) rfl (fun q h => h) (Nat.not_le.mpr hbl) (st_Z hts hgv) 200000 (law_pure (Nat.le_refl _) hL xs)
