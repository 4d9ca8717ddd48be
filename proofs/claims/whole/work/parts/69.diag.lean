/-! the diagram: lists of nodes with their ways -/
def ent (D : List (Int32 × Nat)) (z : Int32) (w : Nat) : List (Int32 × Nat) := if z ∈ D.map Prod.fst then D.map (fun e => if e.1 = z then (e.1, e.2 + w) else e) else D ++ [(z, w)]
def tk (k : Nat) : Int32 := (-1 : Int32) <<< (nI (5 * (k + 1)) &&& 31)
theorem b_tk {k i : Nat} (hk : k < 6) (hi : i < 32) : bt (tk k) i = decide (5 * (k + 1) ≤ i) := by
  unfold tk
  rw [b_shl _ (by omega) _ hi]
  by_cases q : 5 * (k + 1) ≤ i
  · rw [decide_eq_true q, b_m1 _ (by omega)]; rfl
  · rw [decide_eq_false q]; rfl
def RpD (D : List (Int32 × Nat)) (sz : Int32) (cs cw : Nat → Int32) : Prop := sz = nI D.length ∧ ∀ i e, D[i]? = some e → cs i = e.1 ∧ cw i = nI e.2
theorem ent_fst (D : List (Int32 × Nat)) (z : Int32) (w : Nat) : (ent D z w).map Prod.fst = if z ∈ D.map Prod.fst then D.map Prod.fst else D.map Prod.fst ++ [z] := by
  unfold ent
  by_cases q : z ∈ D.map Prod.fst
  · rw [if_pos q, if_pos q, List.map_map]
    refine List.map_congr_left (fun e _ => ?_)
    show (if e.1 = z then (e.1, e.2 + w) else e).1 = e.1
    split <;> rfl
  · rw [if_neg q, if_neg q, List.map_append]
    rfl
theorem ent_len (D : List (Int32 × Nat)) (z : Int32) (w : Nat) : (ent D z w).length = if z ∈ D.map Prod.fst then D.length else D.length + 1 := by
  unfold ent
  split
  · rw [List.length_map]
  · rw [List.length_append, List.length_singleton]
theorem ent_mem {D : List (Int32 × Nat)} {z y : Int32} {w : Nat} (h : y ∈ (ent D z w).map Prod.fst) : y ∈ D.map Prod.fst ∨ y = z := by
  rw [ent_fst] at h
  split at h
  · exact Or.inl h
  · rcases List.mem_append.mp h with h | h
    · exact Or.inl h
    · exact Or.inr (List.mem_singleton.mp h)
theorem ent_nodup {D : List (Int32 × Nat)} {z : Int32} {w : Nat} (h : (D.map Prod.fst).Nodup) : ((ent D z w).map Prod.fst).Nodup := by
  rw [ent_fst]
  split
  · exact h
  · rename_i q
    exact List.nodup_append.mpr ⟨h, by simp, fun a ha b hb => by rw [List.mem_singleton.mp hb]; exact fun e => q (e ▸ ha)⟩
theorem at_uniq {D : List (Int32 × Nat)} (h : (D.map Prod.fst).Nodup) {i j : Nat} {e e' : Int32 × Nat} (h1 : D[i]? = some e) (h2 : D[j]? = some e') (he : e.1 = e'.1) : i = j := by
  have hi : i < D.length := (List.getElem?_eq_some_iff.mp h1).1
  refine (List.getElem?_inj (l := D.map Prod.fst) (by rw [List.length_map]; exact hi) h).mp ?_
  rw [List.getElem?_map, List.getElem?_map, h1, h2]
  show some e.1 = some e'.1
  rw [he]
theorem q_ent_L (fu : Nat) {D : List (Int32 × Nat)} (hd : (D.map Prod.fst).Nodup) {z : Int32} {w : Nat} (hl : D.length ≤ 625) (hz : ¬ z ∈ D.map Prod.fst → D.length < 625) {sz : Int32} {cs cw : Nat → Int32} (hR : RpD D sz cs cw) : ∀ (m i n : Nat), i + m = D.length → m < n → (∀ j e, j < i → D[j]? = some e → ¬ e.1 = z) →
    ∃ sz1 cs1 cw1, m_X2_enter_L2 fu z (nI w) n (nI i) sz cs cw = some (0, sz1, cs1, cw1) ∧ RpD (ent D z w) sz1 cs1 cw1 := by
  obtain ⟨rfl, h1⟩ := hR
  intro m
  induction m with
  | zero =>
    intro i n him hn hno
    obtain ⟨n, rfl⟩ : ∃ k, n = k + 1 := ⟨n - 1, by omega⟩
    have hz2 : ¬ z ∈ D.map Prod.fst := fun h => by
      obtain ⟨e, e1, e2⟩ := List.mem_map.mp h
      obtain ⟨j, hj⟩ := List.mem_iff_getElem?.mp e1
      exact hno j e (by have := (List.getElem?_eq_some_iff.mp hj).1; omega) hj e2
    have := hz hz2
    refine ⟨nI (D.length + 1), upd cs D.length z, upd cw D.length (nI w), ?_, ?_⟩
    · show m_X2_enter_L2_b fu z (nI w) (m_X2_enter_L2 fu z (nI w) n) (nI i) (nI D.length) cs cw = _
      unfold m_X2_enter_L2_b
      rw [if_pos ((nle (by omega) (by omega)).mpr (by omega)), if_neg (show ¬ (625 : Int32) ≤ nI D.length from fun h => by have := (nle (a := 625) (b := D.length) (by omega) (by omega)).mp h; omega), if_neg (nI_in2 (by omega) (by omega)), nI_cl (by omega), n1]
    · refine ⟨by rw [ent_len, if_neg hz2], fun j e he => ?_⟩
      unfold ent at he
      rw [if_neg hz2] at he
      by_cases q : j < D.length
      · rw [List.getElem?_append_left q] at he
        rw [upd_n (by omega), upd_n (by omega)]
        exact h1 j e he
      · rw [List.getElem?_append_right (by omega)] at he
        have hj : j - D.length = 0 := by
          have := (List.getElem?_eq_some_iff.mp he).1
          simp at this
          omega
        rw [hj] at he
        have hj2 : j = D.length := by omega
        cases he
        rw [hj2, upd_s, upd_s]
        exact ⟨rfl, rfl⟩
  | succ m ih =>
    intro i n him hn hno
    obtain ⟨n, rfl⟩ : ∃ k, n = k + 1 := ⟨n - 1, by omega⟩
    have hi : i < D.length := by omega
    have hge : D[i]? = some D[i] := List.getElem?_eq_getElem hi
    show ∃ sz1 cs1 cw1, m_X2_enter_L2_b fu z (nI w) (m_X2_enter_L2 fu z (nI w) n) (nI i) (nI D.length) cs cw = _ ∧ _
    unfold m_X2_enter_L2_b
    rw [if_neg (fun h => by have := (nle (by omega) (by omega)).mp h; omega), if_neg (nI_in2 (by omega) (by omega)), nI_cl (by omega), (h1 i _ hge).1, (h1 i _ hge).2, n1]
    by_cases q : D[i].1 = z
    · rw [if_pos q]
      have hz2 : z ∈ D.map Prod.fst := List.mem_map.mpr ⟨D[i], List.getElem_mem hi, q⟩
      refine ⟨_, _, _, rfl, by rw [ent_len, if_pos hz2], fun j e he => ?_⟩
      unfold ent at he
      rw [if_pos hz2, List.getElem?_map] at he
      cases hj : D[j]? with
      | none => rw [hj] at he; cases he
      | some e0 =>
        rw [hj] at he
        have he2 : (if e0.1 = z then (e0.1, e0.2 + w) else e0) = e := Option.some.inj he
        by_cases q2 : j = i
        · subst q2
          have e00 : e0 = D[j] := by rw [hge] at hj; exact (Option.some.inj hj).symm
          rw [e00, if_pos q] at he2
          rw [upd_s, ← he2, (h1 j _ hge).1, nI_add]
          exact ⟨rfl, rfl⟩
        · rw [upd_n q2]
          rw [if_neg (fun h => q2 (at_uniq hd hj hge (h.trans q.symm)))] at he2
          rw [← he2]
          exact h1 j e0 hj
    · rw [if_neg q]
      refine ih (i + 1) n (by omega) (by omega) (fun j e hj he => ?_)
      by_cases q2 : j = i
      · subst q2
        rw [hge] at he
        rw [← Option.some.inj he]; exact q
      · exact hno j e (by omega) he
theorem q_ent {fu : Nat} (hfu : 200000 ≤ fu) {D : List (Int32 × Nat)} (hd : (D.map Prod.fst).Nodup) {z : Int32} {w : Nat} (hl : D.length ≤ 625) (hz : ¬ z ∈ D.map Prod.fst → D.length < 625) {sz : Int32} {cs cw : Nat → Int32} (hR : RpD D sz cs cw) :
    ∃ sz1 cs1 cw1, m_X2_enter fu sz cs cw z (nI w) = some (0, sz1, cs1, cw1) ∧ RpD (ent D z w) sz1 cs1 cw1 := by
  unfold m_X2_enter
  have := q_ent_L fu (w := w) hd hl hz hR D.length 0 fu (by omega) (by omega) (fun j e hj _ => absurd hj (Nat.not_lt_zero j))
  rw [nI_0] at this
  exact this
/-! how many ways -/
def sW (D : List (Int32 × Nat)) (g : Int32 → Nat) : Nat := (D.map (fun e => e.2 * g e.1)).sum
theorem sW_c (e : Int32 × Nat) (D : List (Int32 × Nat)) (g : Int32 → Nat) : sW (e :: D) g = e.2 * g e.1 + sW D g := by
  unfold sW
  rw [List.map_cons, List.sum_cons]
theorem sW_map {z : Int32} {w : Nat} {g : Int32 → Nat} : ∀ {D : List (Int32 × Nat)}, (D.map Prod.fst).Nodup → sW (D.map (fun e => if e.1 = z then (e.1, e.2 + w) else e)) g = sW D g + (if z ∈ D.map Prod.fst then w * g z else 0)
  | [], _ => by simp [sW]
  | e :: D, h => by
    rw [List.map_cons, List.nodup_cons] at h
    rw [List.map_cons, sW_c, sW_c, sW_map h.2, List.map_cons]
    by_cases q : e.1 = z
    · have hn : ¬ z ∈ D.map Prod.fst := by rw [← q]; exact h.1
      rw [if_pos q, if_neg hn, if_pos (by rw [q]; exact List.mem_cons_self ..)]
      show (e.2 + w) * g e.1 + _ = _
      rw [Nat.add_mul, q]; omega
    · rw [if_neg q]
      by_cases q2 : z ∈ D.map Prod.fst
      · rw [if_pos q2, if_pos (List.mem_cons_of_mem _ q2)]; omega
      · rw [if_neg q2, if_neg (fun h => (List.mem_cons.mp h).elim (fun h => q h.symm) q2)]; omega
theorem sW_ent {D : List (Int32 × Nat)} {z : Int32} {w : Nat} {g : Int32 → Nat} (h : (D.map Prod.fst).Nodup) : sW (ent D z w) g = sW D g + w * g z := by
  unfold ent
  by_cases q : z ∈ D.map Prod.fst
  · rw [if_pos q, sW_map h, if_pos q]
  · rw [if_neg q]
    unfold sW
    rw [List.map_append, List.sum_append]
    simp
theorem cf_low {p : Nat → Int32} : ∀ {m k : Nat} {x x' : Int32}, k + m ≤ 6 → (∀ i, i < 32 → 5 * k ≤ i → bt x i = bt x' i) → cf p m k x = cf p m k x'
  | 0, _, _, _, _, _ => rfl
  | m + 1, k, x, x', hk, h => by
    rw [cf_s, cf_s]
    have : ∀ r v, v + r = 5 → cfo (cfF p m k x) r v = cfo (cfF p m k x') r v := by
      intro r
      induction r with
      | zero => intro v _; rfl
      | succ r ih =>
        intro v hv
        rw [cfo, cfo, ih (v + 1) (by omega)]
        congr 1
        unfold cfF
        rw [h (5 * k + v) (by omega) (by omega)]
        rw [cf_low (m := m) (k := k + 1) (x := x &&& p (5 * k + v)) (x' := x' &&& p (5 * k + v)) (by omega) (fun i hi h2 => by rw [b_and, b_and, h i hi (by omega)])]
    exact this 5 0 rfl
/-- what a node leads to -/
def ldz (p : Nat → Int32) (y : Int32) (k v : Nat) : Int32 := y &&& p (5 * k + v) &&& tk k
def ld (p : Nat → Int32) (N k : Nat) (y : Int32) (w : Nat) : List (Int32 × Nat) → Nat → Nat → List (Int32 × Nat)
  | D, 0, _ => D
  | D, r + 1, v => ld p N k y w (if bt y (5 * k + v) && sl (ldz p y k v) (N - (k + 1)) (k + 1) then ent D (ldz p y k v) w else D) r (v + 1)
theorem sW_ld {p : Nat → Int32} {N k m : Nat} (hN : N ≤ 6) (hk : k + (m + 1) = N) {y : Int32} {w : Nat} : ∀ (r v : Nat) (D : List (Int32 × Nat)), v + r = 5 → (D.map Prod.fst).Nodup → sW (ld p N k y w D r v) (fun z => (cf p m (k + 1) z).length) = sW D (fun z => (cf p m (k + 1) z).length) + w * (cfo (cfF p m k y) r v).length := by
  intro r
  induction r with
  | zero => intro v D _ _; simp [ld, cfo]
  | succ r ih =>
    intro v D hv hd
    have hm : N - (k + 1) = m := by omega
    have hz : (cf p m (k + 1) (ldz p y k v)).length = (cf p m (k + 1) (y &&& p (5 * k + v))).length := by
      rw [cf_low (x := ldz p y k v) (x' := y &&& p (5 * k + v)) (by omega) (fun i hi h => by unfold ldz; rw [b_and, b_tk (by omega) hi, decide_eq_true h, Bool.and_true])]
    rw [ld, cfo, List.length_append, Nat.mul_add, hm]
    cases hb : bt y (5 * k + v) with
    | false =>
      rw [Bool.false_and, if_neg (by decide), ih (v + 1) D (by omega) hd]
      unfold cfF
      rw [hb]; simp
    | true =>
      rw [Bool.true_and]
      have e : (cfF p m k y v).length = (cf p m (k + 1) (ldz p y k v)).length := by
        unfold cfF
        rw [hb, if_pos rfl, List.length_map, hz]
      rw [e]
      cases hs : sl (ldz p y k v) m (k + 1) with
      | false =>
        rw [if_neg (by decide), ih (v + 1) D (by omega) hd, cf_sl (by omega) hs]; simp
      | true =>
        rw [if_pos rfl, ih (v + 1) _ (by omega) (ent_nodup hd), sW_ent hd, Nat.add_assoc]
