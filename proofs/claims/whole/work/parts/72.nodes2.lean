/-! the reference's nodes, level by level -/
section N2
variable {N : Nat} {op : Nat → Nat} {p : Nat → Int32} {ch : Nat → Nat} {os : List Nat} {sz' : Int32} {ord' cho oc : Nat → Int32} {ck c1 ci c2 co : Nat → Int32} {kd sa sb : Nat → Nat} {nr : Nat} {on : Int32}
theorem q_82 {fu : Nat} (hfu : 200000 ≤ fu) (hR : Mb ck c1 ci c2 co kd sa sb nr) (hp : Pg p kd sa sb nr on) (hF : Fo N op oc) {k59 : Int32 → Int32 → Int32 → Int32 → (Nat → Int32) → (Nat → Int32) → (Nat → Int32) → Option (Int32 × Int32 × (Nat → Int32) × (Nat → Int32) × (Nat → Int32))} {k73 : Int32 → Int32 → Int32 → Int32 → Int32 → Int32 → (Nat → Int32) → (Nat → Int32) → (Nat → Int32) → Option (Int32 × Int32 × (Nat → Int32) × (Nat → Int32) × (Nat → Int32))} {x1 x2 th : Int32} {k i w c0 : Nat} (hk : k < N) (hi : i < 700) {y : Int32} (hy : El N op k y) {now al : Nat → Int32} (hnow : now i = y) (hc : k ≤ 3 → c0 + 5 ≤ 625) : ∀ (m a n : Nat) (D : List (Int32 × Nat)) (sz : Int32) (nx : Nat → Int32), a + m = op k → m < n → Kp N op k (c0 + a) D → RpR D sz nx →
    ∃ sz1 nx1, m_X10_nodes_L82 fu (nI N) (nI nr) on oc ck c1 ci c2 co cho k59 k73 n x1 x2 (nI k) sz (nI i) (nI a) th al now nx = k73 x1 x2 (nI k) sz1 (nI (i + 1)) th al now nx1 ∧ RpR (ld p N k y w D (5 - a) a) sz1 nx1 := by
  have hN := hF.1
  have h5 := hF.le5 k hk
  intro m
  induction m with
  | zero =>
    intro a n D sz nx ha hn hK hD
    obtain ⟨n, rfl⟩ : ∃ k, n = k + 1 := ⟨n - 1, by omega⟩
    have e : ∀ r v, v + r = 5 → op k ≤ v → ld p N k y w D r v = D := by
      intro r
      induction r with
      | zero => intro v _ _; rfl
      | succ r ih =>
        intro v h1 h2
        have hb : bt y (5 * k + v) = false := by
          cases hb : bt y (5 * k + v) with
          | false => rfl
          | true =>
            have := (hy _ (by omega) hb).2.2
            rw [show (5 * k + v) % 5 = v by omega, show (5 * k + v) / 5 = k by omega] at this
            omega
        rw [ld, hb, Bool.false_and, if_neg (by decide)]
        exact ih (v + 1) (by omega) (by omega)
    rw [e (5 - a) a (by omega) (by omega)]
    refine ⟨sz, nx, ?_, hD⟩
    show m_X10_nodes_L82_b fu (nI N) (nI nr) on oc ck c1 ci c2 co cho k59 k73 (m_X10_nodes_L82 fu (nI N) (nI nr) on oc ck c1 ci c2 co cho k59 k73 n) x1 x2 (nI k) sz (nI i) (nI a) th al now nx = _
    unfold m_X10_nodes_L82_b
    rw [if_neg (nI_in2 (by omega) (by omega)), nI_cl (n := k) (by omega), (hF.2 k hk).2.2, if_pos ((nle (by omega) (by omega)).mpr (by omega)), n1]
  | succ m ih =>
    intro a n D sz nx ha hn hK hD
    obtain ⟨n, rfl⟩ : ∃ k, n = k + 1 := ⟨n - 1, by omega⟩
    have IH := fun D sz nx => ih (a + 1) n D sz nx (by omega) (by omega)
    rw [show 5 - a = (5 - (a + 1)) + 1 by omega, ld]
    show ∃ sz1 nx1, m_X10_nodes_L82_b fu (nI N) (nI nr) on oc ck c1 ci c2 co cho k59 k73 (m_X10_nodes_L82 fu (nI N) (nI nr) on oc ck c1 ci c2 co cho k59 k73 n) x1 x2 (nI k) sz (nI i) (nI a) th al now nx = _ ∧ _
    unfold m_X10_nodes_L82_b
    rw [if_neg (nI_in2 (by omega) (by omega)), nI_cl (n := k) (by omega), (hF.2 k hk).2.2, if_neg (fun h => by have := (nle (by omega) (by omega)).mp h; omega), if_neg (nI_in2 (by omega) (by omega)), nI_cl (n := i) (by omega), hnow, n5c, nI_add, n1 a]
    cases hb : bt y (5 * k + a) with
    | false =>
      rw [if_neg (fun h => by rw [(holdsO y (by omega)).mp h] at hb; cases hb), Bool.false_and, if_neg (by decide)]
      exact IH D sz nx (hK.up (by omega)) hD
    | true =>
      rw [if_pos ((holdsO y (by omega)).mpr hb), q_beh (by omega) hR hp hF hy hk (show a < 5 by omega), Option.bind_some, Bool.true_and]
      have hz := El_ldz (p := p) (v := a) (show k < 6 by omega) hy
      cases hs : sl (ldz p y k a) (N - (k + 1)) (k + 1) with
      | false =>
        rw [if_neg (show ¬ false = true by decide), if_pos rfl, if_neg (by decide)]
        exact IH D sz nx (hK.up (by omega)) hD
      | true =>
        have hne : ¬ ldz p y k a = -1 := fun h => by
          have h1 : bt (ldz p y k a) 31 = true := by rw [h]; exact b_m1 31 (by omega)
          have := hz 31 (by omega) h1
          omega
        have hlt := hK.cap hN (fun h => by have := hc h; omega)
        obtain ⟨b', q1, q2⟩ := q_isIn hfu (show D.length < 700 by omega) (z := ldz p y k a) hD
        obtain ⟨r1, r2⟩ := RpR_ent hD (z := ldz p y k a) w
        have hK2 : Kp N op k (c0 + (a + 1)) (ent D (ldz p y k a) w) := (hK.ent hz w).up (by omega)
        rw [if_pos rfl, if_neg hne, q1, Option.bind_some, if_pos rfl]
        cases hbb : b' with
        | false =>
          have hn2 : ¬ ldz p y k a ∈ D.map Prod.fst := fun h => by rw [q2.mpr h] at hbb; cases hbb
          rw [if_pos bI_f, hD.1, if_neg (nI_in2 (by omega) (by omega)), nI_cl (by omega), n1]
          exact IH _ _ _ hK2 (r2 hn2)
        | true =>
          rw [if_neg (show ¬ bI true = 0 by decide)]
          exact IH _ sz nx hK2 (r1 (q2.mp hbb))
theorem q_177 {fu : Nat} {k59 : Int32 → Int32 → Int32 → Int32 → (Nat → Int32) → (Nat → Int32) → (Nat → Int32) → Option (Int32 × Int32 × (Nat → Int32) × (Nat → Int32) × (Nat → Int32))} {x1 x2 x3 th : Int32} {al nx : Nat → Int32} {D : List (Int32 × Nat)} (hl : D.length < 700) (hD : RpR D (nI D.length) nx) : ∀ (m i n : Nat) (now : Nat → Int32), i + m = D.length → m < n → (∀ j e, j < i → D[j]? = some e → now j = e.1) →
    ∃ now1, m_X10_nodes_L177 fu (nI N) (nI nr) on oc ck c1 ci c2 co cho k59 n x1 x2 x3 (nI D.length) (nI i) th al now nx = k59 (nI D.length) (x2 + nI D.length) (x3 + 1) th al now1 nx ∧ ∀ j e, D[j]? = some e → now1 j = e.1 := by
  intro m
  induction m with
  | zero =>
    intro i n now him hn h
    obtain ⟨n, rfl⟩ : ∃ k, n = k + 1 := ⟨n - 1, by omega⟩
    refine ⟨now, ?_, fun j e he => h j e (by have := (List.getElem?_eq_some_iff.mp he).1; omega) he⟩
    show m_X10_nodes_L177_b fu (nI N) (nI nr) on oc ck c1 ci c2 co cho k59 (m_X10_nodes_L177 fu (nI N) (nI nr) on oc ck c1 ci c2 co cho k59 n) x1 x2 x3 (nI D.length) (nI i) th al now nx = _
    unfold m_X10_nodes_L177_b
    rw [if_pos ((nle (by omega) (by omega)).mpr (by omega))]
  | succ m ih =>
    intro i n now him hn h
    obtain ⟨n, rfl⟩ : ∃ k, n = k + 1 := ⟨n - 1, by omega⟩
    have hi : i < D.length := by omega
    have hge : D[i]? = some D[i] := List.getElem?_eq_getElem hi
    show ∃ now1, m_X10_nodes_L177_b fu (nI N) (nI nr) on oc ck c1 ci c2 co cho k59 (m_X10_nodes_L177 fu (nI N) (nI nr) on oc ck c1 ci c2 co cho k59 n) x1 x2 x3 (nI D.length) (nI i) th al now nx = _ ∧ _
    unfold m_X10_nodes_L177_b
    rw [if_neg (fun h => by have := (nle (by omega) (by omega)).mp h; omega), if_neg (nI_in2 (by omega) (by omega)), nI_cl (by omega), hD.2 i _ hge, n1]
    refine ih (i + 1) n _ (by omega) (by omega) (fun j e hj he => ?_)
    by_cases q : j = i
    · subst q
      rw [hge] at he
      rw [upd_s, ← Option.some.inj he]
    · rw [upd_n q]; exact h j e (by omega) he
theorem q_73 {fu : Nat} (hfu : 200000 ≤ fu) (hR : Mb ck c1 ci c2 co kd sa sb nr) (hp : Pg p kd sa sb nr on) (hF : Fo N op oc) {k59 : Int32 → Int32 → Int32 → Int32 → (Nat → Int32) → (Nat → Int32) → (Nat → Int32) → Option (Int32 × Int32 × (Nat → Int32) × (Nat → Int32) × (Nat → Int32))} {x2 th : Int32} {k : Nat} (hk : k < N) {L : List (Int32 × Nat)} (hL : L.length ≤ 625) (hL4 : k ≤ 3 → 5 * L.length ≤ 625) (hE : ∀ z, z ∈ L.map Prod.fst → El N op k z) {now al : Nat → Int32} (hnow : ∀ j e, L[j]? = some e → now j = e.1) : ∀ (m i n : Nat) (D : List (Int32 × Nat)) (sz : Int32) (nx : Nat → Int32), i + m = L.length → m < n → Kp N op k (5 * i) D → RpR D sz nx →
    ∃ sz1 nx1, m_X10_nodes_L73 fu (nI N) (nI nr) on oc ck c1 ci c2 co cho k59 n (nI L.length) x2 (nI k) sz (nI i) th al now nx = m_X10_nodes_L177 fu (nI N) (nI nr) on oc ck c1 ci c2 co cho k59 fu (nI L.length) x2 (nI k) sz1 0 th al now nx1 ∧ RpR (lvf p N k (L.drop i) D) sz1 nx1 := by
  have hN := hF.1
  intro m
  induction m with
  | zero =>
    intro i n D sz nx him hn hK hD
    obtain ⟨n, rfl⟩ : ∃ k, n = k + 1 := ⟨n - 1, by omega⟩
    rw [List.drop_of_length_le (by omega)]
    refine ⟨sz, nx, ?_, hD⟩
    show m_X10_nodes_L73_b fu (nI N) (nI nr) on oc ck c1 ci c2 co cho k59 (m_X10_nodes_L73 fu (nI N) (nI nr) on oc ck c1 ci c2 co cho k59 n) (nI L.length) x2 (nI k) sz (nI i) th al now nx = _
    unfold m_X10_nodes_L73_b
    rw [if_pos ((nle (by omega) (by omega)).mpr (by omega))]
  | succ m ih =>
    intro i n D sz nx him hn hK hD
    obtain ⟨n, rfl⟩ : ∃ k, n = k + 1 := ⟨n - 1, by omega⟩
    have hi : i < L.length := by omega
    have hge : L[i]? = some L[i] := List.getElem?_eq_getElem hi
    have hy := hE L[i].1 (List.mem_map.mpr ⟨L[i], List.getElem_mem hi, rfl⟩)
    have h5 := hF.le5 k hk
    obtain ⟨sz1, nx1, e1, e2⟩ := q_82 (cho := cho) hfu hR hp hF (k59 := k59) (k73 := m_X10_nodes_L73 fu (nI N) (nI nr) on oc ck c1 ci c2 co cho k59 n) (x1 := nI L.length) (x2 := x2) (th := th) (w := L[i].2) (c0 := 5 * i) (al := al) hk (show i < 700 by omega) hy (hnow i _ hge) (fun h => by have := hL4 h; omega) (op k) 0 fu D sz nx (by omega) (by omega) (hK.up (by omega)) hD
    have hK2 := Kp_ld (p := p) (w := L[i].2) (show k < 6 by omega) hy 5 0 (5 * i) D hK
    obtain ⟨sz2, nx2, f1, f2⟩ := ih (i + 1) n _ sz1 nx1 (by omega) (by omega) (hK2.up (by omega)) e2
    rw [List.drop_eq_getElem_cons hi]
    refine ⟨sz2, nx2, ?_, f2⟩
    show m_X10_nodes_L73_b fu (nI N) (nI nr) on oc ck c1 ci c2 co cho k59 (m_X10_nodes_L73 fu (nI N) (nI nr) on oc ck c1 ci c2 co cho k59 n) (nI L.length) x2 (nI k) sz (nI i) th al now nx = _
    unfold m_X10_nodes_L73_b
    rw [nI_0] at e1
    rw [if_neg (fun h => by have := (nle (by omega) (by omega)).mp h; omega), e1]
    exact f1
theorem q_59 {fu : Nat} (hfu : 200000 ≤ fu) (hR : Mb ck c1 ci c2 co kd sa sb nr) (hp : Pg p kd sa sb nr on) (hF : Fo N op oc) {x th : Int32} (hx : El N op 0 x) {al : Nat → Int32} : ∀ (m k n : Nat) (now nx : Nat → Int32), k + m = N → m < n → (∀ j e, (lev p N x k)[j]? = some e → now j = e.1) →
    ∃ now1 nx1, m_X10_nodes_L59 fu (nI N) (nI nr) on oc ck c1 ci c2 co cho n (nI (lev p N x k).length) (nI (tot p N x k)) (nI k) th al now nx = some (nI (tot p N x N), th, al, now1, nx1) := by
  have hN := hF.1
  intro m
  induction m with
  | zero =>
    intro k n now nx hk hn hnow
    obtain ⟨n, rfl⟩ : ∃ k, n = k + 1 := ⟨n - 1, by omega⟩
    have e : k = N := by omega
    subst e
    refine ⟨now, nx, ?_⟩
    show m_X10_nodes_L59_b fu (nI k) (nI nr) on oc ck c1 ci c2 co cho (m_X10_nodes_L59 fu (nI k) (nI nr) on oc ck c1 ci c2 co cho n) _ _ (nI k) th al now nx = _
    unfold m_X10_nodes_L59_b
    rw [if_pos (Int32.le_refl _)]
  | succ m ih =>
    intro k n now nx hk hn hnow
    obtain ⟨n, rfl⟩ : ∃ k, n = k + 1 := ⟨n - 1, by omega⟩
    have h := LvI_all (p := p) hN hx (k := k) (by omega)
    have h' := LvI_all (p := p) hN hx (k := k + 1) (by omega)
    obtain ⟨sz1, nx1, e1, e2⟩ := q_73 (p := p) (cho := cho) hfu hR hp hF (k59 := m_X10_nodes_L59 fu (nI N) (nI nr) on oc ck c1 ci c2 co cho n) (x2 := nI (tot p N x k)) (th := th) (al := al) (show k < N by omega) h.2.2.1 (fun h3 => by
      have h5 := h.2.2.2 (by omega)
      have h6 : (5 : Nat) ^ k ≤ 5 ^ 3 := Nat.pow_le_pow_right (by omega) h3
      omega) h.2.1 hnow (lev p N x k).length 0 fu [] 0 nx (by omega) (by have := h.2.2.1; omega) ⟨by simp, fun z hz => by simp at hz, by simp⟩ ⟨nI_0.symm, fun i e he => by simp at he⟩
    rw [List.drop_zero] at e2
    have e3 : lvf p N k (lev p N x k) [] = lev p N x (k + 1) := rfl
    rw [e3] at e2
    have e4 : sz1 = nI (lev p N x (k + 1)).length := e2.1
    rw [e4] at e1 e2
    have h25 := h'.2.2.1
    obtain ⟨now2, g1, g2⟩ := q_177 (fu := fu) (N := N) (nr := nr) (on := on) (oc := oc) (ck := ck) (c1 := c1) (ci := ci) (c2 := c2) (co := co) (cho := cho) (k59 := m_X10_nodes_L59 fu (nI N) (nI nr) on oc ck c1 ci c2 co cho n) (x1 := nI (lev p N x k).length) (x2 := nI (tot p N x k)) (x3 := nI k) (th := th) (al := al) (show (lev p N x (k + 1)).length < 700 by omega) e2 (lev p N x (k + 1)).length 0 fu now (by omega) (by omega) (fun j e hj _ => absurd hj (Nat.not_lt_zero j))
    obtain ⟨now3, nx3, f1⟩ := ih (k + 1) n now2 nx1 (by omega) (by omega) g2
    refine ⟨now3, nx3, ?_⟩
    show m_X10_nodes_L59_b fu (nI N) (nI nr) on oc ck c1 ci c2 co cho (m_X10_nodes_L59 fu (nI N) (nI nr) on oc ck c1 ci c2 co cho n) _ _ (nI k) th al now nx = _
    unfold m_X10_nodes_L59_b
    rw [nI_0] at e1 g1
    rw [if_neg (fun h => by have := (nle (by omega) (by omega)).mp h; omega), e1, g1, nI_add, n1]
    exact f1
theorem q_20 (fu : Nat) (hF : Fo N op oc) {x th : Int32} {al nx : Nat → Int32} (hl : Rl N op x al) : ∀ (m f n : Nat) (now : Nat → Int32), f + m = N → m < n → (∀ i, i < 32 → bt (now 0) i = (decide (i < 5 * f) && bt x i)) →
    ∃ now1, m_X10_nodes_L20 fu (nI N) (nI nr) on oc ck c1 ci c2 co cho n (nI f) th al now nx = m_X10_nodes_L59 fu (nI N) (nI nr) on oc ck c1 ci c2 co cho fu 1 1 0 th al now1 nx ∧ now1 0 = x := by
  have hN := hF.1
  intro m
  induction m with
  | zero =>
    intro f n now hf hn h
    obtain ⟨n, rfl⟩ : ∃ k, n = k + 1 := ⟨n - 1, by omega⟩
    refine ⟨now, ?_, b_ext (fun i hi => ?_)⟩
    · show m_X10_nodes_L20_b fu (nI N) (nI nr) on oc ck c1 ci c2 co cho (m_X10_nodes_L20 fu (nI N) (nI nr) on oc ck c1 ci c2 co cho n) (nI f) th al now nx = _
      unfold m_X10_nodes_L20_b
      rw [if_pos ((nle (by omega) (by omega)).mpr (by omega))]
    · rw [h i hi]
      cases hb : bt x i with
      | false => rw [Bool.and_false]
      | true => have := hl.2 i hi hb; rw [decide_eq_true (by omega)]; rfl
  | succ m ih =>
    intro f n now hf hn h
    obtain ⟨n, rfl⟩ : ∃ k, n = k + 1 := ⟨n - 1, by omega⟩
    show ∃ now1, m_X10_nodes_L20_b fu (nI N) (nI nr) on oc ck c1 ci c2 co cho (m_X10_nodes_L20 fu (nI N) (nI nr) on oc ck c1 ci c2 co cho n) (nI f) th al now nx = _ ∧ _
    unfold m_X10_nodes_L20_b
    rw [if_neg (fun h => by have := (nle (by omega) (by omega)).mp h; omega), if_neg (nI_in2 (by omega) (by omega)), nI_cl (by omega), n5c, n1, show ((0 : Int32)).toNatClampNeg = 0 from rfl]
    refine ih (f + 1) n _ (by omega) (by omega) (fun i hi => ?_)
    rw [upd_s, b_or, b_shl (5 * f) (by omega) _ hi, h i hi]
    by_cases q1 : 5 * f ≤ i
    · rw [decide_eq_true q1, Bool.true_and, hl.1 f (by omega) (i - 5 * f) (by omega), decide_eq_false (show ¬ i < 5 * f by omega), Bool.false_and, Bool.false_or, show 5 * f + (i - 5 * f) = i by omega]
      congr 1
      exact decide_eq_decide.mpr (by omega)
    · rw [decide_eq_false q1, Bool.false_and, Bool.or_false]
      congr 1
      exact decide_eq_decide.mpr (by omega)
theorem q_nodesR {fu : Nat} (hfu : 200000 ≤ fu) (hR : Mb ck c1 ci c2 co kd sa sb nr) (hp : Pg p kd sa sb nr on) (hF : Fo N op oc) {x th : Int32} {al : Nat → Int32} (hl : Rl N op x al) (now nx : Nat → Int32) :
    ∃ now1 nx1, m_X10_nodes_L20 fu (nI N) (nI nr) on oc ck c1 ci c2 co cho fu 0 th al (upd now 0 0) nx = some (nI (tot p N x N), th, al, now1, nx1) := by
  have hN := hF.1
  have hx : El N op 0 x := fun i hi hb => ⟨by omega, hl.2 i hi hb⟩
  obtain ⟨now1, h1, h2⟩ := q_20 (nr := nr) (on := on) (ck := ck) (c1 := c1) (ci := ci) (c2 := c2) (co := co) (cho := cho) (th := th) (nx := nx) fu hF hl N 0 fu (upd now 0 0) (by omega) (by omega) (fun i hi => by rw [upd_s, b_0]; simp)
  obtain ⟨now2, nx2, h3⟩ := q_59 (p := p) (cho := cho) hfu hR hp hF (th := th) (al := al) hx N 0 fu now1 nx (by omega) (by omega) (fun j e he => by
    have hi : j = 0 := by
      have := (List.getElem?_eq_some_iff.mp he).1
      simp [lev] at this
      exact this
    subst hi
    cases he
    exact h2)
  rw [nI_0] at h1 h3
  exact ⟨now2, nx2, h1.trans h3⟩
end N2
