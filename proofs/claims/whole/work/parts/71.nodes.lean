/-! the diagram drawn, its ways counted; the reference's nodes -/
section ND
variable {N : Nat} {op : Nat → Nat} {p : Nat → Int32}
theorem q_draw_L {fu : Nat} (hfu : 200000 ≤ fu) (hN : N ≤ 6) {x x3 : Int32} (hx : El N op 0 x) : ∀ (m k n : Nat) (nx : Int32) (cs cw ns nw : Nat → Int32), k + m = N → m < n → RpD (lev p N x k) (nI (lev p N x k).length) cs cw →
    ∃ nx1 cs1 cw1 ns1 nw1, m_X2_draw_L27 fu (nI N) x3 p n (nI k) (nI (tot p N x k)) (nI (lev p N x k).length) nx cs cw ns nw = some (0, nI (tot p N x N), nI (lev p N x N).length, nx1, cs1, cw1, ns1, nw1) ∧ RpD (lev p N x N) (nI (lev p N x N).length) cs1 cw1 := by
  intro m
  induction m with
  | zero =>
    intro k n nx cs cw ns nw hk hn hR
    obtain ⟨n, rfl⟩ : ∃ k, n = k + 1 := ⟨n - 1, by omega⟩
    have e : k = N := by omega
    subst e
    refine ⟨nx, cs, cw, ns, nw, ?_, hR⟩
    show m_X2_draw_L27_b fu (nI k) x3 p (m_X2_draw_L27 fu (nI k) x3 p n) (nI k) _ _ nx cs cw ns nw = _
    unfold m_X2_draw_L27_b
    rw [if_pos (Int32.le_refl _)]
  | succ m ih =>
    intro k n nx cs cw ns nw hk hn hR
    obtain ⟨n, rfl⟩ : ∃ k, n = k + 1 := ⟨n - 1, by omega⟩
    have h := LvI_all (p := p) hN hx (k := k) (by omega)
    obtain ⟨sz1, ns1, nw1, e1, e2, -⟩ := q_lvl_L (p := p) hfu hN (show k < N by omega) (x3 := x3) (tt := nI (tot p N x k)) (k27 := m_X2_draw_L27 fu (nI N) x3 p n) h.2.2.1 (fun h3 => by
      have h5 := h.2.2.2 (by omega)
      have h6 : (5 : Nat) ^ k ≤ 5 ^ 3 := Nat.pow_le_pow_right (by omega) h3
      omega) h.2.1 hR (lev p N x k).length 0 fu [] 0 ns nw (by omega) (by have := h.2.2.1; omega) ⟨by simp, fun z hz => by simp at hz, by simp⟩ ⟨nI_0.symm, fun i e he => by simp at he⟩
    rw [List.drop_zero] at e2
    have e3 : lvf p N k (lev p N x k) [] = lev p N x (k + 1) := rfl
    rw [e3] at e2
    have e4 : sz1 = nI (lev p N x (k + 1)).length := e2.1
    rw [e4] at e1 e2
    obtain ⟨nx2, cs2, cw2, ns2, nw2, f1, f2⟩ := ih (k + 1) n (nI (lev p N x (k + 1)).length) ns1 nw1 cs cw (by omega) (by omega) e2
    refine ⟨nx2, cs2, cw2, ns2, nw2, ?_, f2⟩
    show m_X2_draw_L27_b fu (nI N) x3 p (m_X2_draw_L27 fu (nI N) x3 p n) (nI k) _ _ nx cs cw ns nw = _
    unfold m_X2_draw_L27_b
    rw [nI_0, nI_add] at e1
    rw [if_neg (fun h => by have := (nle (by omega) (by omega)).mp h; omega), e1]
    exact f1
theorem q_draw {fu : Nat} (hfu : 200000 ≤ fu) (hN : N ≤ 6) {x : Int32} (hx : El N op 0 x) (t0 s0 n0 : Int32) (cs cw ns nw : Nat → Int32) :
    ∃ nx1 cs1 cw1 ns1 nw1, m_X2_draw fu t0 s0 n0 cs cw ns nw p (nI N) x = some (0, nI (tot p N x N), nI (lev p N x N).length, nx1, cs1, cw1, ns1, nw1) ∧ m_X2_waysToLastLevel (nI (lev p N x N).length) cw1 = some (nI (cf p N 0 x).length) := by
  obtain ⟨nx1, cs1, cw1, ns1, nw1, h1, h2⟩ := q_draw_L (p := p) hfu hN (x3 := x) hx N 0 fu n0 (upd cs 0 x) (upd cw 0 1) ns nw (by omega) (by omega) ⟨rfl, fun i e he => by
    have hi : i = 0 := by
      have := (List.getElem?_eq_some_iff.mp he).1
      simp [lev] at this
      exact this
    subst hi
    cases he
    rw [upd_s, upd_s]
    exact ⟨rfl, show (1 : Int32) = nI 1 by decide⟩⟩
  refine ⟨nx1, cs1, cw1, ns1, nw1, ?_, ?_⟩
  · unfold m_X2_draw
    rw [nI_0] at h1
    exact h1
  · have h := LvI_all (p := p) hN hx (k := N) (Nat.le_refl N)
    have hs := sW_lev (p := p) hN hx (k := N) (Nat.le_refl N)
    have hz : ∀ e, e ∈ lev p N x N → e.1 = 0 := fun e he => nz (fun i hi => by
      cases hb : bt e.1 i with
      | false => rfl
      | true => have := h.2.1 e.1 (List.mem_map.mpr ⟨e, he, rfl⟩) i hi hb; omega)
    unfold m_X2_waysToLastLevel
    cases hl : lev p N x N with
    | nil =>
      rw [hl] at hs
      rw [if_pos (by show nI 0 = 0; exact nI_0), ← hs]
      simp [sW, nI_0]
    | cons e L =>
      have hL : L = [] := by
        cases L with
        | nil => rfl
        | cons e2 L =>
          exfalso
          have h1 := h.1
          rw [hl, List.map_cons, List.map_cons, hz e (by rw [hl]; exact List.mem_cons_self ..), hz e2 (by rw [hl]; exact List.mem_cons_of_mem _ (List.mem_cons_self ..))] at h1
          exact (List.nodup_cons.mp h1).1 (List.mem_cons_self ..)
      subst hL
      rw [hl] at hs h2
      have := (h2.2 0 e rfl).2
      rw [show ([e] : List (Int32 × Nat)).length = 1 from rfl, if_neg (show ¬ nI 1 = 0 by decide), ← hs]
      show some (cw1 0) = _
      rw [this, Nat.sub_self]
      simp [sW, cf]
variable {ch : Nat → Nat} {os : List Nat} {sz' : Int32} {ord' cho oc : Nat → Int32} {ck c1 ci c2 co : Nat → Int32} {kd sa sb : Nat → Nat} {nr : Nat} {on : Int32}
theorem b_ldz {y : Int32} {f a i : Nat} (hf : f < 6) (hi : i < 32) : bt (ldz p y f a) i = (bt y i && bt (p (5 * f + a)) i && decide (5 * (f + 1) ≤ i)) := by
  unfold ldz
  rw [b_and, b_and, b_tk hf hi]
theorem q_beh_L {fu : Nat} (hfu : 40 ≤ fu) (hR : Mb ck c1 ci c2 co kd sa sb nr) (hp : Pg p kd sa sb nr on) (hF : Fo N op oc) {y : Int32} {f a : Nat} (hy : El N op f y) (hf : f < N) (ha : a < 5) : ∀ (m g n : Nat) (A : Int32), g + m = N → m < n → f < g → (∀ i, i < 32 → bt A i = (decide (i < 5 * g) && bt (ldz p y f a) i)) → (∀ j, f < j → j < g → ∃ o, o < 5 ∧ bt (ldz p y f a) (5 * j + o) = true) →
    m_X10_behind_L8 fu y (nI f) (nI a) (nI N) (nI nr) on oc ck c1 ci c2 co n A (nI g) = some (if sl (ldz p y f a) (N - (f + 1)) (f + 1) = true then ldz p y f a else -1) := by
  have hN := hF.1
  have hz := El_ldz (p := p) (v := a) (show f < 6 by omega) hy
  intro m
  induction m with
  | zero =>
    intro g n A hg hn hfg hA hj
    obtain ⟨n, rfl⟩ : ∃ k, n = k + 1 := ⟨n - 1, by omega⟩
    show m_X10_behind_L8_b fu y (nI f) (nI a) (nI N) (nI nr) on oc ck c1 ci c2 co (m_X10_behind_L8 fu y (nI f) (nI a) (nI N) (nI nr) on oc ck c1 ci c2 co n) A (nI g) = _
    unfold m_X10_behind_L8_b
    rw [if_pos ((nle (by omega) (by omega)).mpr (by omega)), if_pos ((sl_iff (by omega)).mpr (fun j h1 h2 => hj j (by omega) (by omega)))]
    congr 1
    refine b_ext (fun i hi => ?_)
    rw [hA i hi]
    cases hb : bt (ldz p y f a) i with
    | false => rw [Bool.and_false]
    | true => have := hz i hi hb; rw [decide_eq_true (by omega)]; rfl
  | succ m ih =>
    intro g n A hg hn hfg hA hj
    obtain ⟨n, rfl⟩ : ∃ k, n = k + 1 := ⟨n - 1, by omega⟩
    obtain ⟨s', s1, s2⟩ := q_mates hfu hR hp hF hf ha (show g < N by omega) (by omega)
    have h5 := hF.le5 g (by omega)
    have hset : ∀ i, i < 32 → bt (s5 y g &&& s') i = (decide (i < 5) && bt (ldz p y f a) (5 * g + i)) := fun i hi => by
      rw [b_and, b_s5 y (by omega) hi, s2 i hi]
      by_cases q : i < 5
      · rw [decide_eq_true q, Bool.true_and, Bool.true_and, b_ldz (by omega) (by omega), decide_eq_true (show 5 * (f + 1) ≤ 5 * g + i by omega), Bool.and_true]
        cases hb : bt y (5 * g + i) with
        | false => rfl
        | true =>
          have := (hy _ (by omega) hb).2.2
          rw [show (5 * g + i) % 5 = i by omega, show (5 * g + i) / 5 = g by omega] at this
          rw [decide_eq_true this]; rfl
      · rw [decide_eq_false q]; rfl
    show m_X10_behind_L8_b fu y (nI f) (nI a) (nI N) (nI nr) on oc ck c1 ci c2 co (m_X10_behind_L8 fu y (nI f) (nI a) (nI N) (nI nr) on oc ck c1 ci c2 co n) A (nI g) = _
    unfold m_X10_behind_L8_b
    rw [if_neg (fun h => by have := (nle (by omega) (by omega)).mp h; omega), s1, Option.bind_some, n5c, n1, show (y >>> (nI (5 * g) &&& 31)) &&& (31 : Int32) = s5 y g from rfl]
    by_cases q : s5 y g &&& s' = 0
    · rw [if_pos q, if_neg (fun h => by
        obtain ⟨o, ho, h1⟩ := (sl_iff (by omega)).mp h g (by omega) (by omega)
        have := hset o (by omega)
        rw [q, b_0, decide_eq_true ho, h1] at this
        cases this)]
    · rw [if_neg q]
      refine ih (g + 1) n _ (by omega) (by omega) (by omega) (fun i hi => ?_) (fun j h1 h2 => ?_)
      · rw [b_or, b_shl (5 * g) (by omega) _ hi, hA i hi]
        by_cases q1 : 5 * g ≤ i
        · rw [decide_eq_true q1, Bool.true_and, hset (i - 5 * g) (by omega), decide_eq_false (show ¬ i < 5 * g by omega), Bool.false_and, Bool.false_or, show 5 * g + (i - 5 * g) = i by omega]
          congr 1
          exact decide_eq_decide.mpr (by omega)
        · rw [decide_eq_false q1, Bool.false_and, Bool.or_false]
          congr 1
          exact decide_eq_decide.mpr (by omega)
      · by_cases q1 : j = g
        · subst q1
          refine Classical.byContradiction (fun hno => q (nz (fun i hi => ?_)))
          rw [hset i hi]
          by_cases q5 : i < 5
          · cases hb : bt (ldz p y f a) (5 * j + i) with
            | false => rw [Bool.and_false]
            | true => exact absurd ⟨i, q5, hb⟩ hno
          · rw [decide_eq_false q5]; rfl
        · exact hj j h1 (by omega)
theorem q_beh {fu : Nat} (hfu : 40 ≤ fu) (hR : Mb ck c1 ci c2 co kd sa sb nr) (hp : Pg p kd sa sb nr on) (hF : Fo N op oc) {y : Int32} {f a : Nat} (hy : El N op f y) (hf : f < N) (ha : a < 5) :
    m_X10_behind fu (nI N) (nI nr) on oc ck c1 ci c2 co y (nI f) (nI a) = some (if sl (ldz p y f a) (N - (f + 1)) (f + 1) = true then ldz p y f a else -1) := by
  have hN := hF.1
  unfold m_X10_behind
  rw [n1]
  refine q_beh_L hfu hR hp hF hy hf ha (N - (f + 1)) (f + 1) fu 0 (by omega) (by omega) (by omega) (fun i hi => ?_) (fun j h1 h2 => by omega)
  rw [b_0, b_ldz (by omega) hi]
  by_cases q : 5 * (f + 1) ≤ i
  · rw [decide_eq_false (by omega), Bool.false_and]
  · rw [decide_eq_false q]; simp
def RpR (D : List (Int32 × Nat)) (sz : Int32) (cs : Nat → Int32) : Prop := sz = nI D.length ∧ ∀ i e, D[i]? = some e → cs i = e.1
theorem q_isIn_L (fu : Nat) {D : List (Int32 × Nat)} (hl : D.length < 700) {z sz : Int32} {cs : Nat → Int32} (hR : RpR D sz cs) : ∀ (m i n : Nat) (b : Bool), i + m = D.length → m < n → (b = true ↔ ∃ j e, j < i ∧ D[j]? = some e ∧ e.1 = z) →
    ∃ b', m_X10_isIn_L5 fu z sz cs n (bI b) (nI i) = some (bI b') ∧ (b' = true ↔ z ∈ D.map Prod.fst) := by
  obtain ⟨rfl, h1⟩ := hR
  intro m
  induction m with
  | zero =>
    intro i n b him hn hb
    obtain ⟨n, rfl⟩ : ∃ k, n = k + 1 := ⟨n - 1, by omega⟩
    refine ⟨b, ?_, hb.trans ⟨fun ⟨j, e, _, h3, h4⟩ => List.mem_map.mpr ⟨e, List.mem_iff_getElem?.mpr ⟨j, h3⟩, h4⟩, fun h => ?_⟩⟩
    · show m_X10_isIn_L5_b fu z (nI D.length) cs (m_X10_isIn_L5 fu z (nI D.length) cs n) (bI b) (nI i) = _
      unfold m_X10_isIn_L5_b
      rw [if_pos ((nle (by omega) (by omega)).mpr (by omega))]
    · obtain ⟨e, e1, e2⟩ := List.mem_map.mp h
      obtain ⟨j, hj⟩ := List.mem_iff_getElem?.mp e1
      exact ⟨j, e, by have := (List.getElem?_eq_some_iff.mp hj).1; omega, hj, e2⟩
  | succ m ih =>
    intro i n b him hn hb
    obtain ⟨n, rfl⟩ : ∃ k, n = k + 1 := ⟨n - 1, by omega⟩
    have hi : i < D.length := by omega
    have hge : D[i]? = some D[i] := List.getElem?_eq_getElem hi
    have step : ∀ b2 : Bool, (b2 = true ↔ (b = true ∨ D[i].1 = z)) → ∃ b', m_X10_isIn_L5 fu z (nI D.length) cs n (bI b2) (nI (i + 1)) = some (bI b') ∧ (b' = true ↔ z ∈ D.map Prod.fst) := by
      intro b2 h2
      refine ih (i + 1) n b2 (by omega) (by omega) (h2.trans ?_)
      rw [hb]
      constructor
      · rintro (⟨j, e, h3, h4, h5⟩ | h)
        · exact ⟨j, e, by omega, h4, h5⟩
        · exact ⟨i, D[i], by omega, hge, h⟩
      · rintro ⟨j, e, h3, h4, h5⟩
        by_cases q : j = i
        · subst q
          rw [hge] at h4
          rw [← Option.some.inj h4] at h5
          exact Or.inr h5
        · exact Or.inl ⟨j, e, by omega, h4, h5⟩
    show ∃ b', m_X10_isIn_L5_b fu z (nI D.length) cs (m_X10_isIn_L5 fu z (nI D.length) cs n) (bI b) (nI i) = _ ∧ _
    unfold m_X10_isIn_L5_b
    rw [if_neg (fun h => by have := (nle (by omega) (by omega)).mp h; omega), if_neg (nI_in2 (by omega) (by omega)), nI_cl (by omega), h1 i _ hge, n1]
    cases hbb : b with
    | false =>
      rw [if_pos bI_f]
      by_cases q : D[i].1 = z
      · rw [if_pos q]; exact step true (by simp [q])
      · rw [if_neg q]; exact step false (by simp [hbb, q])
    | true =>
      rw [if_neg (show ¬ bI true = 0 by decide)]
      exact step true (by simp [hbb])
theorem q_isIn {fu : Nat} (hfu : 200000 ≤ fu) {D : List (Int32 × Nat)} (hl : D.length < 700) {z sz : Int32} {cs : Nat → Int32} (hR : RpR D sz cs) : ∃ b', m_X10_isIn fu cs z sz = some (bI b') ∧ (b' = true ↔ z ∈ D.map Prod.fst) := by
  unfold m_X10_isIn
  obtain ⟨b', h1, h2⟩ := q_isIn_L fu hl (z := z) hR D.length 0 fu false (by omega) (by omega) ⟨fun h => (by cases h), fun ⟨j, e, h, _⟩ => absurd h (Nat.not_lt_zero j)⟩
  rw [nI_0] at h1
  exact ⟨b', h1, h2⟩
theorem RpR_ent {D : List (Int32 × Nat)} {sz : Int32} {cs : Nat → Int32} (hR : RpR D sz cs) {z : Int32} (w : Nat) : (z ∈ D.map Prod.fst → RpR (ent D z w) sz cs) ∧ (¬ z ∈ D.map Prod.fst → RpR (ent D z w) (nI (D.length + 1)) (upd cs D.length z)) := by
  constructor
  · intro hz
    refine ⟨by rw [ent_len, if_pos hz]; exact hR.1, fun i e he => ?_⟩
    unfold ent at he
    rw [if_pos hz, List.getElem?_map] at he
    cases hj : D[i]? with
    | none => rw [hj] at he; cases he
    | some e0 =>
      rw [hj] at he
      have he2 : (if e0.1 = z then (e0.1, e0.2 + w) else e0) = e := Option.some.inj he
      rw [← he2, hR.2 i e0 hj]
      split <;> rfl
  · intro hz
    refine ⟨by rw [ent_len, if_neg hz], fun i e he => ?_⟩
    unfold ent at he
    rw [if_neg hz] at he
    by_cases q : i < D.length
    · rw [List.getElem?_append_left q] at he
      rw [upd_n (by omega)]
      exact hR.2 i e he
    · rw [List.getElem?_append_right (by omega)] at he
      have hj : i - D.length = 0 := by
        have := (List.getElem?_eq_some_iff.mp he).1
        simp at this
        omega
      rw [hj] at he
      have hj2 : i = D.length := by omega
      cases he
      rw [hj2, upd_s]
end ND
