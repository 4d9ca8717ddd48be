/-! least, greatest, cheapest: the two sides -/
/-- what a product costs, as both sides hold it -/
def Pc (N ns : Nat) (su sv : Nat → Nat) (am pr : Nat → Int32) : Prop := Sc N ns su sv am ∧ ∀ i, i < 30 → (0 : Int32) ≤ pr i ∧ pr i ≤ (1000 : Int32)
section LE
variable {ck c1 ci c2 co : Nat → Int32} {kd sa sb : Nat → Nat} {nr : Nat} {p : Nat → Int32} {S x : Int32} {al oc : Nat → Int32} {op : Nat → Nat} {N ns : Nat} {su sv : Nat → Nat} {am pr : Nat → Int32}
theorem mem5 {c : List Nat} (hc : c ∈ cf p N 0 x) : c.length = N ∧ ∀ j, j < N → gd c j < 5 := by
  obtain ⟨h1, h2, -⟩ := mem_cf.mp hc
  exact ⟨h1, fun j hj => (h2 j hj).1⟩
theorem stp_mem {cb ca ofs : Nat → Int32} (hr : Rb kd sa sb nr) (hp : Pg p kd sa sb nr S) (hN : N ≤ 6) (hS : Sc N ns su sv am) (hX : ScX ns su sv am cb ca) (ho : ∀ i, i < 30 → ofs i = pr i) (ge : Bool) {c : List Nat} (hc : c ∈ cf p N 0 x) (st : Int32 × Int32 × Int32) : stp (sgn ge) p ofs cb ca ns x 0 0 st c = mt (sgn ge) st (msk p x 0 c) (cst N ns su sv am pr c) := by
  obtain ⟨h1, h2⟩ := mem5 hc
  unfold stp
  rw [pri_0, h1, prs_c hN ho h2, sfo_sur hN hS hX (fun j v hj hv => b_cf hr hp hN hc hj hv) (Nat.le_refl ns)]
  rfl
theorem q_best_L {cb ca ofs : Nat → Int32} (hr : Rb kd sa sb nr) (hp : Pg p kd sa sb nr S) (hN : N ≤ 6) (hP : Pc N ns su sv am pr) (hX : ScX ns su sv am cb ca) (ho : ∀ i, i < 30 → ofs i = pr i) (ge : Bool) {a : List Nat} {l : List (List Nat)} (hl : cf p N 0 x = a :: l) (cfg best : Int32) :
    ((cf p N 0 x).foldl (stp (sgn ge) p ofs cb ca ns x 0 0) (cfg, 0, best)).2.2 = bst ge (cst N ns su sv am pr) (cst N ns su sv am pr a) l := by
  have hF : ∀ c ∈ cf p N 0 x, ∀ st, stp (sgn ge) p ofs cb ca ns x 0 0 st c = mt (sgn ge) st (msk p x 0 c) (cst N ns su sv am pr c) := fun c hc st => stp_mem hr hp hN hP.1 hX ho ge hc st
  have hB : ∀ c ∈ cf p N 0 x, Bd (cst N ns su sv am pr c) := fun c hc => cst_bd hN hP.1 hP.2 (mem5 hc).2
  rw [hl] at hF hB ⊢
  rw [List.foldl_cons, hF a (List.mem_cons_self ..)]
  exact fold_val ge l _ (fun c hc => hF c (List.mem_cons_of_mem _ hc)) (fun c hc => hB c (List.mem_cons_of_mem _ hc)) rfl (hB a (List.mem_cons_self ..))
theorem q_least {fu : Nat} (hfu : 40 ≤ fu) {cb ca ofs : Nat → Int32} (hr : Rb kd sa sb nr) (hp : Pg p kd sa sb nr S) (hN : N ≤ 6) (hP : Pc N ns su sv am pr) (hX : ScX ns su sv am cb ca) (ho : ∀ i, i < 30 → ofs i = pr i) {a : List Nat} {l : List (List Nat)} (hl : cf p N 0 x = a :: l) (cfg fnd best sg : Int32) :
    ∃ fnd' best' l1 b m, m_X6_least fu cfg fnd best sg p (nI ns) ofs cb ca (nI N) x = some (bst false (cst N ns su sv am pr) (cst N ns su sv am pr a) l, msk p x 0 b, fnd', best', 1) ∧ cf p N 0 x = l1 ++ b :: m ∧ cst N ns su sv am pr b = bst false (cst N ns su sv am pr) (cst N ns su sv am pr a) l ∧ ∀ c ∈ l1, ¬ cst N ns su sv am pr c = cst N ns su sv am pr b := by
  have hv := q_best_L hr hp hN hP hX ho false hl cfg best
  have hF : ∀ c ∈ cf p N 0 x, ∀ st, stp 1 p ofs cb ca ns x 0 0 st c = mt 1 st (msk p x 0 c) (cst N ns su sv am pr c) := fun c hc st => stp_mem hr hp hN hP.1 hX ho false hc st
  have hk : ∃ l1 b m, (cf p N 0 x).foldl (stp 1 p ofs cb ca ns x 0 0) (cfg, 0, best) = (msk p x 0 b, 1, cst N ns su sv am pr b) ∧ cf p N 0 x = l1 ++ b :: m ∧ ∀ c ∈ l1, cst N ns su sv am pr b < cst N ns su sv am pr c := by
    rw [hl] at hF ⊢
    rw [List.foldl_cons, hF a (List.mem_cons_self ..)]
    obtain ⟨l1, b, m, h1, h2, h3⟩ := fold_first (F := stp 1 p ofs cb ca ns x 0 0) (M := msk p x 0) (κ := cst N ns su sv am pr) l [a] [] [] a rfl (fun c hc => by cases hc) (fun c hc => by rw [List.mem_singleton.mp hc]; exact Int32.le_refl _) (fun c hc => hF c (List.mem_cons_of_mem _ hc))
    exact ⟨l1, b, m, h2, h1, h3⟩
  obtain ⟨l1, b, m, h1, h2, h3⟩ := hk
  have hb : cst N ns su sv am pr b = bst false (cst N ns su sv am pr) (cst N ns su sv am pr a) l := by
    rw [← hv]
    show _ = ((cf p N 0 x).foldl (stp 1 p ofs cb ca ns x 0 0) (cfg, 0, best)).2.2
    rw [h1]
  refine ⟨1, cst N ns su sv am pr b, l1, b, m, ?_, h2, hb, fun c hc h => ?_⟩
  · unfold m_X6_least m_X6_start
    simp only [Option.bind_some]
    have := q_look hfu 1 p ofs cb ca hP.1.1 hN N 0 7 x 0 (cfg, 0, best) (by omega) (by omega)
    rw [nI_0] at this
    simp only at this
    rw [this, h1, ← hb]
    rfl
  · have := h3 c hc
    rw [h, Int32.lt_iff_toInt_lt] at this
    omega
theorem q_greatest {fu : Nat} (hfu : 40 ≤ fu) {cb ca ofs : Nat → Int32} (hr : Rb kd sa sb nr) (hp : Pg p kd sa sb nr S) (hN : N ≤ 6) (hP : Pc N ns su sv am pr) (hX : ScX ns su sv am cb ca) (ho : ∀ i, i < 30 → ofs i = pr i) {a : List Nat} {l : List (List Nat)} (hl : cf p N 0 x = a :: l) (cfg fnd best sg : Int32) :
    ∃ r, m_X6_greatest fu cfg fnd best sg p (nI ns) ofs cb ca (nI N) x = some (bst true (cst N ns su sv am pr) (cst N ns su sv am pr a) l, r) := by
  have hv := q_best_L hr hp hN hP hX ho true hl cfg best
  unfold m_X6_greatest m_X6_start
  simp only [Option.bind_some]
  have := q_look hfu (-1) p ofs cb ca hP.1.1 hN N 0 7 x 0 (cfg, 0, best) (by omega) (by omega)
  rw [nI_0] at this
  simp only at this
  rw [this, ← hv]
  exact ⟨_, rfl⟩
/-! the reference -/
theorem Cur.pk {c : Nat → Int32} {a : List Nat} {l : List (List Nat)} (hF : Fx x al oc op N) (h : Cur p x N op c (a :: l)) : ∀ j, j < N → gd a j < 5 ∧ c j = nI (gd a j) := fun j hj => by
  obtain ⟨h1, h2⟩ := (h a l rfl).1 j hj
  have := (hF.2.1 j hj).1
  exact ⟨by omega, h2⟩
theorem q_ref_L {fu : Nat} (hfu : 200000 ≤ fu) (hM : Mb ck c1 ci c2 co kd sa sb nr) (hp : Pg p kd sa sb nr S) (hF : Fx x al oc op N) (hS : Sc N ns su sv am) {d1 di d2 dj da : Nat → Int32} (hD : ScM ns su sv am d1 di d2 dj da) (ge : Bool) : ∀ (l : List (List Nat)) (n : Nat) (b : Int32) (c : Nat → Int32), l.length < n → Cur p x N op c l →
    ∃ c', m_X10_least_L15 fu (bI ge) (nI N) (nI nr) S (nI ns) oc ck c1 ci c2 co pr d1 di d2 dj da al n (bI (!l.isEmpty)) b c = some (bst ge (cst N ns su sv am pr) b l, c')
  | [], n, b, c, hn, hc => by
    obtain ⟨n, rfl⟩ : ∃ k, n = k + 1 := ⟨n - 1, by omega⟩
    refine ⟨c, ?_⟩
    show m_X10_least_L15_b fu (bI ge) (nI N) (nI nr) S (nI ns) oc ck c1 ci c2 co pr d1 di d2 dj da al (m_X10_least_L15 fu (bI ge) (nI N) (nI nr) S (nI ns) oc ck c1 ci c2 co pr d1 di d2 dj da al n) _ _ _ = _
    unfold m_X10_least_L15_b
    rw [if_pos (by rfl)]
    rfl
  | a :: l, n, b, c, hn, hc => by
    obtain ⟨n, rfl⟩ : ∃ k, n = k + 1 := ⟨n - 1, by omega⟩
    obtain ⟨c', h1, h2⟩ := q_pk1 hfu hM hp hF hc
    obtain ⟨d, h3⟩ := q_ref_L hfu hM hp hF hS hD ge l n (if ge then (if cst N ns su sv am pr a ≤ b then b else cst N ns su sv am pr a) else (if b ≤ cst N ns su sv am pr a then b else cst N ns su sv am pr a)) c' (by simp only [List.length_cons] at hn; omega) h2
    refine ⟨d, ?_⟩
    show m_X10_least_L15_b fu (bI ge) (nI N) (nI nr) S (nI ns) oc ck c1 ci c2 co pr d1 di d2 dj da al (m_X10_least_L15 fu (bI ge) (nI N) (nI nr) S (nI ns) oc ck c1 ci c2 co pr d1 di d2 dj da al n) _ _ _ = _
    unfold m_X10_least_L15_b
    rw [if_neg (by show ¬ bI true = 0; decide), q_cost (by omega) hF.1 hS hD pr (hc.pk hF)]
    simp only [Option.bind_some]
    rw [h1]
    simp only [Option.bind_some]
    unfold bst at h3 ⊢
    rw [List.foldl_cons, ← h3]
    cases ge with
    | false =>
      rw [if_pos (show bI false = 0 from rfl)]
      by_cases q : b ≤ cst N ns su sv am pr a
      · rw [if_pos q, if_neg (by decide), if_pos q]
      · rw [if_neg q, if_neg (by decide), if_neg q]
    | true =>
      rw [if_neg (show ¬ bI true = 0 by decide)]
      by_cases q : cst N ns su sv am pr a ≤ b
      · rw [if_pos q, if_pos rfl, if_pos q]
      · rw [if_neg q, if_pos rfl, if_neg q]
theorem q_ref {fu : Nat} (hfu : 200000 ≤ fu) (hM : Mb ck c1 ci c2 co kd sa sb nr) (hp : Pg p kd sa sb nr S) (hF : Fx x al oc op N) (hS : Sc N ns su sv am) {d1 di d2 dj da : Nat → Int32} (hD : ScM ns su sv am d1 di d2 dj da) (ge : Bool) {a : List Nat} {l : List (List Nat)} (hl : cf p N 0 x = a :: l) (c : Nat → Int32) :
    ∃ c', m_X10_least fu (nI N) (nI nr) S (nI ns) oc ck c1 ci c2 co pr d1 di d2 dj da al c (bI ge) = some (bst ge (cst N ns su sv am pr) (cst N ns su sv am pr a) l, c') := by
  obtain ⟨c1', h1, h2⟩ := q_pk0 hfu hM hp hF c
  have hn := cf_len6 (p := p) (k := 0) (x := x) hF.1
  rw [hl] at h1 h2 hn
  obtain ⟨d, h3⟩ := q_ref_L hfu hM hp hF hS hD ge (pr := pr) (a :: l) fu (cst N ns su sv am pr a) c1' (by omega) h2
  refine ⟨d, ?_⟩
  unfold m_X10_least
  rw [h1]
  simp only [Option.bind_some]
  rw [q_cost (by omega) hF.1 hS hD pr (h2.pk hF)]
  simp only [Option.bind_some]
  rw [h3, bst_a]
theorem q_chp_L {fu : Nat} (hfu : 200000 ≤ fu) (hM : Mb ck c1 ci c2 co kd sa sb nr) (hp : Pg p kd sa sb nr S) (hF : Fx x al oc op N) (hS : Sc N ns su sv am) {d1 di d2 dj da : Nat → Int32} (hD : ScM ns su sv am d1 di d2 dj da) (cc : Nat → Int32) (th : Int32) {f : Nat} (hf : f < N) {b : List Nat} {m : List (List Nat)} : ∀ (l1 : List (List Nat)) (n : Nat) (c : Nat → Int32), (l1 ++ b :: m).length < n → Cur p x N op c (l1 ++ b :: m) → (∀ c ∈ l1, ¬ cst N ns su sv am pr c = cst N ns su sv am pr b) →
    ∃ c', m_X10_cheapest_L48 fu (nI f) (nI N) (nI nr) S (nI ns) oc ck c1 ci c2 co pr d1 di d2 dj da cc n (cst N ns su sv am pr b) 1 th al c = some (nI (gd b f), th, al, c')
  | [], n, c, hn, hc, _ => by
    obtain ⟨n, rfl⟩ : ∃ k, n = k + 1 := ⟨n - 1, by omega⟩
    have hN := hF.1
    have h5 := hc.pk hF
    refine ⟨c, ?_⟩
    show m_X10_cheapest_L48_b fu (nI f) (nI N) (nI nr) S (nI ns) oc ck c1 ci c2 co pr d1 di d2 dj da cc (m_X10_cheapest_L48 fu (nI f) (nI N) (nI nr) S (nI ns) oc ck c1 ci c2 co pr d1 di d2 dj da cc n) _ _ _ _ _ = _
    unfold m_X10_cheapest_L48_b
    rw [if_neg (by decide), q_cost (by omega) hF.1 hS hD pr h5]
    simp only [Option.bind_some]
    rw [if_pos trivial, if_neg (nI_in2 (by omega) (by omega)), nI_cl (by omega), (h5 f hf).2]
  | a :: l1, n, c, hn, hc, hne => by
    obtain ⟨n, rfl⟩ : ∃ k, n = k + 1 := ⟨n - 1, by omega⟩
    obtain ⟨c', h1, h2⟩ := q_pk1 (l := l1 ++ b :: m) hfu hM hp hF hc
    obtain ⟨d, h3⟩ := q_chp_L hfu hM hp hF hS hD cc th hf l1 n c' (by simp only [List.cons_append, List.length_cons] at hn; omega) h2 (fun c hc => hne c (List.mem_cons_of_mem _ hc))
    refine ⟨d, ?_⟩
    show m_X10_cheapest_L48_b fu (nI f) (nI N) (nI nr) S (nI ns) oc ck c1 ci c2 co pr d1 di d2 dj da cc (m_X10_cheapest_L48 fu (nI f) (nI N) (nI nr) S (nI ns) oc ck c1 ci c2 co pr d1 di d2 dj da cc n) _ _ _ _ _ = _
    unfold m_X10_cheapest_L48_b
    rw [if_neg (by decide), q_cost (by omega) hF.1 hS hD pr (hc.pk hF)]
    simp only [Option.bind_some]
    rw [if_neg (hne a (List.mem_cons_self ..)), h1]
    simp only [Option.bind_some]
    rw [show bI (!(l1 ++ b :: m).isEmpty) = 1 by cases l1 <;> rfl, h3]
theorem q_lowest_L (fu : Nat) (x : Int32) {v : Nat} (hv : v < 5) (hb : bt x v = true) (hl : ∀ w, w < v → bt x w = false) : ∀ (m i n : Nat), i + m = v → m < n → m_X9_lowestOf_L2 fu x n (nI i) = some (nI v) := by
  intro m
  induction m with
  | zero =>
    intro i n him hn
    obtain ⟨n, rfl⟩ : ∃ k, n = k + 1 := ⟨n - 1, by omega⟩
    show m_X9_lowestOf_L2_b fu x (m_X9_lowestOf_L2 fu x n) (nI i) = _
    unfold m_X9_lowestOf_L2_b
    rw [if_neg (show ¬ (5 : Int32) ≤ nI i from fun h => by have := (nle (a := 5) (b := i) (by omega) (by omega)).mp h; omega), q_holds x (by omega)]
    simp only [Option.bind_some]
    rw [show i = v by omega, hb, if_neg (by decide)]
  | succ m ih =>
    intro i n him hn
    obtain ⟨n, rfl⟩ : ∃ k, n = k + 1 := ⟨n - 1, by omega⟩
    show m_X9_lowestOf_L2_b fu x (m_X9_lowestOf_L2 fu x n) (nI i) = _
    unfold m_X9_lowestOf_L2_b
    rw [if_neg (show ¬ (5 : Int32) ≤ nI i from fun h => by have := (nle (a := 5) (b := i) (by omega) (by omega)).mp h; omega), q_holds x (by omega)]
    simp only [Option.bind_some]
    rw [hl i (by omega), if_pos bI_f, n1]
    exact ih (i + 1) n (by omega) (by omega)
theorem q_lowest {fu : Nat} (hfu : 40 ≤ fu) (x : Int32) {v : Nat} (hv : v < 5) (hb : bt x v = true) (hl : ∀ w, w < v → bt x w = false) : m_X9_lowestOf fu x = some (nI v) := by
  unfold m_X9_lowestOf
  have := q_lowest_L fu x hv hb hl v 0 fu (by omega) (by omega)
  rw [nI_0] at this
  exact this
end LE
