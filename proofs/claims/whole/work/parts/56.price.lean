/-! prices -/
def prs (pr : Nat → Int32) (a : List Nat) : Nat → Int32
  | 0 => 0
  | f + 1 => prs pr a f + pr (5 * f + gd a f)
def hit (su sv : Nat → Nat) (a : List Nat) (k : Nat) : Bool := decide (gd a (su k / 5) = su k % 5) && decide (gd a (sv k / 5) = sv k % 5)
def sur (su sv : Nat → Nat) (am : Nat → Int32) (a : List Nat) : Nat → Int32
  | 0 => 0
  | k + 1 => if hit su sv a k then sur su sv am a k + am k else sur su sv am a k
/-- the surcharges, as the component has them and as the reference has them -/
def Sc (N ns : Nat) (su sv : Nat → Nat) (am : Nat → Int32) : Prop := ns ≤ 10 ∧ ∀ k, k < ns → su k / 5 < N ∧ sv k / 5 < N ∧ (-500 : Int32) ≤ am k ∧ am k ≤ (500 : Int32)
def ScX (ns : Nat) (su sv : Nat → Nat) (am cb ca : Nat → Int32) : Prop := ∀ k, k < ns → (∀ i, i < 32 → bt (cb k) i = (decide (i = su k) || decide (i = sv k))) ∧ ca k = am k
def ScM (ns : Nat) (su sv : Nat → Nat) (am d1 di d2 dj da : Nat → Int32) : Prop := Ar d1 (fun k => su k / 5) ns ∧ Ar di (fun k => su k % 5) ns ∧ Ar d2 (fun k => sv k / 5) ns ∧ Ar dj (fun k => sv k % 5) ns ∧ ∀ k, k < ns → da k = am k
section PR
variable {N ns : Nat} {su sv : Nat → Nat} {am : Nat → Int32}
theorem q_cost_S (fu : Nat) (hN : N ≤ 6) (hS : Sc N ns su sv am) {d1 di d2 dj da : Nat → Int32} (hM : ScM ns su sv am d1 di d2 dj da) (pr : Nat → Int32) {a : List Nat} {c : Nat → Int32} (ha : ∀ j, j < N → gd a j < 5 ∧ c j = nI (gd a j)) (s : Int32) : ∀ (m i n : Nat), i + m = ns → m < n →
    m_X10_costs_L38 fu (nI N) (nI ns) pr d1 di d2 dj da c n (s + sur su sv am a i) (nI i) = some (s + sur su sv am a ns) := by
  obtain ⟨hn, hb⟩ := hS
  obtain ⟨h1, hi, h2, hj, hda⟩ := hM
  intro m
  induction m with
  | zero =>
    intro i n him hn
    obtain ⟨n, rfl⟩ : ∃ k, n = k + 1 := ⟨n - 1, by omega⟩
    show m_X10_costs_L38_b fu (nI N) (nI ns) pr d1 di d2 dj da c (m_X10_costs_L38 fu (nI N) (nI ns) pr d1 di d2 dj da c n) _ (nI i) = _
    unfold m_X10_costs_L38_b
    rw [if_pos ((nle (by omega) (by omega)).mpr (by omega)), show ns = i by omega]
  | succ m ih =>
    intro i n him hn
    obtain ⟨n, rfl⟩ : ∃ k, n = k + 1 := ⟨n - 1, by omega⟩
    have hlt : i < ns := by omega
    have IH := ih (i + 1) n (by omega) (by omega)
    obtain ⟨b1, b2, -, -⟩ := hb i hlt
    show m_X10_costs_L38_b fu (nI N) (nI ns) pr d1 di d2 dj da c (m_X10_costs_L38 fu (nI N) (nI ns) pr d1 di d2 dj da c n) _ (nI i) = _
    unfold m_X10_costs_L38_b
    have g1 : d1 i = nI (su i / 5) := h1 i hlt
    have g2 : di i = nI (su i % 5) := hi i hlt
    have g3 : d2 i = nI (sv i / 5) := h2 i hlt
    have g4 : dj i = nI (sv i % 5) := hj i hlt
    have a1 := ha _ b1
    have a2 := ha _ b2
    rw [if_neg (fun h => by have := (nle (by omega) (by omega)).mp h; omega), if_neg (nI_in2 (by omega) (by omega)), nI_cl (by omega), g1, if_neg (nI_in2 (by omega) (by omega)), nI_cl (by omega), a1.2, g2, g3, if_neg (nI_in2 (by omega) (by omega)), nI_cl (by omega), a2.2, g4, hda i hlt, n1]
    have e1 : (nI (gd a (su i / 5)) = nI (su i % 5)) ↔ gd a (su i / 5) = su i % 5 := neq (by omega) (by omega)
    have e2 : (nI (gd a (sv i / 5)) = nI (sv i % 5)) ↔ gd a (sv i / 5) = sv i % 5 := neq (by omega) (by omega)
    simp only [e1, e2]
    rw [sur] at IH
    unfold hit at IH
    by_cases q1 : gd a (su i / 5) = su i % 5
    · rw [if_pos q1]
      by_cases q2 : gd a (sv i / 5) = sv i % 5
      · rw [if_pos q2, Int32.add_assoc]
        rw [decide_eq_true q1, decide_eq_true q2] at IH
        exact IH
      · rw [if_neg q2, Int32.add_zero]
        rw [decide_eq_true q1, decide_eq_false q2] at IH
        exact IH
    · rw [if_neg q1, Int32.add_zero]
      rw [decide_eq_false q1] at IH
      exact IH
theorem n5c (f : Nat) : (5 : Int32) * nI f = nI (5 * f) := by rw [Int32.mul_comm, n5]
theorem q_cost_P (fu : Nat) (hfu : 40 ≤ fu) (hN : N ≤ 6) (hS : Sc N ns su sv am) {d1 di d2 dj da : Nat → Int32} (hM : ScM ns su sv am d1 di d2 dj da) (pr : Nat → Int32) {a : List Nat} {c : Nat → Int32} (ha : ∀ j, j < N → gd a j < 5 ∧ c j = nI (gd a j)) : ∀ (m i n : Nat), i + m = N → m < n →
    m_X10_costs_L4 fu (nI N) (nI ns) pr d1 di d2 dj da c n (prs pr a i) (nI i) = some (prs pr a N + sur su sv am a ns) := by
  intro m
  induction m with
  | zero =>
    intro i n him hn
    obtain ⟨n, rfl⟩ : ∃ k, n = k + 1 := ⟨n - 1, by omega⟩
    show m_X10_costs_L4_b fu (nI N) (nI ns) pr d1 di d2 dj da c (m_X10_costs_L4 fu (nI N) (nI ns) pr d1 di d2 dj da c n) _ (nI i) = _
    unfold m_X10_costs_L4_b
    rw [if_pos ((nle (by omega) (by omega)).mpr (by omega)), show i = N by omega]
    have := q_cost_S fu hN hS hM pr ha (prs pr a N) ns 0 fu (by omega) (by have := hS.1; omega)
    rw [sur, Int32.add_zero, nI_0] at this
    exact this
  | succ m ih =>
    intro i n him hn
    obtain ⟨n, rfl⟩ : ∃ k, n = k + 1 := ⟨n - 1, by omega⟩
    have IH := ih (i + 1) n (by omega) (by omega)
    obtain ⟨a1, a2⟩ := ha i (by omega)
    show m_X10_costs_L4_b fu (nI N) (nI ns) pr d1 di d2 dj da c (m_X10_costs_L4 fu (nI N) (nI ns) pr d1 di d2 dj da c n) _ (nI i) = _
    unfold m_X10_costs_L4_b
    rw [if_neg (fun h => by have := (nle (by omega) (by omega)).mp h; omega), if_neg (nI_in2 (by omega) (by omega)), nI_cl (by omega), a2, n5c, nI_add, if_neg (nI_in2 (by omega) (by omega)), nI_cl (by omega), n1]
    exact IH
/-- what a configuration costs -/
def cst (N ns : Nat) (su sv : Nat → Nat) (am pr : Nat → Int32) (a : List Nat) : Int32 := prs pr a N + sur su sv am a ns
theorem q_cost {fu : Nat} (hfu : 40 ≤ fu) (hN : N ≤ 6) (hS : Sc N ns su sv am) {d1 di d2 dj da : Nat → Int32} (hM : ScM ns su sv am d1 di d2 dj da) (pr : Nat → Int32) {a : List Nat} {c : Nat → Int32} (ha : ∀ j, j < N → gd a j < 5 ∧ c j = nI (gd a j)) :
    m_X10_costs fu (nI N) (nI ns) pr d1 di d2 dj da c = some (cst N ns su sv am pr a) := by
  unfold m_X10_costs
  have := q_cost_P fu hfu hN hS hM pr ha N 0 fu (by omega) (by omega)
  rw [nI_0] at this
  exact this
/-! the component's search -/
def msk (p : Nat → Int32) : Int32 → Nat → List Nat → Int32
  | x, _, [] => x
  | x, k, v :: c => msk p (x &&& p (5 * k + v)) (k + 1) c
def pri (pr : Nat → Int32) : Int32 → Nat → List Nat → Int32
  | s, _, [] => s
  | s, k, v :: c => pri pr (s + pr (5 * k + v)) (k + 1) c
theorem pri_prs (pr : Nat → Int32) (a : List Nat) : ∀ (m k : Nat), k + m = a.length → pri pr (prs pr a k) k (a.drop k) = prs pr a a.length
  | 0, k, h => by rw [List.drop_of_length_le (by omega), ← h]; rfl
  | m + 1, k, h => by
    rw [List.drop_eq_getElem_cons (by omega), pri]
    have : a[k]'(by omega) = gd a k := by unfold gd; rw [List.getD_eq_getElem?_getD, List.getElem?_eq_getElem (by omega)]; rfl
    rw [this]
    exact pri_prs pr a m (k + 1) (by omega)
theorem pri_0 (pr : Nat → Int32) (a : List Nat) : pri pr 0 0 a = prs pr a a.length := pri_prs pr a a.length 0 (by omega)
theorem b_msk {p : Nat → Int32} : ∀ {c : List Nat} {x : Int32} {k : Nat} {i : Nat}, bt (msk p x k c) i = true ↔ bt x i = true ∧ ∀ t, t < c.length → bt (p (5 * (k + t) + gd c t)) i = true
  | [], x, k, i => by
    rw [msk]
    exact ⟨fun h => ⟨h, fun t ht => absurd ht (Nat.not_lt_zero t)⟩, fun h => h.1⟩
  | v :: c, x, k, i => by
    rw [msk, b_msk, b_and, Bool.and_eq_true]
    constructor
    · rintro ⟨⟨h1, h2⟩, h3⟩
      refine ⟨h1, fun t ht => ?_⟩
      cases t with
      | zero => exact h2
      | succ t =>
        have := h3 t (by simpa using ht)
        rw [show k + 1 + t = k + (t + 1) by omega] at this
        exact this
    · rintro ⟨h1, h2⟩
      refine ⟨⟨h1, h2 0 (by simp)⟩, fun t ht => ?_⟩
      have := h2 (t + 1) (by simpa using ht)
      rw [show k + (t + 1) = k + 1 + t by omega] at this
      exact this
theorem cuts_sym {kd sa sb : Nat → Nat} {S : Int32} : ∀ {n i j : Nat}, cuts kd sa sb S n i j = cuts kd sa sb S n j i
  | 0, i, j => rfl
  | n + 1, i, j => by rw [cuts, cuts, cuts_sym, cut_sym]
theorem cuts_own {kd sa sb : Nat → Nat} {nr : Nat} {S : Int32} (hr : Rb kd sa sb nr) {f a b : Nat} (ha : a < 5) (hb : b < 5) : ∀ {n : Nat}, n ≤ nr → cuts kd sa sb S n (5 * f + a) (5 * f + b) = false
  | 0, _ => rfl
  | n + 1, h => by
    obtain ⟨h1, h2, h3, h4⟩ := hr.2 n (by omega)
    rw [cuts, cuts_own hr ha hb (by omega), cut_no ha hb (fun h => h4 (h.1.trans h.2.symm)) (fun h => h4 (h.1.trans h.2.symm)), Bool.and_false]
    rfl
theorem b_cf {p : Nat → Int32} {kd sa sb : Nat → Nat} {nr : Nat} {S x : Int32} (hr : Rb kd sa sb nr) (hp : Pg p kd sa sb nr S) {c : List Nat} (hN : N ≤ 6) (hc : c ∈ cf p N 0 x) {j v : Nat} (hj : j < N) (hv : v < 5) : bt (msk p x 0 c) (5 * j + v) = decide (v = gd c j) := by
  obtain ⟨h1, h2, h3⟩ := mem_cf.mp hc
  have h5 : ∀ t, t < N → gd c t < 5 := fun t ht => (h2 t ht).1
  refine Bool.eq_iff_iff.mpr ?_
  rw [b_msk, decide_eq_true_iff]
  constructor
  · rintro ⟨-, h⟩
    have h6 := h j (by omega)
    have h5j := h5 j hj
    rw [Nat.zero_add, hp _ _ (by omega) (by omega)] at h6
    unfold bs at h6
    rw [if_pos (by omega), Bool.and_eq_true, decide_eq_true_iff] at h6
    omega
  · rintro rfl
    refine ⟨by have := (h2 j hj).2; rw [Nat.zero_add] at this; exact this, fun t ht => ?_⟩
    rw [h1] at ht
    have ht5 := h5 t ht
    rw [Nat.zero_add]
    by_cases q : t = j
    · subst q
      rw [hp _ _ (by omega) (by omega), cuts_own hr hv hv (Nat.le_refl nr)]
      unfold bs
      rw [if_pos rfl, decide_eq_true rfl]
      rfl
    · rcases Nat.lt_or_ge t j with q1 | q1
      · have := h3 t j q1 hj
        simp only [Nat.zero_add] at this
        exact this
      · have := h3 j t (by omega) ht
        simp only [Nat.zero_add] at this
        rw [hp.at (by omega) (by omega) ht5 hv q, cuts_sym]
        change bt (p (5 * j + gd c j)) (5 * t + gd c t) = true at this
        rw [hp.at (by omega) (by omega) hv ht5 (fun h => q h.symm)] at this
        exact this
end PR
