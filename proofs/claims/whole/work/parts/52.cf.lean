/-! the configurations, in their order, by the rows of what goes together -/
def cfo (F : Nat → List (List Nat)) : Nat → Nat → List (List Nat)
  | 0, _ => []
  | r + 1, v => F v ++ cfo F r (v + 1)
def cf (p : Nat → Int32) : Nat → Nat → Int32 → List (List Nat)
  | 0, _, _ => [[]]
  | m + 1, k, x => cfo (fun v => if bt x (5 * k + v) then (cf p m (k + 1) (x &&& p (5 * k + v))).map (fun c => v :: c) else []) 5 0
def cfF (p : Nat → Int32) (m k : Nat) (x : Int32) (v : Nat) : List (List Nat) := if bt x (5 * k + v) then (cf p m (k + 1) (x &&& p (5 * k + v))).map (fun c => v :: c) else []
theorem cf_s (p : Nat → Int32) (m k : Nat) (x : Int32) : cf p (m + 1) k x = cfo (cfF p m k x) 5 0 := rfl
theorem mem_cfo {F : Nat → List (List Nat)} {c : List Nat} : ∀ {r v : Nat}, c ∈ cfo F r v ↔ ∃ w, v ≤ w ∧ w < v + r ∧ c ∈ F w
  | 0, v => by simp [cfo]; omega
  | r + 1, v => by
    rw [cfo, List.mem_append, mem_cfo]
    constructor
    · rintro (h | ⟨w, h1, h2, h3⟩)
      · exact ⟨v, Nat.le_refl v, by omega, h⟩
      · exact ⟨w, by omega, by omega, h3⟩
    · rintro ⟨w, h1, h2, h3⟩
      rcases Nat.eq_or_lt_of_le h1 with rfl | h
      · exact Or.inl h3
      · exact Or.inr ⟨w, h, by omega, h3⟩
theorem mem_cf_s {p : Nat → Int32} {m k : Nat} {x : Int32} {c : List Nat} : c ∈ cf p (m + 1) k x ↔ ∃ v c', c = v :: c' ∧ v < 5 ∧ bt x (5 * k + v) = true ∧ c' ∈ cf p m (k + 1) (x &&& p (5 * k + v)) := by
  rw [cf_s, mem_cfo]
  constructor
  · rintro ⟨w, -, h2, h3⟩
    unfold cfF at h3
    cases hb : bt x (5 * k + w) with
    | false => rw [hb] at h3; simp at h3
    | true =>
      rw [hb, if_pos rfl] at h3
      obtain ⟨c', h4, h5⟩ := List.mem_map.mp h3
      exact ⟨w, c', h5.symm, by omega, hb, h4⟩
  · rintro ⟨v, c', rfl, h1, h2, h3⟩
    refine ⟨v, Nat.zero_le v, by omega, ?_⟩
    unfold cfF
    rw [h2, if_pos rfl]
    exact List.mem_map.mpr ⟨c', h3, rfl⟩
theorem mem_cf {p : Nat → Int32} : ∀ {m k : Nat} {x : Int32} {c : List Nat}, c ∈ cf p m k x ↔ c.length = m ∧ (∀ j, j < m → c.getD j 0 < 5 ∧ bt x (5 * (k + j) + c.getD j 0) = true) ∧ ∀ i j, i < j → j < m → bt (p (5 * (k + i) + c.getD i 0)) (5 * (k + j) + c.getD j 0) = true
  | 0, k, x, c => by
    simp only [cf, List.mem_singleton]
    constructor
    · rintro rfl; exact ⟨rfl, fun j h => absurd h (Nat.not_lt_zero j), fun i j _ h => absurd h (Nat.not_lt_zero j)⟩
    · rintro ⟨h, -, -⟩; exact List.length_eq_zero_iff.mp h
  | m + 1, k, x, c => by
    rw [mem_cf_s]
    constructor
    · rintro ⟨v, c', rfl, h1, h2, h3⟩
      obtain ⟨e1, e2, e3⟩ := mem_cf.mp h3
      refine ⟨by simp [e1], ?_, ?_⟩
      · intro j hj
        cases j with
        | zero => exact ⟨h1, h2⟩
        | succ j =>
          obtain ⟨a, b⟩ := e2 j (by omega)
          rw [b_and, Bool.and_eq_true] at b
          simp only [List.getD_cons_succ]
          exact ⟨a, by rw [show k + (j + 1) = k + 1 + j by omega]; exact b.1⟩
      · intro i j hij hj
        cases j with
        | zero => omega
        | succ j =>
          cases i with
          | zero =>
            obtain ⟨a, b⟩ := e2 j (by omega)
            rw [b_and, Bool.and_eq_true] at b
            simp only [List.getD_cons_succ, List.getD_cons_zero, Nat.add_zero]
            rw [show k + (j + 1) = k + 1 + j by omega]; exact b.2
          | succ i =>
            simp only [List.getD_cons_succ]
            have := e3 i j (by omega) (by omega)
            rw [show k + (j + 1) = k + 1 + j by omega, show k + (i + 1) = k + 1 + i by omega]; exact this
    · rintro ⟨h1, h2, h3⟩
      cases c with
      | nil => cases h1
      | cons v c' =>
        obtain ⟨a0, b0⟩ := h2 0 (by omega)
        simp only [List.getD_cons_zero, Nat.add_zero] at a0 b0
        refine ⟨v, c', rfl, a0, b0, mem_cf.mpr ⟨by simpa using h1, ?_, ?_⟩⟩
        · intro j hj
          obtain ⟨a, b⟩ := h2 (j + 1) (by omega)
          have c0 := h3 0 (j + 1) (by omega) (by omega)
          simp only [List.getD_cons_succ, List.getD_cons_zero, Nat.add_zero] at a b c0
          rw [show k + (j + 1) = k + 1 + j by omega] at b c0
          exact ⟨a, by rw [b_and, b, c0]; rfl⟩
        · intro i j hij hj
          have c0 := h3 (i + 1) (j + 1) (by omega) (by omega)
          simp only [List.getD_cons_succ] at c0
          rw [show k + (j + 1) = k + 1 + j by omega, show k + (i + 1) = k + 1 + i by omega] at c0
          exact c0
/-- whether there is one -/
def ex (p : Nat → Int32) (m k : Nat) (x : Int32) : Bool := !(cf p m k x).isEmpty
theorem ex_iff {p : Nat → Int32} {m k : Nat} {x : Int32} : ex p m k x = true ↔ ∃ c, c ∈ cf p m k x := by
  unfold ex
  cases h : cf p m k x with
  | nil => simp
  | cons a l => simp
theorem ex_f {p : Nat → Int32} {m k : Nat} {x : Int32} : ex p m k x = false ↔ cf p m k x = [] := by
  unfold ex
  cases h : cf p m k x with
  | nil => simp
  | cons a l => simp
theorem ex_sl {p : Nat → Int32} {m k : Nat} {x : Int32} (hk : k + m ≤ 6) (h : ex p m k x = true) : sl x m k = true := by
  obtain ⟨c, hc⟩ := ex_iff.mp h
  obtain ⟨-, h2, -⟩ := mem_cf.mp hc
  refine (sl_iff hk).mpr (fun j h1 h3 => ?_)
  obtain ⟨a, b⟩ := h2 (j - k) (by omega)
  rw [show k + (j - k) = j by omega] at b
  exact ⟨_, a, b⟩
theorem q_lsf_L {fu : Nat} (hfu : 40 ≤ fu) (rec : (Nat → Int32) → Int32 → Int32 → Int32 → Option Int32) (p : Nat → Int32) (x : Int32) {N k m : Nat} (hN : N ≤ 6) (hk : k + (m + 1) = N)
    (hrec : ∀ y, rec p (nI N) (nI (k + 1)) y = some (bI (ex p m (k + 1) y))) : ∀ (r v n : Nat), v + r = 5 → r < n →
    m_X5_leaveSomeFrom_L10 rec fu (nI N) (nI k) x p n (nI v) = some (bI (!(cfo (cfF p m k x) r v).isEmpty)) := by
  intro r
  induction r with
  | zero =>
    intro v n hv hn
    obtain ⟨n, rfl⟩ : ∃ k, n = k + 1 := ⟨n - 1, by omega⟩
    show m_X5_leaveSomeFrom_L10_b rec fu (nI N) (nI k) x p (m_X5_leaveSomeFrom_L10 rec fu (nI N) (nI k) x p n) (nI v) = _
    unfold m_X5_leaveSomeFrom_L10_b
    rw [if_pos (show (5 : Int32) ≤ nI v from (nle (a := 5) (b := v) (by omega) (by omega)).mpr (by omega))]
    rfl
  | succ r ih =>
    intro v n hv hn
    obtain ⟨n, rfl⟩ : ∃ k, n = k + 1 := ⟨n - 1, by omega⟩
    have hi := ih (v + 1) n (by omega) (by omega)
    show m_X5_leaveSomeFrom_L10_b rec fu (nI N) (nI k) x p (m_X5_leaveSomeFrom_L10 rec fu (nI N) (nI k) x p n) (nI v) = _
    unfold m_X5_leaveSomeFrom_L10_b
    rw [if_neg (show ¬ (5 : Int32) ≤ nI v from fun h => by have := (nle (a := 5) (b := v) (by omega) (by omega)).mp h; omega), q_slotOf]
    simp only [Option.bind_some]
    rw [q_holds x (by omega)]
    simp only [Option.bind_some]
    rw [cfo]
    cases hb : bt x (5 * k + v) with
    | false =>
      rw [if_pos bI_f, n1, hi]
      simp [cfF, hb]
    | true =>
      rw [if_neg (by decide), if_neg (nI_in2 (by omega) (by omega)), nI_cl (by omega), n1, q_some _ hN (by omega) (by omega)]
      simp only [Option.bind_some]
      rw [hrec]
      simp only [Option.bind_some]
      have hm : N - (k + 1) = m := by omega
      rw [hm]
      cases hs : sl (x &&& p (5 * k + v)) m (k + 1) with
      | false =>
        have : ex p m (k + 1) (x &&& p (5 * k + v)) = false := by
          cases he : ex p m (k + 1) (x &&& p (5 * k + v)) with
          | false => rfl
          | true => rw [ex_sl (by omega) he] at hs; cases hs
        rw [if_pos bI_f, n1, hi]
        simp [cfF, hb, ex_f.mp this]
      | true =>
        rw [if_neg (by decide)]
        cases he : ex p m (k + 1) (x &&& p (5 * k + v)) with
        | false =>
          rw [if_pos bI_f, n1, hi]
          simp [cfF, hb, ex_f.mp he]
        | true =>
          rw [if_neg (by decide)]
          obtain ⟨c, hc⟩ := ex_iff.mp he
          have : (cfF p m k x v ++ cfo (cfF p m k x) r (v + 1)).isEmpty = false := by
            unfold cfF
            rw [hb, if_pos rfl]
            cases h4 : cf p m (k + 1) (x &&& p (5 * k + v)) with
            | nil => rw [h4] at hc; cases hc
            | cons a l => rfl
          rw [this]; rfl
theorem q_lsf {fu : Nat} (hfu : 40 ≤ fu) (p : Nat → Int32) {N : Nat} (hN : N ≤ 6) : ∀ (m k d : Nat) (x : Int32), k + m = N → m < d → m_X5_leaveSomeFrom d fu p (nI N) (nI k) x = some (bI (ex p m k x)) := by
  intro m
  induction m with
  | zero =>
    intro k d x hk hd
    obtain ⟨d, rfl⟩ : ∃ k, d = k + 1 := ⟨d - 1, by omega⟩
    show m_X5_leaveSomeFrom_b (m_X5_leaveSomeFrom d fu) fu p (nI N) (nI k) x = _
    unfold m_X5_leaveSomeFrom_b
    rw [if_neg (fun h => by have := (nlt (by omega) (by omega)).mp h; omega)]
    rfl
  | succ m ih =>
    intro k d x hk hd
    obtain ⟨d, rfl⟩ : ∃ k, d = k + 1 := ⟨d - 1, by omega⟩
    show m_X5_leaveSomeFrom_b (m_X5_leaveSomeFrom d fu) fu p (nI N) (nI k) x = _
    unfold m_X5_leaveSomeFrom_b
    rw [if_pos ((nlt (by omega) (by omega)).mpr (by omega))]
    have := q_lsf_L hfu (m_X5_leaveSomeFrom d fu) p x hN hk (fun y => ih (k + 1) d y (by omega) (by omega)) 5 0 fu (by omega) (by omega)
    rw [nI_0] at this
    rw [this]
    rfl
theorem q_leaveSome {fu : Nat} (hfu : 40 ≤ fu) (p : Nat → Int32) {N : Nat} (hN : N ≤ 6) (x : Int32) : m_X5_leaveSome fu p x (nI N) = some (bI (ex p N 0 x)) := by
  unfold m_X5_leaveSome
  have := q_lsf hfu p hN N 0 7 x (by omega) (by omega)
  rw [nI_0] at this
  rw [this]
  rfl
