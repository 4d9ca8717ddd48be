/-! counting by trying: the component -/
theorem xk_x {p : Nat → Int32} {x : Int32} {pre : Nat → Nat} {i : Nat} (hi : i < 32) : ∀ {k : Nat}, bt (xk p x pre k) i = (bt x i && bt (xk p (-1) pre k) i)
  | 0 => by rw [xk, xk, b_m1 i hi, Bool.and_true]
  | k + 1 => by rw [xk, xk, b_and, b_and, xk_x hi, Bool.and_assoc]
theorem xk_iff {p : Nat → Int32} {pre : Nat → Nat} {i : Nat} (hi : i < 32) : ∀ {k : Nat}, bt (xk p (-1) pre k) i = true ↔ ∀ j, j < k → bt (p (5 * j + pre j)) i = true
  | 0 => by rw [xk, b_m1 i hi]; exact ⟨fun _ j hj => absurd hj (Nat.not_lt_zero j), fun _ => rfl⟩
  | k + 1 => by
    rw [xk, b_and, Bool.and_eq_true, xk_iff hi]
    constructor
    · rintro ⟨h1, h2⟩ j hj
      by_cases q : j = k
      · rw [q]; exact h2
      · exact h1 j (by omega)
    · intro h
      exact ⟨fun j hj => h j (by omega), h k (by omega)⟩
/-- the options taken so far go together -/
def CPb (p : Nat → Int32) (pre : Nat → Nat) : Nat → Bool
  | 0 => true
  | k + 1 => CPb p pre k && bt (xk p (-1) pre k) (5 * k + pre k)
theorem CPb_c {p : Nat → Int32} {pre pre' : Nat → Nat} : ∀ {k : Nat}, (∀ j, j < k → pre j = pre' j) → CPb p pre k = CPb p pre' k
  | 0, _ => rfl
  | k + 1, h => by rw [CPb, CPb, CPb_c (fun j hj => h j (by omega)), h k (by omega), xk_c (fun j hj => h j (by omega))]
theorem CPb_iff {p : Nat → Int32} {pre : Nat → Nat} : ∀ {k : Nat}, k ≤ 6 → (∀ j, j < k → pre j < 5) → (CPb p pre k = true ↔ ∀ i j, i < j → j < k → bt (p (5 * i + pre i)) (5 * j + pre j) = true)
  | 0, _, _ => ⟨fun _ i j _ hj => absurd hj (Nat.not_lt_zero j), fun _ => rfl⟩
  | k + 1, hk, h5 => by
    have := h5 k (by omega)
    rw [CPb, Bool.and_eq_true, CPb_iff (by omega) (fun j hj => h5 j (by omega)), xk_iff (by omega)]
    constructor
    · rintro ⟨h1, h2⟩ i j hij hj
      by_cases q : j = k
      · subst q; exact h2 i hij
      · exact h1 i j hij (by omega)
    · intro h
      exact ⟨fun i j hij hj => h i j hij (by omega), fun j hj => h j k hj (by omega)⟩
def kal (kd sa sb : Nat → Nat) (S : Int32) (pre : Nat → Nat) : Nat → Bool
  | 0 => true
  | n + 1 => kal kd sa sb S pre n && (!bt S n || kp (kd n) (decide (pre (sa n / 5) = sa n % 5)) (decide (pre (sb n / 5) = sb n % 5)))
theorem kal_iff {kd sa sb : Nat → Nat} {S : Int32} {pre : Nat → Nat} : ∀ {n : Nat}, kal kd sa sb S pre n = true ↔ ∀ r, r < n → bt S r = true → kp (kd r) (decide (pre (sa r / 5) = sa r % 5)) (decide (pre (sb r / 5) = sb r % 5)) = true
  | 0 => ⟨fun _ r hr => absurd hr (Nat.not_lt_zero r), fun _ => rfl⟩
  | n + 1 => by
    rw [kal, Bool.and_eq_true, kal_iff, Bool.or_eq_true]
    constructor
    · rintro ⟨h1, h2⟩ r hr hb
      by_cases q : r = n
      · subst q
        rcases h2 with h2 | h2
        · rw [hb] at h2; cases h2
        · exact h2
      · exact h1 r (by omega) hb
    · intro h
      refine ⟨fun r hr => h r (by omega), ?_⟩
      cases hb : bt S n with
      | false => exact Or.inl rfl
      | true => exact Or.inr (h n (by omega) hb)
theorem cuts_iff {kd sa sb : Nat → Nat} {S : Int32} {i j : Nat} : ∀ {n : Nat}, cuts kd sa sb S n i j = true ↔ ∃ r, r < n ∧ bt S r = true ∧ cut (kd r) (sa r) (sb r) i j = true
  | 0 => ⟨fun h => (by cases h), fun ⟨r, hr, _⟩ => absurd hr (Nat.not_lt_zero r)⟩
  | n + 1 => by
    rw [cuts, Bool.or_eq_true, Bool.and_eq_true, cuts_iff]
    constructor
    · rintro (⟨r, h1, h2, h3⟩ | ⟨h2, h3⟩)
      · exact ⟨r, by omega, h2, h3⟩
      · exact ⟨n, by omega, h2, h3⟩
    · rintro ⟨r, h1, h2, h3⟩
      by_cases q : r = n
      · subst q; exact Or.inr ⟨h2, h3⟩
      · exact Or.inl ⟨r, by omega, h2, h3⟩
/-- the rules are about features that are there -/
def RN (sa sb : Nat → Nat) (nr N : Nat) : Prop := ∀ r, r < nr → sa r / 5 < N ∧ sb r / 5 < N
section TR
variable {N : Nat} {kd sa sb : Nat → Nat} {nr : Nat} {xk' xs xo : Nat → Int32} {p : Nat → Int32} {on : Int32}
theorem kal_cp (hR : Rb kd sa sb nr) (hn : RN sa sb nr N) (hN : N ≤ 6) (hp : Pg p kd sa sb nr on) {pre : Nat → Nat} (h5 : ∀ j, j < N → pre j < 5) : kal kd sa sb on pre nr = CPb p pre N := by
  refine Bool.eq_iff_iff.mpr ?_
  rw [kal_iff, CPb_iff hN h5]
  constructor
  · intro h i j hij hj
    have hi5 := h5 i (by omega)
    have hj5 := h5 j hj
    rw [hp.at (by omega) (by omega) hi5 hj5 (by omega)]
    cases hc : cuts kd sa sb on nr (5 * i + pre i) (5 * j + pre j) with
    | false => rfl
    | true =>
      exfalso
      obtain ⟨r, r1, r2, r3⟩ := cuts_iff.mp hc
      obtain ⟨k1, k2, k3, k4⟩ := hR.2 r r1
      have hk := h r r1 r2
      by_cases q1 : sa r / 5 = i ∧ sb r / 5 = j
      · rw [cut_fg k1 hi5 hj5 (by omega) q1.1 q1.2, ← q1.1, ← q1.2, hk] at r3
        cases r3
      · by_cases q2 : sa r / 5 = j ∧ sb r / 5 = i
        · rw [cut_sym, cut_fg k1 hj5 hi5 (by omega) q2.1 q2.2, ← q2.1, ← q2.2, hk] at r3
          cases r3
        · rw [cut_no hi5 hj5 q1 q2] at r3
          cases r3
  · intro h r r1 r2
    obtain ⟨k1, k2, k3, k4⟩ := hR.2 r r1
    obtain ⟨n1, n2⟩ := hn r r1
    have f5 := h5 _ n1
    have g5 := h5 _ n2
    have e : cut (kd r) (sa r) (sb r) (5 * (sa r / 5) + pre (sa r / 5)) (5 * (sb r / 5) + pre (sb r / 5)) = false := by
      cases hc : cut (kd r) (sa r) (sb r) (5 * (sa r / 5) + pre (sa r / 5)) (5 * (sb r / 5) + pre (sb r / 5)) with
      | false => rfl
      | true =>
        exfalso
        have hcu : cuts kd sa sb on nr (5 * (sa r / 5) + pre (sa r / 5)) (5 * (sb r / 5) + pre (sb r / 5)) = true := cuts_iff.mpr ⟨r, r1, r2, hc⟩
        rcases Nat.lt_or_ge (sa r / 5) (sb r / 5) with q | q
        · have := h _ _ q n2
          rw [hp.at (by omega) (by omega) f5 g5 k4, hcu] at this
          cases this
        · have := h _ _ (by omega : sb r / 5 < sa r / 5) n1
          rw [hp.at (by omega) (by omega) g5 f5 (fun h => k4 h.symm), cuts_sym, hcu] at this
          cases this
    rw [cut_fg k1 f5 g5 k4 rfl rfl] at e
    simpa using e
theorem q_isKept {k : Nat} (hk : k < 3) (b1 b2 : Bool) : m_X8_isKept (nI k) (bI b1) (bI b2) = some (bI (kp k b1 b2)) := by
  unfold m_X8_isKept
  rcases (show k = 0 ∨ k = 1 ∨ k = 2 by omega) with rfl | rfl | rfl <;> cases b1 <;> cases b2 <;> decide
theorem kal_f {pre : Nat → Nat} {S : Int32} {n : Nat} (h : kal kd sa sb S pre n = false) : ∀ d, kal kd sa sb S pre (n + d) = false
  | 0 => h
  | d + 1 => by rw [← Nat.add_assoc, kal, kal_f h d, Bool.false_and]
theorem q_kept_L (fu : Nat) (hR : Rb kd sa sb nr) (hn : RN sa sb nr N) (hB : XB kd sa sb nr xk' xs xo) {pre : Nat → Nat} {T : Int32} (hT : ∀ i, i < 32 → bt T i = (decide (i < 5 * N) && decide (i % 5 = pre (i / 5)))) : ∀ (m i n : Nat), i + m = nr → m < n → kal kd sa sb on pre i = true →
    m_X8_areKeptBy_L2 fu T (nI nr) on xk' xs xo n (nI i) = some (bI (kal kd sa sb on pre nr)) := by
  have h20 := hR.1
  intro m
  induction m with
  | zero =>
    intro i n him hn2 hk
    obtain ⟨n, rfl⟩ : ∃ k, n = k + 1 := ⟨n - 1, by omega⟩
    show m_X8_areKeptBy_L2_b fu T (nI nr) on xk' xs xo (m_X8_areKeptBy_L2 fu T (nI nr) on xk' xs xo n) (nI i) = _
    unfold m_X8_areKeptBy_L2_b
    rw [if_pos ((nle (by omega) (by omega)).mpr (by omega)), show nr = i by omega, hk]
    rfl
  | succ m ih =>
    intro i n him hn2 hk
    obtain ⟨n, rfl⟩ : ∃ k, n = k + 1 := ⟨n - 1, by omega⟩
    have hlt : i < nr := by omega
    obtain ⟨k1, k2, k3, k4⟩ := hR.2 i hlt
    obtain ⟨n1', n2'⟩ := hn i hlt
    have IH := ih (i + 1) n (by omega) (by omega)
    show m_X8_areKeptBy_L2_b fu T (nI nr) on xk' xs xo (m_X8_areKeptBy_L2 fu T (nI nr) on xk' xs xo n) (nI i) = _
    unfold m_X8_areKeptBy_L2_b
    rw [if_neg (fun h => by have := (nle (by omega) (by omega)).mp h; omega), q_holds on (by omega), Option.bind_some, n1 i]
    cases hb : bt on i with
    | false =>
      rw [if_pos bI_f]
      exact IH (by rw [kal, hk, hb]; rfl)
    | true =>
      rw [if_neg (show ¬ bI true = 0 by decide), if_neg (nI_in2 (by omega) (by omega)), nI_cl (by omega), hB.1 i hlt, hB.2.1 i hlt, hB.2.2 i hlt, q_holds T (by omega), q_holds T (by omega), Option.bind_some, Option.bind_some, hT _ (by omega), hT _ (by omega), decide_eq_true (show sa i < 5 * N by omega), decide_eq_true (show sb i < 5 * N by omega), Bool.true_and, Bool.true_and, q_isKept k1, Option.bind_some]
      have e : kal kd sa sb on pre (i + 1) = kp (kd i) (decide (sa i % 5 = pre (sa i / 5))) (decide (sb i % 5 = pre (sb i / 5))) := by
        rw [kal, hk, hb, Bool.true_and, Bool.not_true, Bool.false_or]
        congr 1
        · exact decide_eq_decide.mpr ⟨Eq.symm, Eq.symm⟩
        · exact decide_eq_decide.mpr ⟨Eq.symm, Eq.symm⟩
      rw [← e]
      cases hk2 : kal kd sa sb on pre (i + 1) with
      | true => rw [if_neg (show ¬ bI true = 0 by decide)]; exact IH hk2
      | false =>
        rw [if_pos bI_f]
        have := kal_f hk2 m
        rw [show i + 1 + m = nr by omega] at this
        rw [this]
        rfl
def tv (p : Nat → Int32) (x : Int32) (m k : Nat) (pre : Nat → Nat) : Nat := if CPb p pre k = true then (cf p m k (xk p x pre k)).length else 0
def tw (p : Nat → Int32) (x : Int32) (m k : Nat) (pre : Nat → Nat) (r v : Nat) : Nat := if CPb p pre k = true then (cfo (cfF p m k (xk p x pre k)) r v).length else 0
def Tk (T : Int32) (k : Nat) (pre : Nat → Nat) : Prop := ∀ i, i < 32 → bt T i = (decide (i < 5 * k) && decide (i % 5 = pre (i / 5)))
theorem q_try_L {fu : Nat} (hfu : 40 ≤ fu) (rec : Int32 → Int32 → (Nat → Int32) → (Nat → Int32) → (Nat → Int32) → Int32 → Int32 → Int32 → Int32 → Option Int32) {x T : Int32} {k m : Nat} (hN : N ≤ 6) (hk : k + (m + 1) = N) {pre : Nat → Nat} (h5 : ∀ j, j < k → pre j < 5) (hT : Tk T k pre)
    (hrec : ∀ pre T, (∀ j, j < k + 1 → pre j < 5) → Tk T (k + 1) pre → rec (nI nr) on xk' xs xo (nI N) (nI (k + 1)) x T = some (nI (tv p x m (k + 1) pre))) : ∀ (r v n A : Nat), v + r = 5 → r < n →
    m_X9_tryFrom_L26 rec fu (nI N) (nI k) x T (nI nr) on xk' xs xo n (nI A) (nI v) = some (nI (A + tw p x m k pre r v)) := by
  intro r
  induction r with
  | zero =>
    intro v n A hv hn
    obtain ⟨n, rfl⟩ : ∃ k, n = k + 1 := ⟨n - 1, by omega⟩
    show m_X9_tryFrom_L26_b rec fu (nI N) (nI k) x T (nI nr) on xk' xs xo (m_X9_tryFrom_L26 rec fu (nI N) (nI k) x T (nI nr) on xk' xs xo n) (nI A) (nI v) = _
    unfold m_X9_tryFrom_L26_b tw
    rw [if_pos (show (5 : Int32) ≤ nI v from (nle (a := 5) (b := v) (by omega) (by omega)).mpr (by omega)), cfo, List.length_nil, ite_self, Nat.add_zero]
  | succ r ih =>
    intro v n A hv hn
    obtain ⟨n, rfl⟩ : ∃ k, n = k + 1 := ⟨n - 1, by omega⟩
    have IH := fun A => ih (v + 1) n A (by omega) (by omega)
    show m_X9_tryFrom_L26_b rec fu (nI N) (nI k) x T (nI nr) on xk' xs xo (m_X9_tryFrom_L26 rec fu (nI N) (nI k) x T (nI nr) on xk' xs xo n) (nI A) (nI v) = _
    unfold m_X9_tryFrom_L26_b
    rw [if_neg (show ¬ (5 : Int32) ≤ nI v from fun h => by have := (nle (a := 5) (b := v) (by omega) (by omega)).mp h; omega), q_slotOf, Option.bind_some, q_holds x (by omega), Option.bind_some, n1, n1]
    have hxk := xk_x (p := p) (x := x) (pre := pre) (k := k) (i := 5 * k + v) (by omega)
    cases hb : bt x (5 * k + v) with
    | false =>
      rw [if_pos bI_f, IH]
      rw [hb, Bool.false_and] at hxk
      congr 3
      unfold tw
      rw [cfo]
      congr 1
      unfold cfF
      rw [hxk]
      rfl
    | true =>
      rw [hb, Bool.true_and] at hxk
      have hpre : ∀ j, j < k + 1 → pt pre k v j < 5 := fun j hj => by
        unfold pt
        split
        · omega
        · exact h5 j (by omega)
      have hT2 : Tk (T ||| ((1 : Int32) <<< (nI (5 * k + v) &&& 31))) (k + 1) (pt pre k v) := fun i hi => by
        rw [b_or, hT i hi, b_p (by omega) hi]
        unfold pt
        by_cases q : i / 5 = k
        · rw [if_pos q, decide_eq_false (show ¬ i < 5 * k by omega), decide_eq_true (show i < 5 * (k + 1) by omega), Bool.false_and, Bool.false_or, Bool.true_and]
          exact decide_eq_decide.mpr (by omega)
        · rw [if_neg q, decide_eq_false (show ¬ i = 5 * k + v by omega), Bool.or_false]
          congr 1
          exact decide_eq_decide.mpr (by omega)
      rw [if_neg (show ¬ bI true = 0 by decide), hrec _ _ hpre hT2, Option.bind_some, nI_add, IH]
      congr 2
      rw [Nat.add_assoc]
      congr 1
      unfold tv tw
      have hc : CPb p (pt pre k v) (k + 1) = (CPb p pre k && bt (xk p x pre k) (5 * k + v)) := by
        rw [CPb, CPb_c (pre' := pre) (fun j hj => by unfold pt; rw [if_neg (by omega)]), xk_c (pre' := pre) (fun j hj => by unfold pt; rw [if_neg (by omega)]), hxk]
        unfold pt
        rw [if_pos rfl]
      have hx2 : xk p x (pt pre k v) (k + 1) = xk p x pre k &&& p (5 * k + v) := by
        rw [xk, xk_c (pre' := pre) (fun j hj => by unfold pt; rw [if_neg (by omega)])]
        unfold pt
        rw [if_pos rfl]
      rw [hc, hx2, cfo]
      cases h1 : CPb p pre k with
      | false => rw [Bool.false_and, if_neg (by decide), if_neg (by decide), if_neg (by decide)]
      | true =>
        rw [Bool.true_and, if_pos rfl, if_pos rfl, List.length_append]
        congr 1
        unfold cfF
        cases h2 : bt (xk p x pre k) (5 * k + v) with
        | false => rfl
        | true => rw [if_pos rfl, if_pos rfl, List.length_map]
theorem q_try {fu : Nat} (hfu : 40 ≤ fu) (hR : Rb kd sa sb nr) (hn : RN sa sb nr N) (hB : XB kd sa sb nr xk' xs xo) (hp : Pg p kd sa sb nr on) {x : Int32} (hN : N ≤ 6) : ∀ (m k d : Nat) (pre : Nat → Nat) (T : Int32), k + m = N → m < d → (∀ j, j < k → pre j < 5) → Tk T k pre →
    m_X9_tryFrom d fu (nI nr) on xk' xs xo (nI N) (nI k) x T = some (nI (tv p x m k pre)) := by
  have h20 := hR.1
  intro m
  induction m with
  | zero =>
    intro k d pre T hk hd h5 hT
    obtain ⟨d, rfl⟩ : ∃ k, d = k + 1 := ⟨d - 1, by omega⟩
    show m_X9_tryFrom_b (m_X9_tryFrom d fu) fu (nI nr) on xk' xs xo (nI N) (nI k) x T = _
    unfold m_X9_tryFrom_b m_X8_areKeptBy
    have hkN : k = N := by omega
    subst hkN
    have := q_kept_L (on := on) fu hR hn hB hT nr 0 fu (by omega) (by omega) rfl
    rw [nI_0] at this
    rw [if_neg (fun h => by have := (nlt (by omega) (by omega)).mp h; omega), this, Option.bind_some, kal_cp hR hn hN hp h5]
    unfold tv
    cases CPb p pre k with
    | false => rw [if_pos bI_f, if_neg (by decide), nI_0]
    | true => rw [if_neg (show ¬ bI true = 0 by decide), if_pos rfl]; rfl
  | succ m ih =>
    intro k d pre T hk hd h5 hT
    obtain ⟨d, rfl⟩ : ∃ k, d = k + 1 := ⟨d - 1, by omega⟩
    show m_X9_tryFrom_b (m_X9_tryFrom d fu) fu (nI nr) on xk' xs xo (nI N) (nI k) x T = _
    unfold m_X9_tryFrom_b
    rw [if_pos ((nlt (by omega) (by omega)).mpr (by omega))]
    have := q_try_L (p := p) hfu (m_X9_tryFrom d fu) hN hk h5 hT (fun pre T h1 h2 => ih (k + 1) d pre T (by omega) (by omega) h1 h2) 5 0 fu 0 (by omega) (by omega)
    rw [nI_0, Nat.zero_add] at this
    rw [this]
    rfl
end TR
