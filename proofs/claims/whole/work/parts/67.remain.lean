/-! what remains: the two sides -/
/-- one slot is looked at -/
def stk (pp : Nat → Int32) (N : Nat) (y : Int32) (s : Nat) : Int32 := if bt y s = true ∧ sl (y &&& pp s) N 0 = false then y &&& (((1 : Int32) <<< (nI s &&& 31)) ^^^ (-1 : Int32)) else y
def fs (pp : Nat → Int32) (N : Nat) (y : Int32) (s : Nat) : Nat → Int32
  | 0 => y
  | r + 1 => fs pp N (stk pp N y s) (s + 1) r
theorem fs_add (pp : Nat → Int32) (N : Nat) : ∀ (a b s : Nat) (y : Int32), fs pp N y s (a + b) = fs pp N (fs pp N y s a) (s + a) b
  | 0, b, s, y => by rw [Nat.zero_add]; rfl
  | a + 1, b, s, y => by
    rw [Nat.succ_add, fs, fs, fs_add pp N a b, show s + 1 + a = s + (a + 1) by omega]
theorem fs_no (pp : Nat → Int32) (N : Nat) : ∀ (r s : Nat) (y : Int32), (∀ i, s ≤ i → i < s + r → bt y i = false) → fs pp N y s r = y
  | 0, _, _, _ => rfl
  | r + 1, s, y, h => by
    have e : stk pp N y s = y := by
      unfold stk
      rw [if_neg (fun q => by rw [h s (Nat.le_refl s) (by omega)] at q; exact absurd q.1 (by decide))]
    rw [fs, e]
    exact fs_no pp N r (s + 1) y (fun i h1 h2 => h i (by omega) (by omega))
def pcn (y : Int32) : Nat → Nat
  | 0 => 0
  | n + 1 => pcn y n + if bt y n = true then 1 else 0
theorem pcn_le (y : Int32) : ∀ n, pcn y n ≤ n
  | 0 => Nat.le_refl 0
  | n + 1 => by have := pcn_le y n; rw [pcn]; split <;> omega
theorem pcn_0 {y : Int32} : ∀ {n : Nat}, pcn y n = 0 → ∀ i, i < n → bt y i = false
  | 0, _, i, hi => absurd hi (Nat.not_lt_zero i)
  | n + 1, h, i, hi => by
    rw [pcn] at h
    by_cases q : i = n
    · rw [q]
      cases hb : bt y n with
      | false => rfl
      | true => rw [hb] at h; simp at h
    · exact pcn_0 (n := n) (by omega) i (by omega)
theorem pcn_drop {y : Int32} {s : Nat} (hs : s < 32) (hb : bt y s = true) : ∀ {n : Nat}, n ≤ 32 → pcn (y &&& (((1 : Int32) <<< (nI s &&& 31)) ^^^ (-1 : Int32))) n + (if s < n then 1 else 0) = pcn y n
  | 0, _ => by simp [pcn]
  | n + 1, h => by
    have := pcn_drop hs hb (n := n) (by omega)
    rw [pcn, pcn, b_drop hs (by omega)]
    by_cases q : n = s
    · subst q
      rw [hb]
      simp at this ⊢
      omega
    · rw [decide_eq_false q, Bool.not_false, Bool.and_true]
      by_cases q2 : s < n
      · rw [if_pos q2] at this
        rw [if_pos (show s < n + 1 by omega)]; omega
      · rw [if_neg q2] at this
        rw [if_neg (show ¬ s < n + 1 by omega)]; omega
section RM
variable {os : List Nat} {ch op : Nat → Nat} {N : Nat} {sz ft sz' all : Int32} {ord opt ord' cho oc cx : Nat → Int32} {ck c1 ci c2 co : Nat → Int32} {kd sa sb : Nat → Nat} {nr : Nat} {pp : Nat → Int32} {on : Int32}
theorem q_mates_L {fu : Nat} (hfu : 40 ≤ fu) (hR : Mb ck c1 ci c2 co kd sa sb nr) (hpp : Pg pp kd sa sb nr on) (hF : Fo N op oc) {f a g : Nat} (hf : f < N) (ha : a < 5) (hg : g < N) (hfg : ¬ f = g) : ∀ (m i n : Nat) (s : Int32), i + m = op g → m < n → (∀ b, b < 32 → bt s b = (decide (b < i) && bt (pp (5 * f + a)) (5 * g + b))) →
    ∃ s', m_X10_mates_L6 fu (nI f) (nI a) (nI g) (nI nr) on oc ck c1 ci c2 co n s (nI i) = some s' ∧ ∀ b, b < 32 → bt s' b = (decide (b < op g) && bt (pp (5 * f + a)) (5 * g + b)) := by
  have hN := hF.1
  have h5 := hF.le5 g hg
  intro m
  induction m with
  | zero =>
    intro i n s him hn hs
    obtain ⟨n, rfl⟩ : ∃ k, n = k + 1 := ⟨n - 1, by omega⟩
    refine ⟨s, ?_, fun b hb => by rw [hs b hb, show i = op g by omega]⟩
    show m_X10_mates_L6_b fu (nI f) (nI a) (nI g) (nI nr) on oc ck c1 ci c2 co (m_X10_mates_L6 fu (nI f) (nI a) (nI g) (nI nr) on oc ck c1 ci c2 co n) s (nI i) = _
    unfold m_X10_mates_L6_b
    rw [if_neg (nI_in2 (by omega) (by omega)), nI_cl (by omega), (hF.2 g hg).2.2, if_pos ((nle (by omega) (by omega)).mpr (by omega))]
  | succ m ih =>
    intro i n s him hn hs
    obtain ⟨n, rfl⟩ : ∃ k, n = k + 1 := ⟨n - 1, by omega⟩
    show ∃ s', m_X10_mates_L6_b fu (nI f) (nI a) (nI g) (nI nr) on oc ck c1 ci c2 co (m_X10_mates_L6 fu (nI f) (nI a) (nI g) (nI nr) on oc ck c1 ci c2 co n) s (nI i) = _ ∧ _
    unfold m_X10_mates_L6_b
    rw [if_neg (nI_in2 (by omega) (by omega)), nI_cl (by omega), (hF.2 g hg).2.2, if_neg (fun h => by have := (nle (by omega) (by omega)).mp h; omega), q_tog hfu hR on (show f < 6 by omega) (show g < 6 by omega) ha (show i < 5 by omega) hfg, Option.bind_some, n1, ← hpp.at (show f < 6 by omega) (show g < 6 by omega) ha (show i < 5 by omega) hfg]
    cases he : bt (pp (5 * f + a)) (5 * g + i) with
    | false =>
      rw [if_pos bI_f]
      refine ih (i + 1) n _ (by omega) (by omega) (fun b hb => ?_)
      rw [b_or, b_0, Bool.or_false, hs b hb]
      by_cases q : b = i
      · rw [q, he, Bool.and_false, Bool.and_false]
      · congr 1; exact decide_eq_decide.mpr (by omega)
    | true =>
      rw [if_neg (show ¬ bI true = 0 by decide)]
      refine ih (i + 1) n _ (by omega) (by omega) (fun b hb => ?_)
      rw [b_or, b_p (by omega) hb, hs b hb]
      by_cases q : b = i
      · rw [q, he, decide_eq_true rfl, decide_eq_true (show i < i + 1 by omega), Bool.or_true]; rfl
      · rw [decide_eq_false q, Bool.or_false]; congr 1; exact decide_eq_decide.mpr (by omega)
theorem q_mates {fu : Nat} (hfu : 40 ≤ fu) (hR : Mb ck c1 ci c2 co kd sa sb nr) (hpp : Pg pp kd sa sb nr on) (hF : Fo N op oc) {f a g : Nat} (hf : f < N) (ha : a < 5) (hg : g < N) (hfg : ¬ f = g) :
    ∃ s', m_X10_mates fu (nI nr) on oc ck c1 ci c2 co (nI f) (nI a) (nI g) = some s' ∧ ∀ b, b < 32 → bt s' b = (decide (b < op g) && bt (pp (5 * f + a)) (5 * g + b)) := by
  have := hF.le5 g hg
  unfold m_X10_mates
  have := q_mates_L hfu hR hpp hF hf ha hg hfg (op g) 0 fu 0 (by omega) (by omega) (fun b _ => by rw [b_0]; simp)
  rw [nI_0] at this
  exact this
/-- the reference's sets are the mask -/
def Rl (N : Nat) (op : Nat → Nat) (y : Int32) (al : Nat → Int32) : Prop := (∀ k, k < N → ∀ i, i < 32 → bt (al k) i = (decide (i < 5) && bt y (5 * k + i))) ∧ ∀ i, i < 32 → bt y i = true → i < 5 * N ∧ i % 5 < op (i / 5)
theorem q_hm_L {fu : Nat} (hfu : 40 ≤ fu) (hR : Mb ck c1 ci c2 co kd sa sb nr) (hpp : Pg pp kd sa sb nr on) (hF : Fo N op oc) {y : Int32} {al : Nat → Int32} (hl : Rl N op y al) {f a : Nat} (hf : f < N) (ha : a < 5) : ∀ (m g n : Nat) (b : Bool), g + m = N → m < n → (b = true ↔ ∀ j, j < g → ¬ j = f → nz5 (y &&& pp (5 * f + a)) j = true) →
    ∃ b', m_X10_hasMates_L5 fu (nI f) (nI a) (nI N) (nI nr) on oc ck c1 ci c2 co al n (bI b) (nI g) = some (bI b') ∧ (b' = true ↔ ∀ j, j < N → ¬ j = f → nz5 (y &&& pp (5 * f + a)) j = true) := by
  have hN := hF.1
  intro m
  induction m with
  | zero =>
    intro g n b him hn hb
    obtain ⟨n, rfl⟩ : ∃ k, n = k + 1 := ⟨n - 1, by omega⟩
    refine ⟨b, ?_, by rw [hb, show g = N by omega]⟩
    show m_X10_hasMates_L5_b fu (nI f) (nI a) (nI N) (nI nr) on oc ck c1 ci c2 co al (m_X10_hasMates_L5 fu (nI f) (nI a) (nI N) (nI nr) on oc ck c1 ci c2 co al n) (bI b) (nI g) = _
    unfold m_X10_hasMates_L5_b
    rw [if_pos ((nle (by omega) (by omega)).mpr (by omega))]
  | succ m ih =>
    intro g n b him hn hb
    obtain ⟨n, rfl⟩ : ∃ k, n = k + 1 := ⟨n - 1, by omega⟩
    have hg5 := hF.le5 g (by omega)
    show ∃ b', m_X10_hasMates_L5_b fu (nI f) (nI a) (nI N) (nI nr) on oc ck c1 ci c2 co al (m_X10_hasMates_L5 fu (nI f) (nI a) (nI N) (nI nr) on oc ck c1 ci c2 co al n) (bI b) (nI g) = _ ∧ _
    unfold m_X10_hasMates_L5_b
    rw [if_neg (fun h => by have := (nle (by omega) (by omega)).mp h; omega), n1]
    have step : ∀ b2 : Bool, (b2 = true ↔ (b = true ∧ (¬ g = f → nz5 (y &&& pp (5 * f + a)) g = true))) → ∃ b', m_X10_hasMates_L5 fu (nI f) (nI a) (nI N) (nI nr) on oc ck c1 ci c2 co al n (bI b2) (nI (g + 1)) = some (bI b') ∧ (b' = true ↔ ∀ j, j < N → ¬ j = f → nz5 (y &&& pp (5 * f + a)) j = true) := by
      intro b2 h2
      refine ih (g + 1) n b2 (by omega) (by omega) ?_
      rw [h2, hb]
      constructor
      · rintro ⟨h3, h4⟩ j hj hjf
        by_cases q : j = g
        · subst q; exact h4 hjf
        · exact h3 j (by omega) hjf
      · intro h3
        exact ⟨fun j hj => h3 j (by omega), h3 g (by omega)⟩
    cases hbb : b with
    | false =>
      rw [if_pos bI_f]
      exact step false (by rw [hbb]; simp)
    | true =>
      rw [if_neg (show ¬ bI true = 0 by decide)]
      by_cases q : g = f
      · rw [if_pos (by rw [q])]
        exact step true (by rw [hbb]; simp [q])
      · rw [if_neg (fun h => q ((neq (by omega) (by omega)).mp h))]
        obtain ⟨s', s1, s2⟩ := q_mates hfu hR hpp hF hf ha (show g < N by omega) (fun h => q h.symm)
        rw [s1, Option.bind_some, if_neg (nI_in2 (by omega) (by omega)), nI_cl (by omega)]
        have hz : (s' &&& al g = 0) ↔ nz5 (y &&& pp (5 * f + a)) g = false := by
          constructor
          · intro h
            cases hc : nz5 (y &&& pp (5 * f + a)) g with
            | false => rfl
            | true =>
              obtain ⟨o, ho, h3⟩ := (nz5_iff (by omega)).mp hc
              rw [b_and, Bool.and_eq_true] at h3
              have h4 := (hl.2 (5 * g + o) (by omega) h3.1).2
              rw [show (5 * g + o) % 5 = o by omega, show (5 * g + o) / 5 = g by omega] at h4
              have h5 := b_and s' (al g) o
              rw [h, b_0, s2 o (by omega), hl.1 g (by omega) o (by omega), h3.1, h3.2, decide_eq_true h4, decide_eq_true ho] at h5
              cases h5
          · intro hc
            refine nz (fun i hi => ?_)
            rw [b_and, s2 i hi, hl.1 g (by omega) i hi]
            by_cases h5 : i < 5
            · cases h6 : bt (pp (5 * f + a)) (5 * g + i) with
              | false => simp
              | true =>
                cases h7 : bt y (5 * g + i) with
                | false => simp
                | true =>
                  have : nz5 (y &&& pp (5 * f + a)) g = true := (nz5_iff (by omega)).mpr ⟨i, h5, by rw [b_and, h6, h7]; rfl⟩
                  rw [hc] at this; cases this
            · rw [decide_eq_false h5]; simp
        by_cases q2 : s' &&& al g = 0
        · rw [if_pos q2]
          exact step false (by rw [hbb, hz.mp q2]; simp [q])
        · rw [if_neg q2]
          refine step true ?_
          rw [hbb]
          have : nz5 (y &&& pp (5 * f + a)) g = true := by
            cases hc : nz5 (y &&& pp (5 * f + a)) g with
            | true => rfl
            | false => exact absurd (hz.mpr hc) q2
          simp [this]
theorem q_hm {fu : Nat} (hfu : 40 ≤ fu) (hR : Mb ck c1 ci c2 co kd sa sb nr) (hpp : Pg pp kd sa sb nr on) (hF : Fo N op oc) {y : Int32} {al : Nat → Int32} (hl : Rl N op y al) {f a : Nat} (hf : f < N) (ha : a < 5) (hb : bt y (5 * f + a) = true) :
    m_X10_hasMates fu (nI N) (nI nr) on oc ck c1 ci c2 co al (nI f) (nI a) = some (bI (sl (y &&& pp (5 * f + a)) N 0)) := by
  have hN := hF.1
  unfold m_X10_hasMates
  obtain ⟨b', h1, h2⟩ := q_hm_L hfu hR hpp hF hl hf ha N 0 fu true (by omega) (by omega) (by simp)
  rw [nI_0] at h1
  rw [show (1 : Int32) = bI true from rfl, h1]
  congr 2
  refine Bool.eq_iff_iff.mpr (h2.trans ?_)
  rw [sl_iff (by omega)]
  constructor
  · intro h j _ hj
    by_cases q : j = f
    · refine ⟨a, ha, ?_⟩
      rw [q, b_and, hb, hpp _ _ (by omega) (by omega), cuts_own hR.1 ha ha (Nat.le_refl nr)]
      unfold bs
      rw [if_pos rfl, decide_eq_true rfl]; rfl
    · exact (nz5_iff (by omega)).mp (h j (by omega) q)
  · intro h j hj _
    exact (nz5_iff (by omega)).mpr (h j (by omega) (by omega))
theorem stk_sub {y : Int32} {s i : Nat} (hs : s < 32) (hi : i < 32) (h : bt (stk pp N y s) i = true) : bt y i = true := by
  unfold stk at h
  split at h
  · rw [b_drop hs hi, Bool.and_eq_true] at h; exact h.1
  · exact h
/-- whether something was struck since y0 -/
def Iv (y0 : Int32) (b : Bool) (y : Int32) : Prop := (b = false ∧ y = y0) ∨ (b = true ∧ pcn y 30 < pcn y0 30)
theorem Iv.le {y0 y : Int32} {b : Bool} (h : Iv y0 b y) : pcn y 30 ≤ pcn y0 30 := by
  rcases h with ⟨-, h⟩ | ⟨-, h⟩
  · rw [h]; exact Nat.le_refl _
  · omega
theorem Rl_stk {y : Int32} {al : Nat → Int32} (hN : N ≤ 6) (hl : Rl N op y al) {f a : Nat} (hf : f < N) (ha : a < 5) : Rl N op (y &&& (((1 : Int32) <<< (nI (5 * f + a) &&& 31)) ^^^ (-1 : Int32))) (upd al f (al f &&& (((1 : Int32) <<< (nI a &&& 31)) ^^^ (-1 : Int32)))) := by
  refine ⟨fun k hk i hi => ?_, fun i hi h => ?_⟩
  · by_cases q : k = f
    · rw [q, upd_s, b_drop (by omega) hi, hl.1 f hf i hi]
      by_cases q5 : i < 5
      · rw [b_drop (by omega) (by omega), decide_eq_true q5, Bool.true_and, Bool.true_and]
        congr 2
        exact decide_eq_decide.mpr (by omega)
      · rw [decide_eq_false q5]; simp
    · rw [upd_n q, hl.1 k hk i hi]
      by_cases q5 : i < 5
      · rw [b_drop (by omega) (by omega), decide_eq_false (show ¬ 5 * k + i = 5 * f + a by omega)]; simp
      · rw [decide_eq_false q5]; simp
  · rw [b_drop (by omega) hi, Bool.and_eq_true] at h
    exact hl.2 i hi h.1
theorem q_r53 {fu : Nat} (hfu : 40 ≤ fu) (hR : Mb ck c1 ci c2 co kd sa sb nr) (hpp : Pg pp kd sa sb nr on) (hF : Fo N op oc) {x1 th : Int32} {k34 : Int32 → Int32 → (Nat → Int32) → Option (Int32 × Int32 × (Nat → Int32))} {k42 : Int32 → Int32 → Int32 → (Nat → Int32) → Option (Int32 × Int32 × (Nat → Int32))} {f : Nat} (hf : f < N) {y0 : Int32} : ∀ (m a n : Nat) (y : Int32) (b : Bool) (al : Nat → Int32), a + m = op f → m < n → Rl N op y al → Iv y0 b y →
    ∃ al' b', m_X10_remaining_L53 fu x1 (nI N) (nI nr) on oc ck c1 ci c2 co cho k34 k42 n (bI b) (nI f) (nI a) th al = k42 (bI b') (nI (f + 1)) th al' ∧ Rl N op (fs pp N y (5 * f + a) (5 - a)) al' ∧ Iv y0 b' (fs pp N y (5 * f + a) (5 - a)) := by
  have hN := hF.1
  have h5 := hF.le5 f hf
  intro m
  induction m with
  | zero =>
    intro a n y b al him hn hl hi
    obtain ⟨n, rfl⟩ : ∃ k, n = k + 1 := ⟨n - 1, by omega⟩
    have e : fs pp N y (5 * f + a) (5 - a) = y := fs_no pp N _ _ _ (fun i h1 h2 => by
      cases hb : bt y i with
      | false => rfl
      | true =>
        have h3 := (hl.2 i (by omega) hb).2
        have h4 : i / 5 = f := by omega
        rw [h4] at h3
        omega)
    rw [e]
    refine ⟨al, b, ?_, hl, hi⟩
    show m_X10_remaining_L53_b fu x1 (nI N) (nI nr) on oc ck c1 ci c2 co cho k34 k42 (m_X10_remaining_L53 fu x1 (nI N) (nI nr) on oc ck c1 ci c2 co cho k34 k42 n) (bI b) (nI f) (nI a) th al = _
    unfold m_X10_remaining_L53_b
    rw [if_neg (nI_in2 (by omega) (by omega)), nI_cl (by omega), (hF.2 f hf).2.2, if_pos ((nle (by omega) (by omega)).mpr (by omega)), n1]
  | succ m ih =>
    intro a n y b al him hn hl hi
    obtain ⟨n, rfl⟩ : ∃ k, n = k + 1 := ⟨n - 1, by omega⟩
    rw [show 5 - a = (5 - (a + 1)) + 1 by omega, fs]
    show ∃ al' b', m_X10_remaining_L53_b fu x1 (nI N) (nI nr) on oc ck c1 ci c2 co cho k34 k42 (m_X10_remaining_L53 fu x1 (nI N) (nI nr) on oc ck c1 ci c2 co cho k34 k42 n) (bI b) (nI f) (nI a) th al = _ ∧ _
    unfold m_X10_remaining_L53_b
    rw [if_neg (nI_in2 (by omega) (by omega)), nI_cl (by omega), (hF.2 f hf).2.2, if_neg (fun h => by have := (nle (by omega) (by omega)).mp h; omega), n1]
    have hab := hl.1 f hf a (by omega)
    rw [decide_eq_true (show a < 5 by omega), Bool.true_and] at hab
    cases hb : bt y (5 * f + a) with
    | false =>
      rw [hb] at hab
      rw [if_neg (fun h => by rw [(holdsO _ (by omega)).mp h] at hab; cases hab), show stk pp N y (5 * f + a) = y by unfold stk; rw [if_neg (fun q => by rw [hb] at q; exact absurd q.1 (by decide))]]
      exact ih (a + 1) n y b al (by omega) (by omega) hl hi
    | true =>
      rw [hb] at hab
      rw [if_pos ((holdsO _ (by omega)).mpr hab), q_hm hfu hR hpp hF hl hf (show a < 5 by omega) hb, Option.bind_some]
      cases hs : sl (y &&& pp (5 * f + a)) N 0 with
      | true =>
        rw [if_neg (show ¬ bI true = 0 by decide), show stk pp N y (5 * f + a) = y by unfold stk; rw [if_neg (fun q => by rw [hs] at q; exact absurd q.2 (by decide))]]
        exact ih (a + 1) n y b al (by omega) (by omega) hl hi
      | false =>
        rw [if_pos bI_f, show (1 : Int32) = bI true from rfl, show stk pp N y (5 * f + a) = y &&& ((bI true <<< (nI (5 * f + a) &&& 31)) ^^^ (-1 : Int32)) by unfold stk; rw [if_pos ⟨hb, hs⟩]; rfl]
        refine ih (a + 1) n _ true _ (by omega) (by omega) (Rl_stk hN hl hf (show a < 5 by omega)) (Or.inr ⟨rfl, ?_⟩)
        have h1 := pcn_drop (y := y) (s := 5 * f + a) (by omega) hb (n := 30) (by omega)
        rw [if_pos (show 5 * f + a < 30 by omega)] at h1
        have h2 := hi.le
        show pcn (y &&& (((1 : Int32) <<< (nI (5 * f + a) &&& 31)) ^^^ (-1 : Int32))) 30 < _
        omega
theorem q_r42 {fu : Nat} (hfu : 40 ≤ fu) (hR : Mb ck c1 ci c2 co kd sa sb nr) (hpp : Pg pp kd sa sb nr on) (hF : Fo N op oc) {x1 th : Int32} {k34 : Int32 → Int32 → (Nat → Int32) → Option (Int32 × Int32 × (Nat → Int32))} {y0 : Int32} : ∀ (m f n : Nat) (y : Int32) (b : Bool) (al : Nat → Int32), f + m = N → m < n → Rl N op y al → Iv y0 b y →
    ∃ al' b', m_X10_remaining_L42 fu x1 (nI N) (nI nr) on oc ck c1 ci c2 co cho k34 n (bI b) (nI f) th al = k34 (bI b') th al' ∧ Rl N op (fs pp N y (5 * f) (30 - 5 * f)) al' ∧ Iv y0 b' (fs pp N y (5 * f) (30 - 5 * f)) := by
  have hN := hF.1
  intro m
  induction m with
  | zero =>
    intro f n y b al him hn hl hi
    obtain ⟨n, rfl⟩ : ∃ k, n = k + 1 := ⟨n - 1, by omega⟩
    have e : fs pp N y (5 * f) (30 - 5 * f) = y := fs_no pp N _ _ _ (fun i h1 h2 => by
      cases hb : bt y i with
      | false => rfl
      | true => have := (hl.2 i (by omega) hb).1; omega)
    rw [e]
    refine ⟨al, b, ?_, hl, hi⟩
    show m_X10_remaining_L42_b fu x1 (nI N) (nI nr) on oc ck c1 ci c2 co cho k34 (m_X10_remaining_L42 fu x1 (nI N) (nI nr) on oc ck c1 ci c2 co cho k34 n) (bI b) (nI f) th al = _
    unfold m_X10_remaining_L42_b
    rw [if_pos ((nle (by omega) (by omega)).mpr (by omega))]
  | succ m ih =>
    intro f n y b al him hn hl hi
    obtain ⟨n, rfl⟩ : ∃ k, n = k + 1 := ⟨n - 1, by omega⟩
    have h5 := hF.le5 f (by omega)
    obtain ⟨al1, b1, h1, h2, h3⟩ := q_r53 (cho := cho) hfu hR hpp hF (x1 := x1) (th := th) (k34 := k34) (k42 := m_X10_remaining_L42 fu x1 (nI N) (nI nr) on oc ck c1 ci c2 co cho k34 n) (show f < N by omega) (y0 := y0) (op f) 0 fu y b al (by omega) (by omega) hl hi
    obtain ⟨al2, b2, h4, h6, h7⟩ := ih (f + 1) n _ b1 al1 (by omega) (by omega) h2 h3
    have e : fs pp N y (5 * f) (30 - 5 * f) = fs pp N (fs pp N y (5 * f + 0) (5 - 0)) (5 * (f + 1)) (30 - 5 * (f + 1)) := by
      rw [show 30 - 5 * f = (5 - 0) + (30 - 5 * (f + 1)) by omega, fs_add]
      rfl
    rw [e]
    refine ⟨al2, b2, ?_, h6, h7⟩
    show m_X10_remaining_L42_b fu x1 (nI N) (nI nr) on oc ck c1 ci c2 co cho k34 (m_X10_remaining_L42 fu x1 (nI N) (nI nr) on oc ck c1 ci c2 co cho k34 n) (bI b) (nI f) th al = _
    unfold m_X10_remaining_L42_b
    rw [if_neg (fun h => by have := (nle (by omega) (by omega)).mp h; omega)]
    rw [nI_0] at h1
    rw [h1, h4]
theorem q_n18 {fu : Nat} (hfu : 40 ≤ fu) (hN : N ≤ 6) {x1 : Int32} {k5 : Int32 → Int32 → Option Int32} (rd y0 : Int32) : ∀ (m s n : Nat) (y : Int32), s + m = 30 → m < n →
    m_X5_narrow_L18 fu x1 (nI N) pp k5 n y rd y0 (nI s) = if fs pp N y s m = y0 then some (fs pp N y s m) else k5 (fs pp N y s m) (rd + 1) := by
  intro m
  induction m with
  | zero =>
    intro s n y hs hn
    obtain ⟨n, rfl⟩ : ∃ k, n = k + 1 := ⟨n - 1, by omega⟩
    show m_X5_narrow_L18_b fu x1 (nI N) pp k5 (m_X5_narrow_L18 fu x1 (nI N) pp k5 n) y rd y0 (nI s) = _
    unfold m_X5_narrow_L18_b
    rw [if_pos (show (30 : Int32) ≤ nI s from (nle (a := 30) (b := s) (by omega) (by omega)).mpr (by omega))]
    rfl
  | succ m ih =>
    intro s n y hs hn
    obtain ⟨n, rfl⟩ : ∃ k, n = k + 1 := ⟨n - 1, by omega⟩
    have IH := fun y => ih (s + 1) n y (by omega) (by omega)
    show m_X5_narrow_L18_b fu x1 (nI N) pp k5 (m_X5_narrow_L18 fu x1 (nI N) pp k5 n) y rd y0 (nI s) = _
    unfold m_X5_narrow_L18_b
    rw [if_neg (show ¬ (30 : Int32) ≤ nI s from fun h => by have := (nle (a := 30) (b := s) (by omega) (by omega)).mp h; omega), q_holds y (by omega), Option.bind_some, n1, fs]
    cases hb : bt y s with
    | false =>
      have e : stk pp N y s = y := by
        unfold stk
        rw [if_neg (fun q => by rw [hb] at q; exact absurd q.1 (by decide))]
      rw [if_pos bI_f, e]
      exact IH y
    | true =>
      have q0 := q_some (fu := fu) (y &&& pp s) (f := 0) (N := N) hN (by omega) (by omega)
      rw [nI_0] at q0
      rw [if_neg (show ¬ bI true = 0 by decide), if_neg (nI_in2 (by omega) (by omega)), nI_cl (by omega), q0, Option.bind_some, Nat.sub_zero]
      cases hs : sl (y &&& pp s) N 0 with
      | false =>
        have e : stk pp N y s = y &&& (((1 : Int32) <<< (nI s &&& 31)) ^^^ (-1 : Int32)) := by
          unfold stk
          rw [if_pos ⟨hb, hs⟩]
        rw [if_pos bI_f, e]; exact IH _
      | true =>
        have e : stk pp N y s = y := by
          unfold stk
          rw [if_neg (fun q => by rw [hs] at q; exact absurd q.2 (by decide))]
        rw [if_neg (show ¬ bI true = 0 by decide), e]; exact IH y
theorem q_rem34 {fu : Nat} (hfu : 200000 ≤ fu) (hR : Mb ck c1 ci c2 co kd sa sb nr) (hpp : Pg pp kd sa sb nr on) (hF : Fo N op oc) {x1 th : Int32} {f : Nat} (hf : f < N) : ∀ (K r n n' : Nat) (y : Int32) (al : Nat → Int32), pcn y 30 = K → r + K ≤ 30 → K + 1 < n → K + 2 < n' → Rl N op y al →
    ∃ z al', m_X5_narrow_L5 fu x1 (nI N) pp n y (nI r) = some z ∧ m_X10_remaining_L34 fu (nI f) (nI N) (nI nr) on oc ck c1 ci c2 co cho n' 1 th al = some (al' f, th, al') ∧ Rl N op z al' := by
  have hN := hF.1
  intro K
  induction K using Nat.strongRecOn with
  | ind K ih =>
    intro r n n' y al hK hr hn hn' hl
    obtain ⟨n, rfl⟩ : ∃ k, n = k + 1 := ⟨n - 1, by omega⟩
    obtain ⟨n', rfl⟩ : ∃ k, n' = k + 1 := ⟨n' - 1, by omega⟩
    obtain ⟨n', rfl⟩ : ∃ k, n' = k + 1 := ⟨n' - 1, by omega⟩
    obtain ⟨al1, b1, h1, h2, h3⟩ := q_r42 (cho := cho) (by omega : 40 ≤ fu) hR hpp hF (x1 := nI f) (th := th) (k34 := m_X10_remaining_L34 fu (nI f) (nI N) (nI nr) on oc ck c1 ci c2 co cho (n' + 1)) (y0 := y) N 0 fu y false al (by omega) (by omega) hl (Or.inl ⟨rfl, rfl⟩)
    rw [nI_0] at h1
    rw [show 5 * 0 = 0 from rfl, Nat.sub_zero] at h2 h3
    have hr1 : m_X10_remaining_L34 fu (nI f) (nI N) (nI nr) on oc ck c1 ci c2 co cho (n' + 1 + 1) 1 th al = m_X10_remaining_L34 fu (nI f) (nI N) (nI nr) on oc ck c1 ci c2 co cho (n' + 1) (bI b1) th al1 := by
      show m_X10_remaining_L34_b fu (nI f) (nI N) (nI nr) on oc ck c1 ci c2 co cho (m_X10_remaining_L34 fu (nI f) (nI N) (nI nr) on oc ck c1 ci c2 co cho (n' + 1)) 1 th al = _
      unfold m_X10_remaining_L34_b
      rw [if_neg (show ¬ (1 : Int32) = 0 by decide)]
      exact h1
    have hx1 : m_X5_narrow_L5 fu x1 (nI N) pp (n + 1) y (nI r) = if (30 : Int32) ≤ nI r then some y else if fs pp N y 0 30 = y then some (fs pp N y 0 30) else m_X5_narrow_L5 fu x1 (nI N) pp n (fs pp N y 0 30) (nI (r + 1)) := by
      have := q_n18 (fu := fu) (pp := pp) (by omega) hN (x1 := x1) (k5 := m_X5_narrow_L5 fu x1 (nI N) pp n) (nI r) y 30 0 fu y (by omega) (by omega)
      rw [nI_0, n1] at this
      rw [← this]
      rfl
    rw [hr1, hx1]
    by_cases q : fs pp N y 0 30 = y
    · have hb : b1 = false := by
        rcases h3 with ⟨h, -⟩ | ⟨-, h⟩
        · exact h
        · rw [q] at h; omega
      refine ⟨fs pp N y 0 30, al1, ?_, ?_, h2⟩
      · by_cases q2 : (30 : Int32) ≤ nI r
        · rw [if_pos q2, q]
        · rw [if_neg q2, if_pos q]
      · rw [hb]
        show m_X10_remaining_L34_b fu (nI f) (nI N) (nI nr) on oc ck c1 ci c2 co cho (m_X10_remaining_L34 fu (nI f) (nI N) (nI nr) on oc ck c1 ci c2 co cho n') 0 th al1 = _
        unfold m_X10_remaining_L34_b
        rw [if_pos rfl, if_neg (nI_in2 (by omega) (by omega)), nI_cl (by omega)]
    · have hb : b1 = true ∧ pcn (fs pp N y 0 30) 30 < pcn y 30 := by
        rcases h3 with ⟨-, h⟩ | h
        · exact absurd h q
        · exact h
      rw [if_neg (show ¬ (30 : Int32) ≤ nI r from fun h => by have := (nle (a := 30) (b := r) (by omega) (by omega)).mp h; omega), if_neg q, hb.1]
      exact ih (pcn (fs pp N y 0 30) 30) (by omega) (r + 1) n (n' + 1) _ al1 rfl (by omega) (by omega) (by omega) h2
theorem q_remaining {fu : Nat} (hfu : 200000 ≤ fu) (hR : Mb ck c1 ci c2 co kd sa sb nr) (hpp : Pg pp kd sa sb nr on) (hM : MM os ch op N sz ft ord opt sz' ord' cho) (hF : Fo N op oc) (ha : Xm all N op (fun _ _ => true)) {f : Nat} (hf : f < N) (th : Int32) (al : Nat → Int32) :
    ∃ y z al1 al', m_X9_allowed fu all sz ft ord opt = some y ∧ m_X5_narrow fu pp y (nI N) = some z ∧ m_X10_allows fu (nI N) oc cho al 63 = some (0, al1) ∧ m_X10_remaining_L34 fu (nI f) (nI N) (nI nr) on oc ck c1 ci c2 co cho fu 1 th al1 = some (s5 z f, th, al') := by
  have hN := hF.1
  obtain ⟨y, y1, hy⟩ := q_allowed (by omega : 40 ≤ fu) hM.1 hM.2.2 hF ha
  obtain ⟨al1, a1, a2⟩ := q_allows (by omega : 40 ≤ fu) hM.2.1 hM.2.2 hF 63 al
  have hFx : Fx y al1 oc op N := Fx_of hF hy (fun j hj => by have := hM.2.2.2 j hj; rw [b_63 j (by omega)]; exact decide_eq_true (by omega)) a2
  have hl : Rl N op y al1 := by
    refine ⟨fun k hk i hi => ?_, fun i hi h => ?_⟩
    · have h5 := hF.le5 k hk
      by_cases q5 : i < 5
      · rw [decide_eq_true q5, Bool.true_and, hFx.2.2 k i hk q5, a2 k hk i hi]
        by_cases q6 : k ∈ os ∧ bt 63 k = true
        · rw [if_pos q6]
          have := (hM.2.2.2 k q6.1).2
          by_cases q7 : i = ch k
          · rw [decide_eq_true q7, decide_eq_true (by omega)]; rfl
          · rw [decide_eq_false q7, Bool.and_false]
        · rw [if_neg q6, Bool.and_self]
      · rw [decide_eq_false q5, Bool.false_and, a2 k hk i hi]
        by_cases q6 : k ∈ os ∧ bt 63 k = true
        · have := (hM.2.2.2 k q6.1).2
          rw [if_pos q6, decide_eq_false (by omega)]
        · rw [if_neg q6, decide_eq_false (by omega)]
    · rw [hy i hi] at h
      simp only [Bool.and_eq_true, decide_eq_true_iff] at h
      exact ⟨h.1, h.2.1⟩
  have hK := pcn_le y 30
  obtain ⟨z, al', h1, h2, h3⟩ := q_rem34 (cho := cho) hfu hR hpp hF (x1 := y) (th := th) hf (pcn y 30) 0 fu fu y al1 rfl (by omega) (by omega) (by omega) hl
  rw [nI_0] at h1
  refine ⟨y, z, al1, al', y1, h1, a1, ?_⟩
  rw [h2, show al' f = s5 z f from b_ext (fun i hi => by rw [h3.1 f hf i hi, b_s5 z (by omega) hi])]
end RM
