/-! the component's search for a price is a fold along the list -/
def sfo (cb ca : Nat → Int32) (y : Int32) : Nat → Int32
  | 0 => 0
  | k + 1 => if y &&& cb k = cb k then sfo cb ca y k + ca k else sfo cb ca y k
theorem q_sfo_L (fu : Nat) (cb ca : Nat → Int32) (y : Int32) {ns : Nat} (hns : ns ≤ 10) : ∀ (m i n : Nat), i + m = ns → m < n →
    m_X7_surchargesOf_L4 fu y (nI ns) cb ca n (sfo cb ca y i) (nI i) = some (sfo cb ca y ns) := by
  intro m
  induction m with
  | zero =>
    intro i n him hn
    obtain ⟨n, rfl⟩ : ∃ k, n = k + 1 := ⟨n - 1, by omega⟩
    show m_X7_surchargesOf_L4_b fu y (nI ns) cb ca (m_X7_surchargesOf_L4 fu y (nI ns) cb ca n) _ (nI i) = _
    unfold m_X7_surchargesOf_L4_b
    rw [if_pos ((nle (by omega) (by omega)).mpr (by omega)), show ns = i by omega]
  | succ m ih =>
    intro i n him hn
    obtain ⟨n, rfl⟩ : ∃ k, n = k + 1 := ⟨n - 1, by omega⟩
    have IH := ih (i + 1) n (by omega) (by omega)
    show m_X7_surchargesOf_L4_b fu y (nI ns) cb ca (m_X7_surchargesOf_L4 fu y (nI ns) cb ca n) _ (nI i) = _
    unfold m_X7_surchargesOf_L4_b
    rw [if_neg (fun h => by have := (nle (by omega) (by omega)).mp h; omega), if_neg (nI_in2 (by omega) (by omega)), nI_cl (by omega), n1]
    rw [sfo] at IH
    by_cases q : y &&& cb i = cb i
    · rw [if_pos q] at IH ⊢; exact IH
    · rw [if_neg q] at IH ⊢; exact IH
theorem q_sfo {fu : Nat} (hfu : 40 ≤ fu) (cb ca : Nat → Int32) (y : Int32) {ns : Nat} (hns : ns ≤ 10) : m_X7_surchargesOf fu (nI ns) cb ca y = some (sfo cb ca y ns) := by
  unfold m_X7_surchargesOf
  have := q_sfo_L fu cb ca y hns ns 0 fu (by omega) (by omega)
  rw [nI_0] at this
  exact this
def mt (sg : Int32) (st : Int32 × Int32 × Int32) (mk pc : Int32) : Int32 × Int32 × Int32 := if st.2.1 = 0 then (mk, 1, pc) else if sg * st.2.2 ≤ sg * pc then st else (mk, 1, pc)
theorem q_meet (sg : Int32) (st : Int32 × Int32 × Int32) (mk pc : Int32) : m_X6_meet st.1 st.2.1 st.2.2 sg mk pc = some (0, mt sg st mk pc) := by
  unfold m_X6_meet mt
  by_cases h : st.2.1 = 0
  · rw [if_pos h, if_pos h]
  · rw [if_neg h, if_neg h]
    by_cases h2 : sg * st.2.2 ≤ sg * pc
    · rw [if_pos h2, if_pos h2]
    · rw [if_neg h2, if_neg h2]
def stp (sg : Int32) (p ofs cb ca : Nat → Int32) (ns : Nat) (x : Int32) (k : Nat) (s : Int32) (st : Int32 × Int32 × Int32) (c : List Nat) : Int32 × Int32 × Int32 := mt sg st (msk p x k c) (pri ofs s k c + sfo cb ca (msk p x k c) ns)
theorem cf_sl {p : Nat → Int32} {m k : Nat} {x : Int32} (hk : k + m ≤ 6) (h : sl x m k = false) : cf p m k x = [] := by
  refine ex_f.mp ?_
  cases he : ex p m k x with
  | false => rfl
  | true => rw [ex_sl hk he] at h; cases h
theorem q_look_L {fu : Nat} (hfu : 40 ≤ fu) (rec : Int32 → Int32 → Int32 → Int32 → (Nat → Int32) → Int32 → (Nat → Int32) → (Nat → Int32) → (Nat → Int32) → Int32 → Int32 → Int32 → Int32 → Option (Int32 × Int32 × Int32 × Int32)) (sg : Int32) (p ofs cb ca : Nat → Int32) {ns : Nat} (x s : Int32) {N k m : Nat} (hN : N ≤ 6) (hk : k + (m + 1) = N)
    (hrec : ∀ st y s', rec st.1 st.2.1 st.2.2 sg p (nI ns) ofs cb ca (nI N) (nI (k + 1)) y s' = some (0, (cf p m (k + 1) y).foldl (stp sg p ofs cb ca ns y (k + 1) s') st)) : ∀ (r v n : Nat) (st : Int32 × Int32 × Int32), v + r = 5 → r < n →
    m_X6_lookFrom_L25 rec fu (nI N) (nI k) x s sg p (nI ns) ofs cb ca n (nI v) st.1 st.2.1 st.2.2 = some (0, (cfo (cfF p m k x) r v).foldl (stp sg p ofs cb ca ns x k s) st) := by
  intro r
  induction r with
  | zero =>
    intro v n st hv hn
    obtain ⟨n, rfl⟩ : ∃ k, n = k + 1 := ⟨n - 1, by omega⟩
    show m_X6_lookFrom_L25_b rec fu (nI N) (nI k) x s sg p (nI ns) ofs cb ca (m_X6_lookFrom_L25 rec fu (nI N) (nI k) x s sg p (nI ns) ofs cb ca n) (nI v) _ _ _ = _
    unfold m_X6_lookFrom_L25_b
    rw [if_pos (show (5 : Int32) ≤ nI v from (nle (a := 5) (b := v) (by omega) (by omega)).mpr (by omega))]
    rfl
  | succ r ih =>
    intro v n st hv hn
    obtain ⟨n, rfl⟩ : ∃ k, n = k + 1 := ⟨n - 1, by omega⟩
    have hi := fun st => ih (v + 1) n st (by omega) (by omega)
    show m_X6_lookFrom_L25_b rec fu (nI N) (nI k) x s sg p (nI ns) ofs cb ca (m_X6_lookFrom_L25 rec fu (nI N) (nI k) x s sg p (nI ns) ofs cb ca n) (nI v) _ _ _ = _
    unfold m_X6_lookFrom_L25_b
    rw [if_neg (show ¬ (5 : Int32) ≤ nI v from fun h => by have := (nle (a := 5) (b := v) (by omega) (by omega)).mp h; omega), q_slotOf]
    simp only [Option.bind_some]
    rw [q_holds x (by omega)]
    simp only [Option.bind_some]
    rw [cfo, List.foldl_append]
    cases hb : bt x (5 * k + v) with
    | false =>
      rw [if_pos bI_f, n1, hi]
      simp [cfF, hb]
    | true =>
      rw [if_neg (by decide), if_neg (nI_in2 (by omega) (by omega)), nI_cl (by omega), n1, q_some _ hN (by omega) (by omega)]
      simp only [Option.bind_some]
      have hm : N - (k + 1) = m := by omega
      rw [hm]
      cases hs : sl (x &&& p (5 * k + v)) m (k + 1) with
      | false =>
        rw [if_pos bI_f, n1, hi]
        simp [cfF, hb, cf_sl (p := p) (show k + 1 + m ≤ 6 by omega) hs]
      | true =>
        rw [if_neg (by decide), hrec]
        simp only [Option.bind_some]
        rw [n1, hi]
        unfold cfF
        rw [hb, if_pos rfl, List.foldl_map]
        rfl
theorem q_look {fu : Nat} (hfu : 40 ≤ fu) (sg : Int32) (p ofs cb ca : Nat → Int32) {ns N : Nat} (hns : ns ≤ 10) (hN : N ≤ 6) : ∀ (m k d : Nat) (x s : Int32) (st : Int32 × Int32 × Int32), k + m = N → m < d →
    m_X6_lookFrom d fu st.1 st.2.1 st.2.2 sg p (nI ns) ofs cb ca (nI N) (nI k) x s = some (0, (cf p m k x).foldl (stp sg p ofs cb ca ns x k s) st) := by
  intro m
  induction m with
  | zero =>
    intro k d x s st hk hd
    obtain ⟨d, rfl⟩ : ∃ k, d = k + 1 := ⟨d - 1, by omega⟩
    show m_X6_lookFrom_b (m_X6_lookFrom d fu) fu st.1 st.2.1 st.2.2 sg p (nI ns) ofs cb ca (nI N) (nI k) x s = _
    unfold m_X6_lookFrom_b
    rw [if_neg (fun h => by have := (nlt (by omega) (by omega)).mp h; omega), q_sfo hfu cb ca x hns]
    simp only [Option.bind_some]
    rw [q_meet]
    rfl
  | succ m ih =>
    intro k d x s st hk hd
    obtain ⟨d, rfl⟩ : ∃ k, d = k + 1 := ⟨d - 1, by omega⟩
    show m_X6_lookFrom_b (m_X6_lookFrom d fu) fu st.1 st.2.1 st.2.2 sg p (nI ns) ofs cb ca (nI N) (nI k) x s = _
    unfold m_X6_lookFrom_b
    rw [if_pos ((nlt (by omega) (by omega)).mpr (by omega))]
    have := q_look_L hfu (m_X6_lookFrom d fu) sg p ofs cb ca x s hN hk (fun st y s' => ih (k + 1) d y s' st (by omega) (by omega)) 5 0 fu st (by omega) (by omega)
    rw [nI_0] at this
    rw [this]
    rfl
theorem fold_c {α β : Type} {f g : α → β → α} : ∀ {l : List β} {st : α}, (∀ c ∈ l, ∀ st, f st c = g st c) → l.foldl f st = l.foldl g st
  | [], _, _ => rfl
  | b :: l, st, h => by
    rw [List.foldl_cons, List.foldl_cons, h b (List.mem_cons_self ..)]
    exact fold_c (fun c hc => h c (List.mem_cons_of_mem _ hc))
theorem prs_c {pr pr' : Nat → Int32} {a : List Nat} : ∀ {n : Nat}, n ≤ 6 → (∀ i, i < 30 → pr i = pr' i) → (∀ j, j < n → gd a j < 5) → prs pr a n = prs pr' a n
  | 0, _, _, _ => rfl
  | n + 1, h, h1, h2 => by
    have := h2 n (by omega)
    rw [prs, prs, prs_c (by omega) h1 (fun j hj => h2 j (by omega)), h1 _ (by omega)]
theorem sfo_sur {N ns : Nat} {su sv : Nat → Nat} {am cb ca : Nat → Int32} (hN : N ≤ 6) (hS : Sc N ns su sv am) (hX : ScX ns su sv am cb ca) {a : List Nat} {y : Int32} (hy : ∀ j v, j < N → v < 5 → bt y (5 * j + v) = decide (v = gd a j)) : ∀ {n : Nat}, n ≤ ns → sfo cb ca y n = sur su sv am a n
  | 0, _ => rfl
  | n + 1, h => by
    obtain ⟨h1, h2, -, -⟩ := hS.2 n (by omega)
    obtain ⟨h3, h4⟩ := hX n (by omega)
    rw [sfo, sur, sfo_sur hN hS hX hy (by omega), h4]
    have e1 := hy (su n / 5) (su n % 5) h1 (by omega)
    have e2 := hy (sv n / 5) (sv n % 5) h2 (by omega)
    rw [show 5 * (su n / 5) + su n % 5 = su n by omega] at e1
    rw [show 5 * (sv n / 5) + sv n % 5 = sv n by omega] at e2
    have : (y &&& cb n = cb n) ↔ hit su sv a n = true := by
      unfold hit
      rw [Bool.and_eq_true, decide_eq_true_iff, decide_eq_true_iff]
      constructor
      · intro q
        have q1 := b_and y (cb n) (su n)
        have q2 := b_and y (cb n) (sv n)
        rw [q, h3 _ (by omega), e1] at q1
        rw [q, h3 _ (by omega), e2] at q2
        simp at q1 q2
        exact ⟨q1.symm, q2.symm⟩
      · rintro ⟨q1, q2⟩
        refine b_ext (fun i hi => ?_)
        rw [b_and, h3 i hi]
        by_cases i1 : i = su n
        · subst i1; rw [e1, decide_eq_true q1.symm]; rfl
        · by_cases i2 : i = sv n
          · subst i2; rw [e2, decide_eq_true q2.symm]; simp
          · simp [i1, i2]
    by_cases q : y &&& cb n = cb n
    · rw [if_pos q, if_pos (this.mp q)]
    · rw [if_neg q, if_neg (fun h => q (this.mpr h))]
