/-! the reference: features, options, what goes together, the next pick -/
theorem bI_ne {b : Bool} : ¬ bI b = 0 ↔ b = true := by cases b <;> decide
theorem holdsO (x : Int32) {n : Nat} (hn : n < 32) : ((x >>> (nI n &&& 31)) &&& (1 : Int32) = (1 : Int32)) ↔ bt x n = true := by
  have e : ∀ i, i < 32 → bt ((x >>> (nI n &&& 31)) &&& (1 : Int32)) i = (decide (i = 0) && bt x n) := by
    intro i hi
    rw [b_and, b_1 i hi, b_sshr n hn x hi]
    by_cases h : i = 0
    · subst h; simp [hn]
    · simp [h]
  constructor
  · intro h
    have := e 0 (by omega)
    rw [h] at this
    simpa [b_1] using this.symm
  · intro h
    exact b_ext (fun i hi => by rw [e i hi, h, Bool.and_true, b_1 i hi])
theorem kn0 {n : Nat} (h : n < 2000) : (nI n = (0 : Int32)) ↔ n = 0 := neq (b := 0) h (by omega)
theorem kn1 {n : Nat} (h : n < 2000) : (nI n = (1 : Int32)) ↔ n = 1 := neq (b := 1) h (by omega)
theorem kn2 {n : Nat} (h : n < 2000) : (nI n = (2 : Int32)) ↔ n = 2 := neq (b := 2) h (by omega)
def kp (k : Nat) (a b : Bool) : Bool := if k = 0 then !(a && b) else if k = 1 then !a || b else a == b
theorem cut_fg {k s o f a g b : Nat} (hk : k < 3) (ha : a < 5) (hb : b < 5) (hfg : ¬ f = g) (hs : s / 5 = f) (ho : o / 5 = g) : cut k s o (5 * f + a) (5 * g + b) = !kp k (decide (a = s % 5)) (decide (b = o % 5)) := by
  have e1 : decide (5 * f + a = s) = decide (a = s % 5) := decide_eq_decide.mpr (by omega)
  have e2 : decide (5 * g + b = o) = decide (b = o % 5) := decide_eq_decide.mpr (by omega)
  have e3 : decide (5 * f + a = o) = false := decide_eq_false (by omega)
  have e4 : decide (5 * g + b = s) = false := decide_eq_false (by omega)
  have e5 : decide ((5 * g + b) / 5 = o / 5) = true := decide_eq_true (by omega)
  have e6 : decide ((5 * f + a) / 5 = s / 5) = true := decide_eq_true (by omega)
  have e7 : decide ((5 * g + b) / 5 = s / 5) = false := decide_eq_false (by omega)
  have e8 : decide ((5 * f + a) / 5 = o / 5) = false := decide_eq_false (by omega)
  unfold cut pc pf kp
  rw [e1, e2, e3, e4, e5, e6, e7, e8]
  rcases (show k = 0 ∨ k = 1 ∨ k = 2 by omega) with rfl | rfl | rfl <;> cases decide (a = s % 5) <;> cases decide (b = o % 5) <;> rfl
theorem cut_sym {k s o i j : Nat} : cut k s o i j = cut k s o j i := by
  have e1 : pc s o i j = pc s o j i := by unfold pc; cases decide (i = s) <;> cases decide (j = o) <;> cases decide (i = o) <;> cases decide (j = s) <;> rfl
  have e2 : ∀ s o, pf s o i j = pf s o j i := by intro s o; unfold pf; rw [Bool.or_comm]
  unfold cut
  rw [e1, e2, e2]
theorem cut_no {k s o f a g b : Nat} (ha : a < 5) (hb : b < 5) (h1 : ¬ (s / 5 = f ∧ o / 5 = g)) (h2 : ¬ (s / 5 = g ∧ o / 5 = f)) : cut k s o (5 * f + a) (5 * g + b) = false := by
  have e : ∀ s o, ¬ (s / 5 = f ∧ o / 5 = g) → ¬ (s / 5 = g ∧ o / 5 = f) → pf s o (5 * f + a) (5 * g + b) = false := by
    intro s o h1 h2
    unfold pf
    have e1 : ¬ (5 * f + a = s ∧ (5 * g + b) / 5 = o / 5) := by omega
    have e2 : ¬ (5 * g + b = s ∧ (5 * f + a) / 5 = o / 5) := by omega
    rcases Decidable.not_and_iff_or_not.mp e1 with h | h <;> rcases Decidable.not_and_iff_or_not.mp e2 with h3 | h3 <;> simp [h, h3]
  have e' : pc s o (5 * f + a) (5 * g + b) = false := by
    unfold pc
    have e1 : ¬ (5 * f + a = s ∧ 5 * g + b = o) := by omega
    have e2 : ¬ (5 * f + a = o ∧ 5 * g + b = s) := by omega
    rcases Decidable.not_and_iff_or_not.mp e1 with h | h <;> rcases Decidable.not_and_iff_or_not.mp e2 with h3 | h3 <;> simp [h, h3]
  unfold cut
  rw [e', e s o h1 h2, e o s (fun h => h2 ⟨h.2, h.1⟩) (fun h => h1 ⟨h.2, h.1⟩)]
  simp
theorem q_keeps {ck ci co : Nat → Int32} {kd sa sb : Nat → Nat} {nr r a b : Nat} (hr : Rb kd sa sb nr) (h : r < nr) (hk : Ar ck kd nr) (hi : Ar ci (fun r => sa r % 5) nr) (ho : Ar co (fun r => sb r % 5) nr) (ha : a < 5) (hb : b < 5) :
    m_X10_keeps ck ci co (nI r) (nI a) (nI b) = some (bI (kp (kd r) (decide (a = sa r % 5)) (decide (b = sb r % 5)))) := by
  obtain ⟨h1, h2, h3, h4⟩ := hr.2 r h
  have hn := hr.1
  unfold m_X10_keeps
  rw [if_neg (nI_in2 (by omega) (by omega)), nI_cl (by omega), hk r h, hi r h, ho r h]
  have e1 : (nI a = nI (sa r % 5)) ↔ a = sa r % 5 := neq (by omega) (by omega)
  have e2 : (nI b = nI (sb r % 5)) ↔ b = sb r % 5 := neq (by omega) (by omega)
  have e3 := kn0 (n := kd r) (by omega)
  have e4 := kn1 (n := kd r) (by omega)
  simp only [e1, e2, e3, e4]
  unfold kp
  rcases (show kd r = 0 ∨ kd r = 1 ∨ kd r = 2 by omega) with h5 | h5 | h5 <;> rw [h5] <;> by_cases h6 : a = sa r % 5 <;> by_cases h7 : b = sb r % 5 <;> simp [h6, h7, bI]
section TG
variable {ck c1 ci c2 co : Nat → Int32} {kd sa sb : Nat → Nat} {nr : Nat}
/-- the reference's book of rules -/
def Mb (ck c1 ci c2 co : Nat → Int32) (kd sa sb : Nat → Nat) (nr : Nat) : Prop := Rb kd sa sb nr ∧ Ar ck kd nr ∧ Ar c1 (fun r => sa r / 5) nr ∧ Ar ci (fun r => sa r % 5) nr ∧ Ar c2 (fun r => sb r / 5) nr ∧ Ar co (fun r => sb r % 5) nr
theorem q_tog_L (fu : Nat) (hM : Mb ck c1 ci c2 co kd sa sb nr) (S : Int32) {f a g b : Nat} (hf : f < 6) (hg : g < 6) (ha : a < 5) (hb : b < 5) (hfg : ¬ f = g) : ∀ (m i n : Nat), i + m = nr → m < n →
    m_X10_together_L6 fu S (nI f) (nI a) (nI g) (nI b) (nI nr) ck c1 ci c2 co n (bI (!cuts kd sa sb S i (5 * f + a) (5 * g + b))) (nI i) = some (bI (!cuts kd sa sb S nr (5 * f + a) (5 * g + b))) := by
  obtain ⟨hR, hk, h1, hi, h2, ho⟩ := hM
  have hn20 := hR.1
  intro m
  induction m with
  | zero =>
    intro i n him hn
    obtain ⟨n, rfl⟩ : ∃ k, n = k + 1 := ⟨n - 1, by omega⟩
    show m_X10_together_L6_b fu S (nI f) (nI a) (nI g) (nI b) (nI nr) ck c1 ci c2 co (m_X10_together_L6 fu S (nI f) (nI a) (nI g) (nI b) (nI nr) ck c1 ci c2 co n) _ (nI i) = _
    unfold m_X10_together_L6_b
    rw [if_pos ((nle (by omega) (by omega)).mpr (by omega)), show nr = i by omega]
  | succ m ih =>
    intro i n him hn
    obtain ⟨n, rfl⟩ : ∃ k, n = k + 1 := ⟨n - 1, by omega⟩
    have hlt : i < nr := by omega
    obtain ⟨r1, r2, r3, r4⟩ := hR.2 i hlt
    have IH := ih (i + 1) n (by omega) (by omega)
    show m_X10_together_L6_b fu S (nI f) (nI a) (nI g) (nI b) (nI nr) ck c1 ci c2 co (m_X10_together_L6 fu S (nI f) (nI a) (nI g) (nI b) (nI nr) ck c1 ci c2 co n) _ (nI i) = _
    unfold m_X10_together_L6_b
    rw [if_neg (fun h => by have := (nle (by omega) (by omega)).mp h; omega)]
    cases hS : bt S i with
    | false =>
      rw [if_neg (fun h => by rw [(holdsO S (by omega)).mp h] at hS; cases hS), n1]
      rw [show cuts kd sa sb S (i + 1) (5 * f + a) (5 * g + b) = cuts kd sa sb S i (5 * f + a) (5 * g + b) by simp [cuts, hS]] at IH
      exact IH
    | true =>
      rw [if_pos ((holdsO S (by omega)).mpr hS)]
      have hc : cuts kd sa sb S (i + 1) (5 * f + a) (5 * g + b) = (cuts kd sa sb S i (5 * f + a) (5 * g + b) || cut (kd i) (sa i) (sb i) (5 * f + a) (5 * g + b)) := by simp [cuts, hS]
      rw [hc] at IH
      cases hcu : cuts kd sa sb S i (5 * f + a) (5 * g + b) with
      | true =>
        rw [hcu] at IH
        rw [if_pos (by rfl), n1]
        exact IH
      | false =>
        rw [hcu] at IH
        rw [if_neg (by decide), if_neg (nI_in2 (by omega) (by omega)), nI_cl (by omega), h1 i hlt, h2 i hlt, n1]
        have q1 : (nI (sa i / 5) = nI f) ↔ sa i / 5 = f := neq (by omega) (by omega)
        have q2 : (nI (sb i / 5) = nI g) ↔ sb i / 5 = g := neq (by omega) (by omega)
        have q3 : (nI (sa i / 5) = nI g) ↔ sa i / 5 = g := neq (by omega) (by omega)
        have q4 : (nI (sb i / 5) = nI f) ↔ sb i / 5 = f := neq (by omega) (by omega)
        simp only [q1, q2, q3, q4]
        simp only [Bool.false_or] at IH
        by_cases a1 : sa i / 5 = f
        · rw [if_pos a1]
          have a3 : ¬ sa i / 5 = g := fun h => hfg (a1.symm.trans h)
          simp only [if_neg a3]
          by_cases a2 : sb i / 5 = g
          · rw [if_pos a2, q_keeps hR hlt hk hi ho ha hb]
            simp only [Option.bind_some]
            rw [cut_fg r1 ha hb hfg a1 a2, Bool.not_not] at IH
            cases hkp : kp (kd i) (decide (a = sa i % 5)) (decide (b = sb i % 5)) with
            | false => rw [hkp] at IH; rw [if_pos (by rfl)]; exact IH
            | true => rw [hkp] at IH; rw [if_neg (by decide)]; exact IH
          · rw [if_neg a2]
            rw [cut_no ha hb (fun h => a2 h.2) (fun h => a3 h.1)] at IH
            exact IH
        · rw [if_neg a1]
          by_cases a3 : sa i / 5 = g
          · rw [if_pos a3]
            by_cases a4 : sb i / 5 = f
            · rw [if_pos a4, q_keeps hR hlt hk hi ho hb ha]
              simp only [Option.bind_some]
              rw [cut_sym, cut_fg r1 hb ha (fun h => hfg h.symm) a3 a4, Bool.not_not] at IH
              cases hkp : kp (kd i) (decide (b = sa i % 5)) (decide (a = sb i % 5)) with
              | false => rw [hkp] at IH; rw [if_pos (by rfl)]; exact IH
              | true => rw [hkp] at IH; rw [if_neg (by decide)]; exact IH
            · rw [if_neg a4]
              rw [cut_no ha hb (fun h => a1 h.1) (fun h => a4 h.2)] at IH
              exact IH
          · rw [if_neg a3]
            rw [cut_no ha hb (fun h => a1 h.1) (fun h => a3 h.1)] at IH
            exact IH
theorem q_tog {fu : Nat} (hfu : 40 ≤ fu) (hM : Mb ck c1 ci c2 co kd sa sb nr) (S : Int32) {f a g b : Nat} (hf : f < 6) (hg : g < 6) (ha : a < 5) (hb : b < 5) (hfg : ¬ f = g) :
    m_X10_together fu (nI nr) ck c1 ci c2 co S (nI f) (nI a) (nI g) (nI b) = some (bI (!cuts kd sa sb S nr (5 * f + a) (5 * g + b))) := by
  unfold m_X10_together
  have := q_tog_L fu hM S hf hg ha hb hfg nr 0 fu (by omega) (by have := hM.1.1; omega)
  rw [nI_0] at this
  exact this
/-- what is left of x when the features below k have what pre says -/
def xk (p : Nat → Int32) (x : Int32) (pre : Nat → Nat) : Nat → Int32
  | 0 => x
  | k + 1 => xk p x pre k &&& p (5 * k + pre k)
/-- the rows tell what goes together by the rules of the set S -/
def Pg (p : Nat → Int32) (kd sa sb : Nat → Nat) (nr : Nat) (S : Int32) : Prop := Pb p (cuts kd sa sb S nr)
theorem Pg.at {p : Nat → Int32} {S : Int32} (h : Pg p kd sa sb nr S) {f a g b : Nat} (hf : f < 6) (hg : g < 6) (ha : a < 5) (hb : b < 5) (hfg : ¬ f = g) : bt (p (5 * f + a)) (5 * g + b) = !cuts kd sa sb S nr (5 * f + a) (5 * g + b) := by
  rw [h _ _ (by omega) (by omega)]
  unfold bs
  rw [if_neg (by omega), decide_eq_true (by omega), Bool.true_and]
theorem q_fits_L (fu : Nat) (hfu : 40 ≤ fu) (hM : Mb ck c1 ci c2 co kd sa sb nr) {p : Nat → Int32} {S x : Int32} (hp : Pg p kd sa sb nr S) {al pk : Nat → Int32} {pre : Nat → Nat} {k v : Nat} (hk : k < 6) (hv : v < 5) (hpre : ∀ j, j < k → pre j < 5 ∧ pk j = nI (pre j)) (hpk : pk k = nI v) : ∀ (m i n : Nat), i + m = k → m < n →
    m_X10_fits_L28 fu S (nI k) (nI nr) ck c1 ci c2 co al pk n (bI (bt (xk p x pre i) (5 * k + v))) (nI i) = some (bI (bt (xk p x pre k) (5 * k + v))) := by
  intro m
  induction m with
  | zero =>
    intro i n him hn
    obtain ⟨n, rfl⟩ : ∃ k, n = k + 1 := ⟨n - 1, by omega⟩
    show m_X10_fits_L28_b fu S (nI k) (nI nr) ck c1 ci c2 co al pk (m_X10_fits_L28 fu S (nI k) (nI nr) ck c1 ci c2 co al pk n) _ (nI i) = _
    unfold m_X10_fits_L28_b
    rw [if_pos ((nle (by omega) (by omega)).mpr (by omega)), show k = i by omega]
  | succ m ih =>
    intro i n him hn
    obtain ⟨n, rfl⟩ : ∃ k, n = k + 1 := ⟨n - 1, by omega⟩
    have IH := ih (i + 1) n (by omega) (by omega)
    obtain ⟨hp5, hpi⟩ := hpre i (by omega)
    show m_X10_fits_L28_b fu S (nI k) (nI nr) ck c1 ci c2 co al pk (m_X10_fits_L28 fu S (nI k) (nI nr) ck c1 ci c2 co al pk n) _ (nI i) = _
    unfold m_X10_fits_L28_b
    rw [if_neg (fun h => by have := (nle (by omega) (by omega)).mp h; omega)]
    have hx : bt (xk p x pre (i + 1)) (5 * k + v) = (bt (xk p x pre i) (5 * k + v) && !cuts kd sa sb S nr (5 * i + pre i) (5 * k + v)) := by
      rw [xk, b_and, hp.at (by omega) hk hp5 hv (by omega)]
    cases hb : bt (xk p x pre i) (5 * k + v) with
    | false =>
      have : bt (xk p x pre k) (5 * k + v) = false := by
        have : ∀ d, bt (xk p x pre (i + d)) (5 * k + v) = false := by
          intro d
          induction d with
          | zero => exact hb
          | succ d ihd => rw [← Nat.add_assoc, xk, b_and, ihd, Bool.false_and]
        have := this (k - i)
        rwa [show i + (k - i) = k by omega] at this
      rw [if_pos (by rfl), this]
    | true =>
      rw [if_neg (by decide), if_neg (nI_in2 (by omega) (by omega)), if_neg (nI_in2 (by omega) (by omega)), nI_cl (by omega), nI_cl (by omega), hpi, hpk, q_tog hfu hM S (by omega) hk hp5 hv (by omega)]
      simp only [Option.bind_some]
      rw [hx, hb, Bool.true_and] at IH
      rw [n1]
      exact IH
theorem q_fits {fu : Nat} (hfu : 40 ≤ fu) (hM : Mb ck c1 ci c2 co kd sa sb nr) {p : Nat → Int32} {S x : Int32} (hp : Pg p kd sa sb nr S) {al pk : Nat → Int32} {pre : Nat → Nat} {k v : Nat} (hk : k < 6) (hv : v < 5) (hpre : ∀ j, j < k → pre j < 5 ∧ pk j = nI (pre j)) (hpk : pk k = nI v) (hx : bt x (5 * k + v) = bt (al k) v) :
    m_X10_fits fu (nI nr) ck c1 ci c2 co al pk S (nI k) = some (bI (bt (xk p x pre k) (5 * k + v))) := by
  have := q_fits_L fu hfu hM (x := x) hp (al := al) hk hv hpre hpk k 0 fu (by omega) (by omega)
  rw [nI_0, xk, hx] at this
  unfold m_X10_fits
  rw [if_neg (nI_in2 (by omega) (by omega)), nI_cl (by omega), hpk]
  cases hb : bt (al k) v with
  | true => rw [if_pos ((holdsO _ (by omega)).mpr hb)]; rw [hb] at this; exact this
  | false => rw [if_neg (fun h => by rw [(holdsO _ (by omega)).mp h] at hb; cases hb)]; rw [hb] at this; exact this
end TG
