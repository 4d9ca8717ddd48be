/-! choices, what they allow, what is offered -/
def Mx (os : List Nat) (ch : Nat → Nat) (sz ft : Int32) (ord opt : Nat → Int32) : Prop := sz = nI os.length ∧ (∀ k, k < os.length → ord k = nI (os.getD k 0)) ∧ (∀ i, i < 32 → bt ft i = decide (i ∈ os)) ∧ ∀ j, j ∈ os → opt j = nI (ch j)
def Mm (os : List Nat) (ch : Nat → Nat) (N : Nat) (sz : Int32) (ord cho : Nat → Int32) : Prop := sz = nI os.length ∧ (∀ k, k < os.length → ord k = nI (os.getD k 0)) ∧ ∀ j, j < N → cho j = if j ∈ os then nI (ch j) else (-1 : Int32)
def Mw (os : List Nat) (ch op : Nat → Nat) (N : Nat) : Prop := os.Nodup ∧ ∀ j, j ∈ os → j < N ∧ ch j < op j
/-- the features and their options -/
def Fo (N : Nat) (op : Nat → Nat) (oc : Nat → Int32) : Prop := N ≤ 6 ∧ ∀ j, j < N → 2 ≤ op j ∧ op j ≤ 5 ∧ oc j = nI (op j)
theorem nodup_len : ∀ {n : Nat} {l : List Nat}, l.Nodup → (∀ j, j ∈ l → j < n) → l.length ≤ n
  | 0, [], _, _ => Nat.le_refl 0
  | 0, a :: l, _, h => absurd (h a (List.mem_cons_self ..)) (Nat.not_lt_zero a)
  | n + 1, l, hd, h => by
    by_cases q : n ∈ l
    · have := nodup_len (n := n) (hd.erase n) (fun j hj => by
        have h1 := h j (List.mem_of_mem_erase hj)
        have h2 : j ≠ n := fun e => by subst e; exact hd.not_mem_erase hj
        omega)
      rw [List.length_erase_of_mem q] at this
      omega
    · have := nodup_len (n := n) hd (fun j hj => by
        have h1 := h j hj
        have h2 : j ≠ n := fun e => by subst e; exact q hj
        omega)
      omega
theorem Mw.len {os : List Nat} {ch op : Nat → Nat} {N : Nat} (h : Mw os ch op N) : os.length ≤ N := nodup_len h.1 (fun j hj => (h.2 j hj).1)
theorem getD_mem {os : List Nat} {k : Nat} (h : k < os.length) : os.getD k 0 ∈ os := by
  rw [List.getD_eq_getElem?_getD, List.getElem?_eq_getElem h]
  exact List.getElem_mem h
def nw (os : List Nat) (ch : Nat → Nat) (t : Nat → Bool) (x : Int32) (i : Nat) : Bool := if i / 5 ∈ os ∧ t (i / 5) = true then decide (i % 5 = ch (i / 5)) else bt x i
theorem q_narrow_L (fu : Nat) {os : List Nat} {ch : Nat → Nat} {sz ft : Int32} {ord opt : Nat → Int32} (hM : Mx os ch sz ft ord opt) (h6 : ∀ j, j ∈ os → j < 6 ∧ ch j < 5) (hl : os.length ≤ 6) (x th : Int32) : ∀ (m i n : Nat) (y : Int32), i + m = os.length → m < n → (∀ b, b < 32 → bt y b = nw (os.take i) ch (bt th) x b) →
    ∃ y', m_X0_narrow_L5 fu x th sz ord opt n y (nI i) = some y' ∧ ∀ b, b < 32 → bt y' b = nw os ch (bt th) x b := by
  obtain ⟨rfl, h1, h2, h3⟩ := hM
  intro m
  induction m with
  | zero =>
    intro i n y him hn hy
    obtain ⟨n, rfl⟩ : ∃ k, n = k + 1 := ⟨n - 1, by omega⟩
    refine ⟨y, ?_, fun b hb => by rw [hy b hb, List.take_of_length_le (by omega)]⟩
    show m_X0_narrow_L5_b fu x th (nI os.length) ord opt (m_X0_narrow_L5 fu x th (nI os.length) ord opt n) y (nI i) = _
    unfold m_X0_narrow_L5_b
    rw [if_pos ((nle (by omega) (by omega)).mpr (by omega))]
  | succ m ih =>
    intro i n y him hn hy
    obtain ⟨n, rfl⟩ : ∃ k, n = k + 1 := ⟨n - 1, by omega⟩
    have hi : i < os.length := by omega
    have hmem := getD_mem hi
    obtain ⟨g1, g2⟩ := h6 _ hmem
    have htk : os.take (i + 1) = os.take i ++ [os.getD i 0] := by
      rw [List.take_succ, List.getElem?_eq_getElem hi]
      rw [List.getD_eq_getElem?_getD, List.getElem?_eq_getElem hi]
      rfl
    show ∃ y', m_X0_narrow_L5_b fu x th (nI os.length) ord opt (m_X0_narrow_L5 fu x th (nI os.length) ord opt n) y (nI i) = _ ∧ _
    unfold m_X0_narrow_L5_b
    rw [if_neg (fun h => by have := (nle (by omega) (by omega)).mp h; omega), if_neg (nI_in2 (by omega) (by omega)), nI_cl (by omega), h1 i hi, q_holds th (by omega), n1]
    simp only [Option.bind_some]
    cases hb : bt th (os.getD i 0) with
    | false =>
      rw [if_pos bI_f]
      refine ih (i + 1) n y (by omega) (by omega) (fun b hb2 => ?_)
      rw [hy b hb2, htk]
      unfold nw
      by_cases q : b / 5 = os.getD i 0
      · rw [q, hb]; simp
      · have e : (b / 5 ∈ os.take i ++ [os.getD i 0]) ↔ b / 5 ∈ os.take i := by rw [List.mem_append, List.mem_singleton]; exact ⟨fun h => h.resolve_right q, Or.inl⟩
        simp only [e]
    | true =>
      rw [if_neg (by decide), if_neg (nI_in2 (by omega) (by omega)), nI_cl (by omega), h3 _ hmem, q_only]
      simp only [Option.bind_some]
      refine ih (i + 1) n _ (by omega) (by omega) (fun b hb2 => ?_)
      rw [b_on1 y g1 g2 hb2, htk]
      unfold nw
      by_cases q : b / 5 = os.getD i 0
      · rw [if_pos (by omega), if_pos ⟨by rw [q]; simp, by rw [q]; exact hb⟩, q]
        exact decide_eq_decide.mpr (by omega)
      · rw [if_neg (by omega), hy b hb2]
        unfold nw
        have e : (b / 5 ∈ os.take i ++ [os.getD i 0]) ↔ b / 5 ∈ os.take i := by rw [List.mem_append, List.mem_singleton]; exact ⟨fun h => h.resolve_right q, Or.inl⟩
        simp only [e]
theorem q_narrow {fu : Nat} (hfu : 40 ≤ fu) {os : List Nat} {ch : Nat → Nat} {sz ft : Int32} {ord opt : Nat → Int32} (hM : Mx os ch sz ft ord opt) (h6 : ∀ j, j ∈ os → j < 6 ∧ ch j < 5) (hl : os.length ≤ 6) (x th : Int32) :
    ∃ y, m_X0_narrow fu sz ord opt x th = some y ∧ ∀ b, b < 32 → bt y b = nw os ch (bt th) x b := by
  unfold m_X0_narrow
  have := q_narrow_L fu hM h6 hl x th os.length 0 fu x (by omega) (by omega) (fun b hb => by unfold nw; simp)
  rw [nI_0] at this
  exact this
/-- the mask of what P lets the features have -/
def Xm (x : Int32) (N : Nat) (op : Nat → Nat) (P : Nat → Nat → Bool) : Prop := ∀ i, i < 32 → bt x i = (decide (i < 5 * N) && (decide (i % 5 < op (i / 5)) && P (i / 5) (i % 5)))
theorem Xm.at {x : Int32} {N : Nat} {op : Nat → Nat} {P : Nat → Nat → Bool} (h : Xm x N op P) (hN : N ≤ 6) {j v : Nat} (hj : j < N) (hv : v < 5) : bt x (5 * j + v) = (decide (v < op j) && P j v) := by
  rw [h _ (by omega), decide_eq_true (by omega), show (5 * j + v) / 5 = j by omega, show (5 * j + v) % 5 = v by omega, Bool.true_and]
theorem Xm.eq {x y : Int32} {N : Nat} {op : Nat → Nat} {P Q : Nat → Nat → Bool} (h : Xm x N op P) (h' : Xm y N op Q) (e : ∀ j v, j < N → v < op j → P j v = Q j v) : x = y := b_ext (fun i hi => by
  rw [h i hi, h' i hi]
  by_cases q : i < 5 * N
  · by_cases q2 : i % 5 < op (i / 5)
    · rw [e _ _ (by omega) q2]
    · rw [decide_eq_false q2]; simp
  · rw [decide_eq_false q]; simp)
/-- what the choices allow, as far as t says that they count -/
def Pq (os : List Nat) (ch : Nat → Nat) (t : Nat → Bool) (j v : Nat) : Bool := if j ∈ os ∧ t j = true then decide (v = ch j) else true
theorem Xm_nw {x y : Int32} {N : Nat} {op ch : Nat → Nat} {os : List Nat} {t : Nat → Bool} {P : Nat → Nat → Bool} (hN : N ≤ 6) (h5 : ∀ j, j < N → op j ≤ 5) (hw : Mw os ch op N) (hx : Xm x N op P) (hP : ∀ j v, j ∈ os → t j = true → P j v = true) (hy : ∀ b, b < 32 → bt y b = nw os ch t x b) : Xm y N op (fun j v => P j v && Pq os ch t j v) := by
  intro i hi
  rw [hy i hi]
  unfold nw Pq
  show _ = (decide (i < 5 * N) && (decide (i % 5 < op (i / 5)) && (P (i / 5) (i % 5) && if i / 5 ∈ os ∧ t (i / 5) = true then decide (i % 5 = ch (i / 5)) else true)))
  by_cases q : i / 5 ∈ os ∧ t (i / 5) = true
  · obtain ⟨h1, h2⟩ := hw.2 _ q.1
    rw [if_pos q, if_pos q, decide_eq_true (show i < 5 * N by omega), hP _ _ q.1 q.2, Bool.true_and, Bool.true_and]
    by_cases q2 : i % 5 = ch (i / 5)
    · rw [decide_eq_true q2, q2, decide_eq_true h2]; rfl
    · rw [decide_eq_false q2]; simp
  · rw [if_neg q, if_neg q, hx i hi]; simp
theorem b_all : ∀ n, n ≤ 5 → ∀ i, i < 32 → bt (((1 : Int32) <<< (nI n &&& 31)) - (1 : Int32)) i = decide (i < n) := by decide +kernel
theorem q_allows_L (fu : Nat) {os : List Nat} {ch op : Nat → Nat} {N : Nat} {sz : Int32} {ord cho oc : Nat → Int32} (hM : Mm os ch N sz ord cho) (hw : Mw os ch op N) (hF : Fo N op oc) (S : Int32) : ∀ (m k n : Nat) (al : Nat → Int32), k + m = N → m < n → (∀ j, j < k → ∀ i, i < 32 → bt (al j) i = if j ∈ os ∧ bt S j = true then decide (i = ch j) else decide (i < op j)) →
    ∃ al', m_X10_allows_L2 fu S (nI N) oc cho n (nI k) al = some (0, al') ∧ ∀ j, j < N → ∀ i, i < 32 → bt (al' j) i = if j ∈ os ∧ bt S j = true then decide (i = ch j) else decide (i < op j) := by
  obtain ⟨hN, hop⟩ := hF
  obtain ⟨-, -, hc⟩ := hM
  intro m
  induction m with
  | zero =>
    intro k n al hk hn ha
    obtain ⟨n, rfl⟩ : ∃ k, n = k + 1 := ⟨n - 1, by omega⟩
    refine ⟨al, ?_, fun j hj => ha j (by omega)⟩
    show m_X10_allows_L2_b fu S (nI N) oc cho (m_X10_allows_L2 fu S (nI N) oc cho n) (nI k) al = _
    unfold m_X10_allows_L2_b
    rw [if_pos ((nle (by omega) (by omega)).mpr (by omega))]
  | succ m ih =>
    intro k n al hk hn ha
    obtain ⟨n, rfl⟩ : ∃ k, n = k + 1 := ⟨n - 1, by omega⟩
    obtain ⟨o2, o5, ho⟩ := hop k (by omega)
    have hall : m_X10_all oc (nI k) = some (((1 : Int32) <<< (nI (op k) &&& 31)) - (1 : Int32)) := by
      unfold m_X10_all
      rw [if_neg (nI_in2 (by omega) (by omega)), nI_cl (by omega), ho]
    have step : ∀ w : Int32, (∀ i, i < 32 → bt w i = if k ∈ os ∧ bt S k = true then decide (i = ch k) else decide (i < op k)) → ∃ al', m_X10_allows_L2 fu S (nI N) oc cho n (nI (k + 1)) (upd al k w) = some (0, al') ∧ ∀ j, j < N → ∀ i, i < 32 → bt (al' j) i = if j ∈ os ∧ bt S j = true then decide (i = ch j) else decide (i < op j) := by
      intro w hw2
      refine ih (k + 1) n _ (by omega) (by omega) (fun j hj => ?_)
      by_cases q : j = k
      · subst q; rw [upd_s]; exact hw2
      · rw [upd_n q]; exact ha j (by omega)
    show ∃ al', m_X10_allows_L2_b fu S (nI N) oc cho (m_X10_allows_L2 fu S (nI N) oc cho n) (nI k) al = _ ∧ _
    unfold m_X10_allows_L2_b
    rw [if_neg (fun h => by have := (nle (by omega) (by omega)).mp h; omega), if_neg (nI_in2 (by omega) (by omega)), nI_cl (by omega), hc k (by omega), n1, hall]
    simp only [Option.bind_some]
    by_cases q : k ∈ os
    · have hck := (hw.2 k q).2
      rw [if_pos q, if_neg (by intro h; have := nneg (a := ch k) (by omega); rw [h] at this; exact this (by decide))]
      cases hb : bt S k with
      | true =>
        rw [if_pos ((holdsO S (by omega)).mpr hb)]
        refine step _ (fun i hi => ?_)
        rw [if_pos ⟨q, hb⟩, b_p (by omega) hi]
      | false =>
        rw [if_neg (fun h => by rw [(holdsO S (by omega)).mp h] at hb; cases hb)]
        refine step _ (fun i hi => ?_)
        rw [if_neg (fun h => by rw [h.2] at hb; cases hb), b_all _ o5 i hi]
    · rw [if_neg q, if_pos rfl]
      refine step _ (fun i hi => ?_)
      rw [if_neg (fun h => q h.1), b_all _ o5 i hi]
theorem q_allows {fu : Nat} (hfu : 40 ≤ fu) {os : List Nat} {ch op : Nat → Nat} {N : Nat} {sz : Int32} {ord cho oc : Nat → Int32} (hM : Mm os ch N sz ord cho) (hw : Mw os ch op N) (hF : Fo N op oc) (S : Int32) (al : Nat → Int32) :
    ∃ al', m_X10_allows fu (nI N) oc cho al S = some (0, al') ∧ ∀ j, j < N → ∀ i, i < 32 → bt (al' j) i = if j ∈ os ∧ bt S j = true then decide (i = ch j) else decide (i < op j) := by
  unfold m_X10_allows
  have := q_allows_L fu hM hw hF S N 0 fu al (by omega) (by have := hF.1; omega) (fun j hj => absurd hj (Nat.not_lt_zero j))
  rw [nI_0] at this
  exact this
