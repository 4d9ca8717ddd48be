/-! choices are made, taken back: the two sides -/
def MM (os : List Nat) (ch op : Nat → Nat) (N : Nat) (sz ft : Int32) (ord opt : Nat → Int32) (sz' : Int32) (ord' cho : Nat → Int32) : Prop := Mx os ch sz ft ord opt ∧ Mm os ch N sz' ord' cho ∧ Mw os ch op N
def pt (ch : Nat → Nat) (f a : Nat) (j : Nat) : Nat := if j = f then a else ch j
theorem gA {l : List Nat} {d j : Nat} (h : j < l.length) : (l ++ [d]).getD j 0 = l.getD j 0 := by
  rw [List.getD_eq_getElem?_getD, List.getElem?_append_left h, ← List.getD_eq_getElem?_getD]
theorem gB {l : List Nat} {d : Nat} : (l ++ [d]).getD l.length 0 = d := by
  rw [List.getD_eq_getElem?_getD, List.getElem?_append_right (Nat.le_refl _)]
  simp
section AC
variable {os : List Nat} {ch op : Nat → Nat} {N : Nat} {sz ft sz' : Int32} {ord opt ord' cho oc : Nat → Int32}
theorem q_hasC (hX : Mx os ch sz ft ord opt) {f : Nat} (hf : f < 6) : m_X0_has ft (nI f) = some (bI (decide (f ∈ os))) := by
  unfold m_X0_has
  rw [if_neg (show ¬ nI f < (0 : Int32) from nneg (by omega)), if_neg (show ¬ (6 : Int32) ≤ nI f from fun h => by have := (nle (a := 6) (b := f) (by omega) (by omega)).mp h; omega), q_holds ft (by omega), Option.bind_some, hX.2.2.1 f (by omega)]
  cases decide (f ∈ os) with
  | false => rw [if_pos bI_f, bI_f]
  | true => rw [if_neg (show ¬ bI true = 0 by decide), bI_t]
theorem q_optOf (hX : Mx os ch sz ft ord opt) {f : Nat} (hf : f < 6) : m_X0_optionOf ft opt (nI f) = some (if f ∈ os then nI (ch f) else (-1 : Int32)) := by
  unfold m_X0_optionOf
  rw [q_hasC hX hf, Option.bind_some]
  by_cases q : f ∈ os
  · rw [decide_eq_true q, if_neg (show ¬ bI true = 0 by decide), if_neg (nI_in2 (by omega) (by omega)), nI_cl (by omega), hX.2.2.2 f q, if_pos q]
  · rw [decide_eq_false q, if_pos bI_f, if_neg q]
theorem MM.lt (hM : MM os ch op N sz ft ord opt sz' ord' cho) {f : Nat} (hf : f < N) (hn : ¬ f ∈ os) : os.length < N := by
  have := nodup_len (n := N) (l := os ++ [f]) (List.nodup_append.mpr ⟨hM.2.2.1, by simp, fun a ha b hb => by rw [List.mem_singleton.mp hb]; exact fun e => hn (e ▸ ha)⟩) (fun j hj => by
    rcases List.mem_append.mp hj with h | h
    · exact (hM.2.2.2 j h).1
    · rw [List.mem_singleton.mp h]; exact hf)
  rw [List.length_append, List.length_singleton] at this
  omega
theorem q_add (hF : Fo N op oc) (hM : MM os ch op N sz ft ord opt sz' ord' cho) {f a : Nat} (hf : f < N) (hn : ¬ f ∈ os) (ha : a < op f) :
    ∃ sz1 ft1 ord1 opt1 ord1' cho1, m_X0_add sz ft ord opt (nI f) (nI a) = some (0, sz1, ft1, ord1, opt1) ∧ m_X10_chooses sz' ord' cho (nI f) (nI a) = some (0, sz1, ord1', cho1) ∧ sz1 = nI (os.length + 1) ∧ MM (os ++ [f]) (pt ch f a) op N sz1 ft1 ord1 opt1 sz1 ord1' cho1 := by
  have hlt := hM.lt hf hn
  have hN := hF.1
  obtain ⟨hX, hm, hw⟩ := hM
  refine ⟨nI (os.length + 1), ft ||| ((1 : Int32) <<< (nI f &&& 31)), upd ord os.length (nI f), upd opt f (nI a), upd ord' os.length (nI f), upd cho f (nI a), ?_, ?_, rfl, ?_, ?_, ?_⟩
  · unfold m_X0_add
    rw [hX.1, if_neg (show ¬ (6 : Int32) ≤ nI os.length from fun h => by have := (nle (a := 6) (b := os.length) (by omega) (by omega)).mp h; omega), q_hasC hX (by omega), Option.bind_some, decide_eq_false hn, if_pos bI_f, if_neg (nI_in2 (by omega) (by omega)), if_neg (nI_in2 (by omega) (by omega)), nI_cl (by omega), nI_cl (by omega), n1]
  · unfold m_X10_chooses
    rw [hm.1, if_neg (nI_in2 (by omega) (by omega)), if_neg (nI_in2 (by omega) (by omega)), nI_cl (by omega), nI_cl (by omega), n1]
  · refine ⟨by rw [List.length_append, List.length_singleton], fun k hk => ?_, fun i hi => ?_, fun j hj => ?_⟩
    · rw [List.length_append, List.length_singleton] at hk
      by_cases q : k = os.length
      · rw [q, upd_s, gB]
      · rw [upd_n q, gA (by omega)]; exact hX.2.1 k (by omega)
    · rw [b_or, b_p (by omega) hi, hX.2.2.1 i hi]
      simp [List.mem_append]
    · unfold pt
      by_cases q : j = f
      · rw [q, upd_s, if_pos rfl]
      · rw [upd_n q, if_neg q]
        exact hX.2.2.2 j ((List.mem_append.mp hj).resolve_right (fun h => q (List.mem_singleton.mp h)))
  · refine ⟨by rw [List.length_append, List.length_singleton], fun k hk => ?_, fun j hj => ?_⟩
    · rw [List.length_append, List.length_singleton] at hk
      by_cases q : k = os.length
      · rw [q, upd_s, gB]
      · rw [upd_n q, gA (by omega)]; exact hm.2.1 k (by omega)
    · unfold pt
      by_cases q : j = f
      · rw [q, upd_s, if_pos rfl, if_pos (by simp)]
      · rw [upd_n q, if_neg q, hm.2.2 j hj]
        have e : (j ∈ os ++ [f]) ↔ j ∈ os := by rw [List.mem_append, List.mem_singleton]; exact ⟨fun h => h.resolve_right q, Or.inl⟩
        simp only [e]
  · refine ⟨List.nodup_append.mpr ⟨hw.1, by simp, fun a ha b hb => by rw [List.mem_singleton.mp hb]; exact fun e => hn (e ▸ ha)⟩, fun j hj => ?_⟩
    unfold pt
    by_cases q : j = f
    · rw [q, if_pos rfl]; exact ⟨hf, ha⟩
    · rw [if_neg q]
      exact hw.2 j ((List.mem_append.mp hj).resolve_right (fun h => q (List.mem_singleton.mp h)))
/-- the choices but that of f -/
def wo (f : Nat) (os : List Nat) : List Nat := os.filter (fun j => !decide (j = f))
theorem mem_wo {f j : Nat} {os : List Nat} : j ∈ wo f os ↔ j ∈ os ∧ ¬ j = f := by
  unfold wo
  rw [List.mem_filter]
  simp
theorem wo_take {f k : Nat} {os : List Nat} (h : k < os.length) : wo f (os.take (k + 1)) = wo f (os.take k) ++ (if os.getD k 0 = f then [] else [os.getD k 0]) := by
  rw [getD_take h]
  unfold wo
  rw [List.filter_append]
  by_cases q : os.getD k 0 = f
  · rw [if_pos q, q]; simp
  · rw [if_neg q]
    generalize os.getD k 0 = d at q
    simp [q]
theorem wo_len {f k : Nat} {os : List Nat} : (wo f (os.take k)).length ≤ k := by
  unfold wo
  have := List.length_filter_le (fun j => !decide (j = f)) (os.take k)
  have h2 : (os.take k).length ≤ k := by rw [List.length_take]; omega
  omega
theorem q_remX_L (fu : Nat) {f : Nat} (hf : f < 6) (hl : os.length ≤ 6) (h6 : ∀ j, j ∈ os → j < 6) : ∀ (m k n : Nat) (ord : Nat → Int32), k + m = os.length → m < n → (∀ j, j < (wo f (os.take k)).length → ord j = nI ((wo f (os.take k)).getD j 0)) → (∀ j, k ≤ j → j < os.length → ord j = nI (os.getD j 0)) →
    ∃ ord1, m_X0_remove_L13 fu (nI f) n (nI (wo f (os.take k)).length) (nI k) (nI os.length) ft ord = some (0, nI (wo f os).length, ft &&& (((1 : Int32) <<< (nI f &&& 31)) ^^^ (-1 : Int32)), ord1) ∧ ∀ j, j < (wo f os).length → ord1 j = nI ((wo f os).getD j 0) := by
  intro m
  induction m with
  | zero =>
    intro k n ord hk hn h1 h2
    obtain ⟨n, rfl⟩ : ∃ k, n = k + 1 := ⟨n - 1, by omega⟩
    rw [List.take_of_length_le (by omega)] at h1 ⊢
    refine ⟨ord, ?_, h1⟩
    show m_X0_remove_L13_b fu (nI f) (m_X0_remove_L13 fu (nI f) n) _ (nI k) (nI os.length) ft ord = _
    unfold m_X0_remove_L13_b
    rw [if_pos ((nle (by omega) (by omega)).mpr (by omega))]
  | succ m ih =>
    intro k n ord hk hn h1 h2
    obtain ⟨n, rfl⟩ : ∃ k, n = k + 1 := ⟨n - 1, by omega⟩
    have hk2 : k < os.length := by omega
    have hwl := wo_len (f := f) (k := k) (os := os)
    have hwt := wo_take (f := f) hk2
    have IH := ih (k + 1) n
    show ∃ ord1, m_X0_remove_L13_b fu (nI f) (m_X0_remove_L13 fu (nI f) n) (nI (wo f (os.take k)).length) (nI k) (nI os.length) ft ord = _ ∧ _
    unfold m_X0_remove_L13_b
    rw [if_neg (fun h => by have := (nle (by omega) (by omega)).mp h; omega), if_neg (nI_in2 (by omega) (by omega)), nI_cl (by omega), h2 k (Nat.le_refl k) hk2, n1, n1, if_neg (nI_in2 (by omega) (by omega)), nI_cl (by omega)]
    have hd := h6 _ (getD_mem hk2)
    by_cases q : os.getD k 0 = f
    · rw [if_pos (by rw [q])]
      rw [if_pos q, List.append_nil] at hwt
      rw [hwt] at IH
      exact IH ord (by omega) (by omega) h1 (fun j hj hj2 => h2 j (by omega) hj2)
    · rw [if_neg (fun h => q ((neq (by omega) (by omega)).mp h))]
      rw [if_neg q] at hwt
      rw [hwt, List.length_append, List.length_singleton] at IH
      refine IH _ (by omega) (by omega) (fun j hj => ?_) (fun j hj hj2 => ?_)
      · by_cases q2 : j = (wo f (os.take k)).length
        · rw [q2, upd_s, gB]
        · rw [upd_n q2, gA (by omega)]; exact h1 j (by omega)
      · rw [upd_n (by omega)]; exact h2 j (by omega) hj2
theorem q_remX {fu : Nat} (hfu : 40 ≤ fu) (hF : Fo N op oc) (hX : Mx os ch sz ft ord opt) (hw : Mw os ch op N) {f : Nat} (hf : f < 6) (hin : f ∈ os) :
    ∃ sz1 ft1 ord1, m_X0_remove fu sz ft ord (nI f) = some (0, sz1, ft1, ord1) ∧ Mx (wo f os) ch sz1 ft1 ord1 opt := by
  have hl := hw.len
  have hN := hF.1
  obtain ⟨ord1, h1, h2⟩ := q_remX_L (os := os) (ft := ft) fu hf (by omega) (fun j hj => by have := (hw.2 j hj).1; omega) os.length 0 fu ord (by omega) (by omega) (fun j hj => by simp [wo] at hj) (fun j _ hj => hX.2.1 j hj)
  refine ⟨nI (wo f os).length, ft &&& (((1 : Int32) <<< (nI f &&& 31)) ^^^ (-1 : Int32)), ord1, ?_, rfl, h2, fun i hi => ?_, fun j hj => hX.2.2.2 j (mem_wo.mp hj).1⟩
  · unfold m_X0_remove
    rw [q_hasC hX hf, Option.bind_some, decide_eq_true hin, if_neg (show ¬ bI true = 0 by decide), hX.1]
    have e : nI (wo f (os.take 0)).length = (0 : Int32) := by simp [wo]; exact nI_0
    rw [e, nI_0] at h1
    exact h1
  · rw [b_drop (by omega) hi, hX.2.2.1 i hi, ← decide_not, ← Bool.decide_and]
    exact decide_eq_decide.mpr mem_wo.symm
theorem q_remM_L (fu : Nat) {f : Nat} (hf : f < 6) (hl : os.length ≤ 6) (h6 : ∀ j, j ∈ os → j < 6) : ∀ (m k n : Nat) (ord : Nat → Int32), k + m = os.length → m < n → (∀ j, j < (wo f (os.take k)).length → ord j = nI ((wo f (os.take k)).getD j 0)) → (∀ j, k ≤ j → j < os.length → ord j = nI (os.getD j 0)) →
    ∃ ord1, m_X10_takesBack_L4 fu (nI f) n (nI (wo f (os.take k)).length) (nI k) (nI os.length) ord cho = some (0, nI (wo f os).length, ord1, upd cho f (-1)) ∧ ∀ j, j < (wo f os).length → ord1 j = nI ((wo f os).getD j 0) := by
  intro m
  induction m with
  | zero =>
    intro k n ord hk hn h1 h2
    obtain ⟨n, rfl⟩ : ∃ k, n = k + 1 := ⟨n - 1, by omega⟩
    rw [List.take_of_length_le (by omega)] at h1 ⊢
    refine ⟨ord, ?_, h1⟩
    show m_X10_takesBack_L4_b fu (nI f) (m_X10_takesBack_L4 fu (nI f) n) _ (nI k) (nI os.length) ord cho = _
    unfold m_X10_takesBack_L4_b
    rw [if_pos ((nle (by omega) (by omega)).mpr (by omega)), if_neg (nI_in2 (by omega) (by omega)), nI_cl (by omega)]
  | succ m ih =>
    intro k n ord hk hn h1 h2
    obtain ⟨n, rfl⟩ : ∃ k, n = k + 1 := ⟨n - 1, by omega⟩
    have hk2 : k < os.length := by omega
    have hwl := wo_len (f := f) (k := k) (os := os)
    have hwt := wo_take (f := f) hk2
    have IH := ih (k + 1) n
    show ∃ ord1, m_X10_takesBack_L4_b fu (nI f) (m_X10_takesBack_L4 fu (nI f) n) (nI (wo f (os.take k)).length) (nI k) (nI os.length) ord cho = _ ∧ _
    unfold m_X10_takesBack_L4_b
    rw [if_neg (fun h => by have := (nle (by omega) (by omega)).mp h; omega), if_neg (nI_in2 (by omega) (by omega)), if_neg (nI_in2 (by omega) (by omega)), nI_cl (n := k) (by omega), h2 k (Nat.le_refl k) hk2, n1, n1, nI_cl (by omega)]
    have hd := h6 _ (getD_mem hk2)
    by_cases q : os.getD k 0 = f
    · rw [if_pos (by rw [q]), Int32.add_zero]
      rw [if_pos q, List.append_nil] at hwt
      rw [hwt] at IH
      refine IH _ (by omega) (by omega) (fun j hj => ?_) (fun j hj hj2 => ?_)
      · rw [upd_n (by omega)]; exact h1 j hj
      · rw [upd_n (by omega)]; exact h2 j (by omega) hj2
    · rw [if_neg (fun h => q ((neq (by omega) (by omega)).mp h))]
      rw [if_neg q] at hwt
      rw [hwt, List.length_append, List.length_singleton] at IH
      refine IH _ (by omega) (by omega) (fun j hj => ?_) (fun j hj hj2 => ?_)
      · by_cases q2 : j = (wo f (os.take k)).length
        · rw [q2, upd_s, gB]
        · rw [upd_n q2, gA (by omega)]; exact h1 j (by omega)
      · rw [upd_n (by omega)]; exact h2 j (by omega) hj2
theorem q_remM {fu : Nat} (hfu : 40 ≤ fu) (hF : Fo N op oc) (hm : Mm os ch N sz' ord' cho) (hw : Mw os ch op N) {f : Nat} (hf : f < 6) :
    ∃ sz1 ord1 cho1, m_X10_takesBack fu sz' ord' cho (nI f) = some (0, sz1, ord1, cho1) ∧ Mm (wo f os) ch N sz1 ord1 cho1 ∧ Mw (wo f os) ch op N := by
  have hl := hw.len
  have hN := hF.1
  obtain ⟨ord1, h1, h2⟩ := q_remM_L (os := os) (cho := cho) fu hf (by omega) (fun j hj => by have := (hw.2 j hj).1; omega) os.length 0 fu ord' (by omega) (by omega) (fun j hj => by simp [wo] at hj) (fun j _ hj => hm.2.1 j hj)
  refine ⟨nI (wo f os).length, ord1, upd cho f (-1), ?_, ⟨rfl, h2, fun j hj => ?_⟩, hw.1.filter _, fun j hj => hw.2 j (mem_wo.mp hj).1⟩
  · unfold m_X10_takesBack
    rw [hm.1]
    have e : nI (wo f (os.take 0)).length = (0 : Int32) := by simp [wo]; exact nI_0
    rw [e, nI_0] at h1
    exact h1
  · by_cases q : j = f
    · rw [q, upd_s, if_neg (fun h => (mem_wo.mp h).2 rfl)]
    · rw [upd_n q, hm.2.2 j hj]
      have e : (j ∈ wo f os) ↔ j ∈ os := by rw [mem_wo]; exact ⟨fun h => h.1, fun h => ⟨h, q⟩⟩
      simp only [e]
theorem q_rem {fu : Nat} (hfu : 40 ≤ fu) (hF : Fo N op oc) (hM : MM os ch op N sz ft ord opt sz' ord' cho) {f : Nat} (hf : f < 6) (hin : f ∈ os) :
    ∃ sz1 ft1 ord1 ord1' cho1, m_X0_remove fu sz ft ord (nI f) = some (0, sz1, ft1, ord1) ∧ m_X10_takesBack fu sz' ord' cho (nI f) = some (0, sz1, ord1', cho1) ∧ MM (wo f os) ch op N sz1 ft1 ord1 opt sz1 ord1' cho1 := by
  obtain ⟨sz1, ft1, ord1, h1, h2⟩ := q_remX hfu hF hM.1 hM.2.2 hf hin
  obtain ⟨sz2, ord2, cho2, h3, h4, h5⟩ := q_remM hfu hF hM.2.1 hM.2.2 hf
  have e : sz1 = sz2 := h2.1.trans h4.1.symm
  subst e
  exact ⟨sz1, ft1, ord1, ord2, cho2, h1, h3, h2, h4, h5⟩
theorem wo_len1 {f : Nat} {os : List Nat} (hd : os.Nodup) (hin : f ∈ os) : (wo f os).length + 1 = os.length := by
  have e : wo f os = os.erase f := by
    rw [List.Nodup.erase_eq_filter hd]
    unfold wo
    congr 1
  rw [e, List.length_erase_of_mem hin]
  have : 0 < os.length := List.length_pos_of_mem hin
  omega
/-- the last of the choices in a set -/
def laN (os : List Nat) (C : Int32) : Nat → Int32
  | 0 => -1
  | k + 1 => if bt C (os.getD k 0) = true then nI (os.getD k 0) else laN os C k
theorem laN_in {C : Int32} : ∀ {k : Nat}, k ≤ os.length → (∃ j, j < k ∧ bt C (os.getD j 0) = true) → ∃ d, d ∈ os ∧ bt C d = true ∧ laN os C k = nI d
  | 0, _, h => by obtain ⟨j, hj, -⟩ := h; omega
  | k + 1, hk, h => by
    by_cases q : bt C (os.getD k 0) = true
    · exact ⟨_, getD_mem (by omega), q, by rw [laN, if_pos q]⟩
    · rw [laN, if_neg q]
      obtain ⟨j, hj, hb⟩ := h
      refine laN_in (by omega) ⟨j, ?_, hb⟩
      rcases Nat.lt_or_eq_of_le (Nat.le_of_lt_succ hj) with h1 | h1
      · exact h1
      · rw [h1] at hb; exact absurd hb q
theorem q_latX_L (fu : Nat) (hX : Mx os ch sz ft ord opt) (h6 : ∀ j, j ∈ os → j < 6) (hl : os.length ≤ 6) (C : Int32) : ∀ (k n : Nat), k ≤ os.length → k < n → m_X0_latestOf_L7 fu C sz ord n (nI k + (-1)) = some (laN os C k) := by
  intro k
  induction k with
  | zero =>
    intro n _ hn
    obtain ⟨n, rfl⟩ : ∃ k, n = k + 1 := ⟨n - 1, by omega⟩
    show m_X0_latestOf_L7_b fu C sz ord (m_X0_latestOf_L7 fu C sz ord n) _ = _
    unfold m_X0_latestOf_L7_b
    rw [m1_0, if_pos (by decide)]
    rfl
  | succ k ih =>
    intro n hk hn
    obtain ⟨n, rfl⟩ : ∃ k, n = k + 1 := ⟨n - 1, by omega⟩
    have hd := h6 _ (getD_mem (os := os) (k := k) (by omega))
    rw [show nI (k + 1) + (-1 : Int32) = nI k from pk_m1 k]
    show m_X0_latestOf_L7_b fu C sz ord (m_X0_latestOf_L7 fu C sz ord n) _ = _
    unfold m_X0_latestOf_L7_b
    rw [if_neg (show ¬ nI k < (0 : Int32) from nneg (by omega)), if_neg (nI_in2 (by omega) (by omega)), nI_cl (by omega), hX.2.1 k (by omega), q_holds C (by omega), Option.bind_some, laN]
    cases hb : bt C (os.getD k 0) with
    | false => rw [if_pos bI_f, if_neg (by decide)]; exact ih n (by omega) (by omega)
    | true => rw [if_neg (show ¬ bI true = 0 by decide), if_pos rfl]
theorem q_latX {fu : Nat} (hfu : 40 ≤ fu) (hX : Mx os ch sz ft ord opt) (h6 : ∀ j, j ∈ os → j < 6) (hl : os.length ≤ 6) (C : Int32) : m_X0_latestOf fu sz ord C = some (laN os C os.length) := by
  unfold m_X0_latestOf
  rw [show sz - (1 : Int32) = nI os.length + (-1) by rw [hX.1, Int32.sub_eq_add_neg]]
  exact q_latX_L fu hX h6 hl C os.length fu (Nat.le_refl _) (by omega)
theorem q_latM_L (fu : Nat) (hm : Mm os ch N sz' ord' cho) (h6 : ∀ j, j ∈ os → j < 6) (hl : os.length ≤ 6) (C : Int32) : ∀ (m k n : Nat), k + m = os.length → m < n → m_X10_latest_L4 fu C sz' ord' n (laN os C k) (nI k) = some (laN os C os.length) := by
  obtain ⟨rfl, ho, -⟩ := hm
  intro m
  induction m with
  | zero =>
    intro k n hk hn
    obtain ⟨n, rfl⟩ : ∃ k, n = k + 1 := ⟨n - 1, by omega⟩
    show m_X10_latest_L4_b fu C (nI os.length) ord' (m_X10_latest_L4 fu C (nI os.length) ord' n) _ (nI k) = _
    unfold m_X10_latest_L4_b
    rw [if_pos ((nle (by omega) (by omega)).mpr (by omega)), show k = os.length by omega]
  | succ m ih =>
    intro k n hk hn
    obtain ⟨n, rfl⟩ : ∃ k, n = k + 1 := ⟨n - 1, by omega⟩
    have hd := h6 _ (getD_mem (os := os) (k := k) (by omega))
    have IH := ih (k + 1) n (by omega) (by omega)
    rw [laN] at IH
    show m_X10_latest_L4_b fu C (nI os.length) ord' (m_X10_latest_L4 fu C (nI os.length) ord' n) _ (nI k) = _
    unfold m_X10_latest_L4_b
    rw [if_neg (fun h => by have := (nle (by omega) (by omega)).mp h; omega), if_neg (nI_in2 (by omega) (by omega)), nI_cl (by omega), ho k (by omega), n1]
    by_cases q : bt C (os.getD k 0) = true
    · rw [if_pos q] at IH
      rw [if_pos ((holdsO C (by omega)).mpr q)]; exact IH
    · rw [if_neg q] at IH
      rw [if_neg (fun h => q ((holdsO C (by omega)).mp h))]; exact IH
theorem q_latM {fu : Nat} (hfu : 40 ≤ fu) (hm : Mm os ch N sz' ord' cho) (h6 : ∀ j, j ∈ os → j < 6) (hl : os.length ≤ 6) (C : Int32) : m_X10_latest fu sz' ord' C = some (laN os C os.length) := by
  unfold m_X10_latest
  have := q_latM_L fu hm h6 hl C os.length 0 fu (by omega) (by omega)
  rw [nI_0, laN] at this
  exact this
end AC
