/-! what is offered of a feature; finishing; starting again -/
section FI
variable {os : List Nat} {ch op : Nat → Nat} {N : Nat} {sz ft sz' all : Int32} {ord opt ord' cho oc cx : Nat → Int32} {ck c1 ci c2 co : Nat → Int32} {kd sa sb : Nat → Nat} {nr : Nat} {xk xs xo : Nat → Int32} {pp : Nat → Int32} {on : Int32}
theorem q_offOf_L {fu : Nat} (hfu : 200000 ≤ fu) (hX : Mx os ch sz ft ord opt) (hw : Mw os ch op N) (hF : Fo N op oc) (ha : Xm all N op (fun _ _ => true)) {y : Int32} (hy : Xm y N op (Pq os ch (fun _ => true))) {f : Nat} (hf : f < N) : ∀ (m i n : Nat) (s : Int32), i + m = 5 → m < n → (∀ b, b < 32 → bt s b = (decide (b < i) && ex pp N 0 (y &&& on1 y f b))) →
    ∃ s', m_X9_offeredOf_L4 fu (nI f) (nI N) all sz ft ord opt pp n s (nI i) = some s' ∧ ∀ b, b < 32 → bt s' b = (decide (b < 5) && ex pp N 0 (y &&& on1 y f b)) := by
  intro m
  induction m with
  | zero =>
    intro i n s him hn hs
    obtain ⟨n, rfl⟩ : ∃ k, n = k + 1 := ⟨n - 1, by omega⟩
    refine ⟨s, ?_, fun b hb => by rw [hs b hb, show i = 5 by omega]⟩
    show m_X9_offeredOf_L4_b fu (nI f) (nI N) all sz ft ord opt pp (m_X9_offeredOf_L4 fu (nI f) (nI N) all sz ft ord opt pp n) s (nI i) = _
    unfold m_X9_offeredOf_L4_b
    rw [if_pos (show (5 : Int32) ≤ nI i from (nle (a := 5) (b := i) (by omega) (by omega)).mpr (by omega))]
  | succ m ih =>
    intro i n s him hn hs
    obtain ⟨n, rfl⟩ : ∃ k, n = k + 1 := ⟨n - 1, by omega⟩
    obtain ⟨y', y1, y2, y3⟩ := q_isOffX (p := pp) hfu hX hw hF ha hf (show i < 5 by omega)
    have e : y' = y := y2.eq hy (fun _ _ _ _ => rfl)
    rw [e] at y3
    show ∃ s', m_X9_offeredOf_L4_b fu (nI f) (nI N) all sz ft ord opt pp (m_X9_offeredOf_L4 fu (nI f) (nI N) all sz ft ord opt pp n) s (nI i) = _ ∧ _
    unfold m_X9_offeredOf_L4_b
    rw [if_neg (show ¬ (5 : Int32) ≤ nI i from fun h => by have := (nle (a := 5) (b := i) (by omega) (by omega)).mp h; omega), y3, Option.bind_some, n1]
    cases he : ex pp N 0 (y &&& on1 y f i) with
    | false =>
      rw [if_pos bI_f]
      refine ih (i + 1) n s (by omega) (by omega) (fun b hb => ?_)
      rw [hs b hb]
      by_cases q : b = i
      · rw [q, he, Bool.and_false, Bool.and_false]
      · congr 1; exact decide_eq_decide.mpr (by omega)
    | true =>
      rw [if_neg (show ¬ bI true = 0 by decide)]
      refine ih (i + 1) n _ (by omega) (by omega) (fun b hb => ?_)
      rw [b_or, b_p (by omega) hb, hs b hb]
      by_cases q : b = i
      · rw [q, he, decide_eq_true rfl, decide_eq_true (show i < i + 1 by omega), Bool.or_true]; rfl
      · rw [decide_eq_false q, Bool.or_false]; congr 1; exact decide_eq_decide.mpr (by omega)
theorem q_offOf {fu : Nat} (hfu : 200000 ≤ fu) (hX : Mx os ch sz ft ord opt) (hw : Mw os ch op N) (hF : Fo N op oc) (ha : Xm all N op (fun _ _ => true)) {y : Int32} (hy : Xm y N op (Pq os ch (fun _ => true))) {f : Nat} (hf : f < N) :
    ∃ s', m_X9_offeredOf fu (nI N) all sz ft ord opt pp (nI f) = some s' ∧ ∀ b, b < 32 → bt s' b = (decide (b < 5) && ex pp N 0 (y &&& on1 y f b)) := by
  unfold m_X9_offeredOf
  have := q_offOf_L (pp := pp) hfu hX hw hF ha hy hf 5 0 fu 0 (by omega) (by omega) (fun b _ => by rw [b_0]; simp)
  rw [nI_0] at this
  exact this
theorem q_offM_L {fu : Nat} (hfu : 200000 ≤ fu) (hR : Mb ck c1 ci c2 co kd sa sb nr) (hpp : Pg pp kd sa sb nr on) (hm : Mm os ch N sz' ord' cho) (hw : Mw os ch op N) (hF : Fo N op oc) {y : Int32} (hy : Xm y N op (Pq os ch (fun _ => true))) {f : Nat} (hf : f < N) : ∀ (m i n : Nat) (s : Int32) (al c : Nat → Int32), i + m = op f → m < n → (∀ b, b < 32 → bt s b = (decide (b < i) && ex pp N 0 (y &&& on1 y f b))) →
    ∃ s' al' c', m_X10_offered_L21 fu (nI f) (nI N) (nI nr) on oc ck c1 ci c2 co cho n s (nI i) 0 al c = some (s', 0, al', c') ∧ ∀ b, b < 32 → bt s' b = (decide (b < op f) && ex pp N 0 (y &&& on1 y f b)) := by
  have hN := hF.1
  have h5 := hF.le5 f hf
  intro m
  induction m with
  | zero =>
    intro i n s al c him hn hs
    obtain ⟨n, rfl⟩ : ∃ k, n = k + 1 := ⟨n - 1, by omega⟩
    refine ⟨s, al, c, ?_, fun b hb => by rw [hs b hb, show i = op f by omega]⟩
    show m_X10_offered_L21_b fu (nI f) (nI N) (nI nr) on oc ck c1 ci c2 co cho (m_X10_offered_L21 fu (nI f) (nI N) (nI nr) on oc ck c1 ci c2 co cho n) s (nI i) 0 al c = _
    unfold m_X10_offered_L21_b
    rw [if_pos rfl, if_neg (nI_in2 (by omega) (by omega)), nI_cl (by omega), (hF.2 f hf).2.2, if_pos ((nle (by omega) (by omega)).mpr (by omega))]
  | succ m ih =>
    intro i n s al c him hn hs
    obtain ⟨n, rfl⟩ : ∃ k, n = k + 1 := ⟨n - 1, by omega⟩
    obtain ⟨al1, d1, z1, -⟩ := q_isOffR hfu hR hpp hm hw hF hy hf (show i < 5 by omega) al c
    show ∃ s' al' c', m_X10_offered_L21_b fu (nI f) (nI N) (nI nr) on oc ck c1 ci c2 co cho (m_X10_offered_L21 fu (nI f) (nI N) (nI nr) on oc ck c1 ci c2 co cho n) s (nI i) 0 al c = _ ∧ _
    unfold m_X10_offered_L21_b
    rw [if_pos rfl, if_neg (nI_in2 (by omega) (by omega)), nI_cl (by omega), (hF.2 f hf).2.2, if_neg (fun h => by have := (nle (by omega) (by omega)).mp h; omega), z1, Option.bind_some, n1]
    cases he : ex pp N 0 (y &&& on1 y f i) with
    | false =>
      rw [if_pos bI_f]
      refine ih (i + 1) n _ al1 d1 (by omega) (by omega) (fun b hb => ?_)
      rw [b_or, b_0, Bool.or_false, hs b hb]
      by_cases q : b = i
      · rw [q, he, Bool.and_false, Bool.and_false]
      · congr 1; exact decide_eq_decide.mpr (by omega)
    | true =>
      rw [if_neg (show ¬ bI true = 0 by decide)]
      refine ih (i + 1) n _ al1 d1 (by omega) (by omega) (fun b hb => ?_)
      rw [b_or, b_p (by omega) hb, hs b hb]
      by_cases q : b = i
      · rw [q, he, decide_eq_true rfl, decide_eq_true (show i < i + 1 by omega), Bool.or_true]; rfl
      · rw [decide_eq_false q, Bool.or_false]; congr 1; exact decide_eq_decide.mpr (by omega)
theorem q_offered {fu : Nat} (hfu : 200000 ≤ fu) (hR : Mb ck c1 ci c2 co kd sa sb nr) (hpp : Pg pp kd sa sb nr on) (hM : MM os ch op N sz ft ord opt sz' ord' cho) (hF : Fo N op oc) (ha : Xm all N op (fun _ _ => true)) {f : Nat} (hf : f < N) (al c : Nat → Int32) :
    ∃ s al' c', m_X9_offeredOf fu (nI N) all sz ft ord opt pp (nI f) = some s ∧ m_X10_offered_L21 fu (nI f) (nI N) (nI nr) on oc ck c1 ci c2 co cho fu 0 0 0 al c = some (s, 0, al', c') := by
  have hN := hF.1
  have h5 := hF.le5 f hf
  obtain ⟨y, -, hy⟩ := q_allowed (by omega : 40 ≤ fu) hM.1 hM.2.2 hF ha
  obtain ⟨s, s1, s2⟩ := q_offOf (pp := pp) hfu hM.1 hM.2.2 hF ha hy hf
  obtain ⟨s', al', c', t1, t2⟩ := q_offM_L (pp := pp) hfu hR hpp hM.2.1 hM.2.2 hF hy hf (op f) 0 fu 0 al c (by omega) (by omega) (fun b _ => by rw [b_0]; simp)
  rw [nI_0] at t1
  have e : s = s' := b_ext (fun b hb => by
    rw [s2 b hb, t2 b hb]
    by_cases q : b < 5
    · rw [decide_eq_true q, Bool.true_and]
      by_cases q2 : b < op f
      · rw [decide_eq_true q2, Bool.true_and]
      · rw [decide_eq_false q2, Bool.false_and, ex_cut hf hN q, hy.at hN hf q, decide_eq_false q2]; simp
    · rw [decide_eq_false q, decide_eq_false (by omega)])
  rw [← e] at t1
  exact ⟨s, al', c', s1, t1⟩
theorem off_some (hF : Fo N op oc) {y : Int32} (hy : Xm y N op (Pq os ch (fun _ => true))) {f : Nat} (hf : f < N) (h : ex pp N 0 y = true) : ∃ a, a < op f ∧ ex pp N 0 (y &&& on1 y f a) = true := by
  have hN := hF.1
  have h5 := hF.le5 f hf
  obtain ⟨c, hc⟩ := ex_iff.mp h
  obtain ⟨h1, h2, h3⟩ := mem_cf.mp hc
  have hb := h2 f hf
  rw [Nat.zero_add, hy.at hN hf hb.1, Bool.and_eq_true, decide_eq_true_iff] at hb
  refine ⟨c.getD f 0, hb.2.1, ex_iff.mpr ⟨c, mem_cf.mpr ⟨h1, fun j hj => ⟨(h2 j hj).1, ?_⟩, h3⟩⟩⟩
  have hj5 := (h2 j hj).1
  rw [b_cut (by omega) hb.1 (by omega), (h2 j hj).2]
  by_cases q : j = f
  · have hf5 := (h2 f hf).1
    rw [if_pos (by omega), q, Bool.true_and, decide_eq_true_iff]
    omega
  · rw [if_neg (by omega)]
theorem q_finM_L {fu : Nat} (hfu : 200000 ≤ fu) (hR : Mb ck c1 ci c2 co kd sa sb nr) (hpp : Pg pp kd sa sb nr on) (hm : Mm os ch N sz' ord' cho) (hw : Mw os ch op N) (hF : Fo N op oc) {y : Int32} (hy : Xm y N op (Pq os ch (fun _ => true))) {f v : Nat} (hf : f < N) (hv : v < op f) (he : ex pp N 0 (y &&& on1 y f v) = true) (hno : ∀ w, w < v → ex pp N 0 (y &&& on1 y f w) = false) (k9 : Int32 → Int32 → Int32 → Int32 → (Nat → Int32) → (Nat → Int32) → (Nat → Int32) → (Nat → Int32) → Option (Int32 × Int32 × Int32 × (Nat → Int32) × (Nat → Int32) × (Nat → Int32) × (Nat → Int32))) (cnt th : Int32) : ∀ (m i n : Nat) (al c : Nat → Int32), i + m = v → m < n →
    ∃ al' c', m_X10_finish_L29 fu (nI N) (nI nr) on oc ck c1 ci c2 co k9 n cnt (nI f) (nI i) th sz' ord' cho al c = (m_X10_chooses sz' ord' cho (nI f) (nI v)).bind fun u_6 => k9 (cnt + 1) (nI (f + 1)) th u_6.2.1 u_6.2.2.1 u_6.2.2.2 al' c' := by
  have hN := hF.1
  have h5 := hF.le5 f hf
  intro m
  induction m with
  | zero =>
    intro i n al c him hn
    obtain ⟨n, rfl⟩ : ∃ k, n = k + 1 := ⟨n - 1, by omega⟩
    obtain ⟨al1, d1, z1, -⟩ := q_isOffR hfu hR hpp hm hw hF hy hf (show i < 5 by omega) al c
    refine ⟨al1, d1, ?_⟩
    show m_X10_finish_L29_b fu (nI N) (nI nr) on oc ck c1 ci c2 co k9 (m_X10_finish_L29 fu (nI N) (nI nr) on oc ck c1 ci c2 co k9 n) cnt (nI f) (nI i) th sz' ord' cho al c = _
    unfold m_X10_finish_L29_b
    rw [z1, Option.bind_some, show i = v by omega, he, if_neg (show ¬ bI true = 0 by decide), n1]
  | succ m ih =>
    intro i n al c him hn
    obtain ⟨n, rfl⟩ : ∃ k, n = k + 1 := ⟨n - 1, by omega⟩
    obtain ⟨al1, d1, z1, -⟩ := q_isOffR hfu hR hpp hm hw hF hy hf (show i < 5 by omega) al c
    show ∃ al' c', m_X10_finish_L29_b fu (nI N) (nI nr) on oc ck c1 ci c2 co k9 (m_X10_finish_L29 fu (nI N) (nI nr) on oc ck c1 ci c2 co k9 n) cnt (nI f) (nI i) th sz' ord' cho al c = _
    unfold m_X10_finish_L29_b
    rw [z1, Option.bind_some, hno i (by omega), if_pos bI_f, n1 i]
    exact ih (i + 1) n al1 d1 (by omega) (by omega)
theorem q_fin_L {fu : Nat} (hfu : 200000 ≤ fu) (hR : Mb ck c1 ci c2 co kd sa sb nr) (hF : Fo N op oc) (ha : Xm all N op (fun _ _ => true)) (hpp : Pg pp kd sa sb nr on) (th : Int32) (b0 : Nat) : ∀ (m f n n' cnt : Nat) (os : List Nat) (ch : Nat → Nat) (sz ft : Int32) (ord opt : Nat → Int32) (sz' : Int32) (ord' cho al c : Nat → Int32), f + m = N → m < n → m < n' → os.length = b0 + cnt → MM os ch op N sz ft ord opt sz' ord' cho → Ps N op os ch kd sa sb nr on →
    ∃ (os1 : List Nat) (ch1 : Nat → Nat) (cnt1 sz1 ft1 : Int32) (ord1 opt1 ord1' cho1 al1 d1 : Nat → Int32),
      m_X9_finish_L10 fu (nI N) all pp n (nI b0) (nI f) sz ft ord opt = some (cnt1, sz1, ft1, ord1, opt1) ∧
      m_X10_finish_L9 fu (nI N) (nI nr) on oc ck c1 ci c2 co n' (nI cnt) (nI f) th sz' ord' cho al c = some (cnt1, th, sz1, ord1', cho1, al1, d1) ∧
      MM os1 ch1 op N sz1 ft1 ord1 opt1 sz1 ord1' cho1 ∧ Ps N op os1 ch1 kd sa sb nr on := by
  have hN := hF.1
  intro m
  induction m with
  | zero =>
    intro f n n' cnt os ch sz ft ord opt sz' ord' cho al c hk hn hn' hl hM hP
    obtain ⟨n, rfl⟩ : ∃ k, n = k + 1 := ⟨n - 1, by omega⟩
    obtain ⟨n', rfl⟩ : ∃ k, n' = k + 1 := ⟨n' - 1, by omega⟩
    refine ⟨os, ch, nI cnt, sz, ft, ord, opt, ord', cho, al, c, ?_, ?_, ⟨hM.1, by rw [show sz = sz' from hM.1.1.trans hM.2.1.1.symm]; exact hM.2.1, hM.2.2⟩, hP⟩
    · show m_X9_finish_L10_b fu (nI N) all pp (m_X9_finish_L10 fu (nI N) all pp n) (nI b0) (nI f) sz ft ord opt = _
      unfold m_X9_finish_L10_b
      rw [if_pos ((nle (by omega) (by omega)).mpr (by omega))]
      have : sz - nI b0 = nI cnt := by
        rw [hM.1.1, hl, ← nI_add, Int32.add_comm, Int32.add_sub_cancel]
      rw [this]
    · show m_X10_finish_L9_b fu (nI N) (nI nr) on oc ck c1 ci c2 co (m_X10_finish_L9 fu (nI N) (nI nr) on oc ck c1 ci c2 co n') (nI cnt) (nI f) th sz' ord' cho al c = _
      unfold m_X10_finish_L9_b
      rw [if_pos ((nle (by omega) (by omega)).mpr (by omega)), show sz' = sz from hM.2.1.1.trans hM.1.1.symm]
  | succ m ih =>
    intro f n n' cnt os ch sz ft ord opt sz' ord' cho al c hk hn hn' hl hM hP
    obtain ⟨n, rfl⟩ : ∃ k, n = k + 1 := ⟨n - 1, by omega⟩
    obtain ⟨n', rfl⟩ : ∃ k, n' = k + 1 := ⟨n' - 1, by omega⟩
    have hf : f < N := by omega
    have h5 := hF.le5 f hf
    rw [show m_X9_finish_L10 fu (nI N) all pp (n + 1) (nI b0) (nI f) sz ft ord opt = m_X9_finish_L10_b fu (nI N) all pp (m_X9_finish_L10 fu (nI N) all pp n) (nI b0) (nI f) sz ft ord opt from rfl]
    rw [show m_X10_finish_L9 fu (nI N) (nI nr) on oc ck c1 ci c2 co (n' + 1) (nI cnt) (nI f) th sz' ord' cho al c = m_X10_finish_L9_b fu (nI N) (nI nr) on oc ck c1 ci c2 co (m_X10_finish_L9 fu (nI N) (nI nr) on oc ck c1 ci c2 co n') (nI cnt) (nI f) th sz' ord' cho al c from rfl]
    unfold m_X9_finish_L10_b m_X10_finish_L9_b
    have hnk : ¬ nI N ≤ nI f := fun h => by have := (nle (by omega) (by omega)).mp h; omega
    rw [if_neg hnk, if_neg hnk, if_neg (nI_in2 (by omega) (by omega)), nI_cl (n := f) (by omega), q_hasC hM.1 (by omega), Option.bind_some, hM.2.1.2.2 _ hf, n1 f]
    by_cases q : f ∈ os
    · have hch := (hM.2.2.2 _ q).2
      rw [decide_eq_true q, if_neg (show ¬ bI true = 0 by decide), if_pos q, if_neg (show ¬ nI (ch f) = (-1 : Int32) from fun h => by have := nneg (a := ch f) (by omega); rw [h] at this; exact this (by decide))]
      exact ih (f + 1) n n' cnt os ch sz ft ord opt sz' ord' cho al c (by omega) (by omega) (by omega) hl hM hP
    · obtain ⟨y, -, hy⟩ := q_allowed (by omega : 40 ≤ fu) hM.1 hM.2.2 hF ha
      obtain ⟨s, s1, s2⟩ := q_offOf (pp := pp) hfu hM.1 hM.2.2 hF ha hy hf
      obtain ⟨v, ⟨v1, v2⟩, v3⟩ := pk_least (fun a => a < op f ∧ ex pp N 0 (y &&& on1 y f a) = true) (off_some hF hy hf (hP pp y hpp hy))
      have hno : ∀ w, w < v → ex pp N 0 (y &&& on1 y f w) = false := fun w hw => by
        cases h : ex pp N 0 (y &&& on1 y f w) with
        | false => rfl
        | true => exact absurd ⟨by omega, h⟩ (v3 w hw)
      obtain ⟨al1, d1, z1⟩ := q_finM_L hfu hR hpp hM.2.1 hM.2.2 hF hy hf v1 v2 hno (m_X10_finish_L9 fu (nI N) (nI nr) on oc ck c1 ci c2 co n') (nI cnt) th v 0 fu al c (by omega) (by omega)
      rw [nI_0] at z1
      obtain ⟨sz1, ft1, ord1, opt1, ord1', cho1, a1, a2, a3, a4⟩ := q_add hF hM hf q v1
      rw [decide_eq_false q, if_pos bI_f, if_neg q, if_pos rfl, s1, Option.bind_some, q_lowest (by omega) s (v := v) (by omega) (by rw [s2 v (by omega), v2, decide_eq_true (by omega)]; rfl) (fun w hw => by rw [s2 w (by omega), hno w hw, Bool.and_false]), Option.bind_some, if_neg (show ¬ nI v = (-1 : Int32) from fun h => by have := nneg (a := v) (by omega); rw [h] at this; exact this (by decide)), z1, a1, a2, Option.bind_some, Option.bind_some, n1]
      exact ih (f + 1) n n' (cnt + 1) (os ++ [f]) (pt ch f v) sz1 ft1 ord1 opt1 sz1 ord1' cho1 al1 d1 (by omega) (by omega) (by omega) (by rw [List.length_append, List.length_singleton, hl, Nat.add_assoc]) a4 (off_step hF hpp hy hf (by omega) q v2)
theorem q_reset_L (fu : Nat) (hF : Fo N op oc) (x1 th nc : Int32) : ∀ (m f n : Nat) (cho : Nat → Int32), f + m = N → m < n → (∀ j, j < f → cho j = -1) →
    ∃ cho1, m_X10_reset_L12 fu (nI N) n x1 (nI f) th nc cho = some (x1, th, 0, cho1) ∧ ∀ j, j < N → cho1 j = -1 := by
  have hN := hF.1
  intro m
  induction m with
  | zero =>
    intro f n cho hk hn h
    obtain ⟨n, rfl⟩ : ∃ k, n = k + 1 := ⟨n - 1, by omega⟩
    refine ⟨cho, ?_, fun j hj => h j (by omega)⟩
    show m_X10_reset_L12_b fu (nI N) (m_X10_reset_L12 fu (nI N) n) x1 (nI f) th nc cho = _
    unfold m_X10_reset_L12_b
    rw [if_pos ((nle (by omega) (by omega)).mpr (by omega))]
  | succ m ih =>
    intro f n cho hk hn h
    obtain ⟨n, rfl⟩ : ∃ k, n = k + 1 := ⟨n - 1, by omega⟩
    show ∃ cho1, m_X10_reset_L12_b fu (nI N) (m_X10_reset_L12 fu (nI N) n) x1 (nI f) th nc cho = _ ∧ _
    unfold m_X10_reset_L12_b
    rw [if_neg (fun h => by have := (nle (by omega) (by omega)).mp h; omega), if_neg (nI_in2 (by omega) (by omega)), nI_cl (by omega), n1]
    refine ih (f + 1) n _ (by omega) (by omega) (fun j hj => ?_)
    by_cases q : j = f
    · rw [q, upd_s]
    · rw [upd_n q]; exact h j (by omega)
theorem MM_nil (hch : ∀ j, j < N → cho j = -1) : MM [] ch op N 0 0 ord opt 0 ord' cho := by
  refine ⟨⟨nI_0.symm, fun k hk => absurd hk (Nat.not_lt_zero k), fun i _ => by rw [b_0]; simp, fun j hj => by cases hj⟩, ⟨nI_0.symm, fun k hk => absurd hk (Nat.not_lt_zero k), fun j hj => by rw [hch j hj]; simp⟩, List.nodup_nil, fun j hj => by cases hj⟩
end FI
