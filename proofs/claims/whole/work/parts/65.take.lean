/-! checks; taking defaults, finishing: the two sides -/
theorem q_in0 {x M : Int32} (h : x < 0) : m_X10_in x 0 M = some 0 := by
  unfold m_X10_in
  rw [if_pos h]
theorem q_in1 {j M : Nat} (hj : j < M) (hM : M < 2 ^ 31) : m_X10_in (nI j) 0 (nI M - (1 : Int32)) = some 1 := by
  unfold m_X10_in
  obtain ⟨m, rfl⟩ : ∃ m, M = m + 1 := ⟨M - 1, by omega⟩
  rw [if_neg (show ¬ nI j < 0 from nI_pos (by omega)), nS, if_neg (nI_nlt (by omega) (by omega))]
theorem q_in2 {x : Int32} {M : Nat} (h : nI M ≤ x) (hM : M < 2 ^ 31) : m_X10_in x 0 (nI M - (1 : Int32)) = some 0 := by
  unfold m_X10_in
  by_cases h0 : x < 0
  · rw [if_pos h0]
  · rw [if_neg h0]
    obtain ⟨j, hj, rfl⟩ := nI_of h0
    have := (nI_leI hM hj).mp h
    cases M with
    | zero =>
      rw [show nI 0 - (1 : Int32) = -1 by decide, if_pos]
      rw [Int32.lt_iff_toInt_lt, nI_toInt hj]
      have : (-1 : Int32).toInt = -1 := by decide
      omega
    | succ M =>
      rw [nS, if_pos (nI_lt (by omega) hj)]
section CK
variable {os : List Nat} {ch op : Nat → Nat} {N : Nat} {sz ft sz' all : Int32} {ord opt ord' cho oc cx : Nat → Int32} {ck c1 ci c2 co : Nat → Int32} {kd sa sb : Nat → Nat} {nr : Nat} {xk xs xo : Nat → Int32} {pp : Nat → Int32} {on : Int32}
theorem chk_f (hF : Fo N op oc) (x : Int32) : (∃ f, f < N ∧ x = nI f ∧ m_X9_checkFeature (nI N) x = some (none, 0) ∧ m_X10_isFeature (nI N) x = some 1) ∨ (m_X9_checkFeature (nI N) x = some (some "java/lang/IndexOutOfBoundsException", 0) ∧ m_X10_isFeature (nI N) x = some 0) := by
  have hN := hF.1
  unfold m_X9_checkFeature m_X4_has m_X10_isFeature
  by_cases h0 : x < 0
  · right
    rw [if_pos h0, q_in0 h0]
    exact ⟨rfl, rfl⟩
  · rw [if_neg h0]
    rcases pk_ix x (n := N) (by omega) with h | h | ⟨j, hj, rfl⟩
    · exact absurd h h0
    · right
      rw [if_pos h, q_in2 h (by omega)]
      exact ⟨rfl, rfl⟩
    · left
      rw [if_neg (fun h => by have := (nle (by omega) (by omega)).mp h; omega), q_in1 hj (by omega)]
      exact ⟨j, hj, rfl, rfl, rfl⟩
theorem chk_o (hF : Fo N op oc) (hFx : Fo N op cx) (x z : Int32) : (∃ f a, f < N ∧ a < op f ∧ x = nI f ∧ z = nI a ∧ m_X9_checkOption (nI N) cx x z = some (none, 0) ∧ m_X10_isOption (nI N) oc x z = some 1) ∨ (m_X9_checkOption (nI N) cx x z = some (some "java/lang/IndexOutOfBoundsException", 0) ∧ m_X10_isOption (nI N) oc x z = some 0) := by
  have hN := hF.1
  unfold m_X9_checkOption m_X10_isOption
  rcases chk_f hF x with ⟨f, hf, rfl, h1, h2⟩ | ⟨h1, h2⟩
  · have h5 := hF.le5 f hf
    rw [h1, h2, Option.bind_some, Option.bind_some, if_pos (show ((none : Option String), (0 : Int32)).1 = none from rfl), if_neg (show ¬ (1 : Int32) = 0 by decide), if_neg (nI_in2 (by omega) (by omega)), if_neg (nI_in2 (by omega) (by omega)), nI_cl (by omega), (hF.2 f hf).2.2, (hFx.2 f hf).2.2]
    by_cases h0 : z < 0
    · right
      rw [if_pos h0, q_in0 h0]
      exact ⟨rfl, rfl⟩
    · rw [if_neg h0]
      rcases pk_ix z (n := op f) (by omega) with h | h | ⟨j, hj, rfl⟩
      · exact absurd h h0
      · right
        rw [if_neg (fun h3 => by
          obtain ⟨j, hj, rfl⟩ := nI_of h0
          have h4 := (nI_ltI hj (by omega)).mp h3
          have h5 := (nI_leI (by omega) hj).mp h
          omega), q_in2 h (by omega)]
        exact ⟨rfl, rfl⟩
      · left
        rw [if_pos ((nlt (by omega) (by omega)).mpr hj), q_in1 hj (by omega)]
        exact ⟨f, j, hf, hj, rfl, rfl, rfl, rfl⟩
  · right
    rw [h1, h2, Option.bind_some, Option.bind_some, if_neg (fun h => by cases h), if_pos rfl]
    exact ⟨rfl, rfl⟩
theorem Ps_mono {fu : Nat} (hfu : 40 ≤ fu) (hX : Mx os ch sz ft ord opt) (hw : Mw os ch op N) (hF : Fo N op oc) (ha : Xm all N op (fun _ _ => true)) {os' : List Nat} (hs : ∀ j, j ∈ os' → j ∈ os) (h : Ps N op os ch kd sa sb nr on) : Ps N op os' ch kd sa sb nr on := by
  intro p y hp hy
  obtain ⟨y0, -, h0⟩ := q_allowed hfu hX hw hF ha
  refine ex_mono hF.1 hp hp (fun _ _ h => h) (fun i hi hb => ?_) (h p y0 hp h0)
  rw [h0 i hi] at hb
  rw [hy i hi]
  simp only [Bool.and_eq_true] at hb ⊢
  refine ⟨hb.1, hb.2.1, ?_⟩
  have := hb.2.2
  unfold Pq at this ⊢
  by_cases q : i / 5 ∈ os'
  · rw [if_pos ⟨hs _ q, rfl⟩] at this
    rw [if_pos ⟨q, rfl⟩]; exact this
  · rw [if_neg (fun h => q h.1)]
theorem Xm_off (hN : N ≤ 6) {y : Int32} (hy : Xm y N op (Pq os ch (fun _ => true))) {f a : Nat} (hf : f < 6) (ha : a < 5) (hn : ¬ f ∈ os) : Xm (y &&& on1 y f a) N op (Pq (os ++ [f]) (pt ch f a) (fun _ => true)) := by
  intro i hi
  rw [b_cut hf ha hi, hy i hi, Pq_app]
  by_cases q : i / 5 = f
  · rw [if_pos q, if_pos q, q]
    unfold Pq
    rw [if_neg (fun h => hn h.1), Bool.and_true, Bool.and_assoc]
  · rw [if_neg q, if_neg q]
theorem off_step (hF : Fo N op oc) (hpp : Pg pp kd sa sb nr on) {y : Int32} (hy : Xm y N op (Pq os ch (fun _ => true))) {f a : Nat} (hf : f < N) (ha : a < 5) (hn : ¬ f ∈ os) (ho : ex pp N 0 (y &&& on1 y f a) = true) : Ps N op (os ++ [f]) (pt ch f a) kd sa sb nr on := by
  intro p z hp hz
  have hN := hF.1
  rw [hz.eq (Xm_off hN hy (by omega) ha hn) (fun _ _ _ _ => rfl), ex_same hN hp hpp]
  exact ho
/-- the wishes -/
def WW (N : Nat) (op : Nat → Nat) (nw : Nat) (w : Nat → Nat) : Prop := nw ≤ 12 ∧ ∀ k, k < nw → w k / 5 < N ∧ w k % 5 < op (w k / 5)
def WX (nw : Nat) (w : Nat → Nat) (cw cf cg : Nat → Int32) : Prop := Ar cw w nw ∧ Ar cf (fun k => w k / 5) nw ∧ Ar cg (fun k => w k % 5) nw
theorem q_take_L {fu : Nat} (hfu : 200000 ≤ fu) (hR : Mb ck c1 ci c2 co kd sa sb nr) (hF : Fo N op oc) (ha : Xm all N op (fun _ _ => true)) (hpp : Pg pp kd sa sb nr on) {nw : Nat} {w : Nat → Nat} {cw cf cg : Nat → Int32} (hW : WW N op nw w) (hWX : WX nw w cw cf cg) (th : Int32) (b0 : Nat) : ∀ (m k n n' cnt : Nat) (os : List Nat) (ch : Nat → Nat) (sz ft : Int32) (ord opt : Nat → Int32) (sz' : Int32) (ord' cho al c : Nat → Int32), k + m = nw → m < n → m < n' → os.length = b0 + cnt → MM os ch op N sz ft ord opt sz' ord' cho → Ps N op os ch kd sa sb nr on →
    ∃ (os1 : List Nat) (ch1 : Nat → Nat) (cnt1 sz1 ft1 : Int32) (ord1 opt1 ord1' cho1 al1 d1 : Nat → Int32),
      m_X9_takeDefaults_L10 fu (nI N) all (nI nw) cw pp n (nI b0) (nI k) sz ft ord opt = some (cnt1, sz1, ft1, ord1, opt1) ∧
      m_X10_takeDefaults_L9 fu (nI N) (nI nr) on (nI nw) oc ck c1 ci c2 co cf cg n' (nI cnt) (nI k) th sz' ord' cho al c = some (cnt1, th, sz1, ord1', cho1, al1, d1) ∧
      MM os1 ch1 op N sz1 ft1 ord1 opt1 sz1 ord1' cho1 ∧ Ps N op os1 ch1 kd sa sb nr on := by
  have hN := hF.1
  have hnw := hW.1
  intro m
  induction m with
  | zero =>
    intro k n n' cnt os ch sz ft ord opt sz' ord' cho al c hk hn hn' hl hM hP
    obtain ⟨n, rfl⟩ : ∃ k, n = k + 1 := ⟨n - 1, by omega⟩
    obtain ⟨n', rfl⟩ : ∃ k, n' = k + 1 := ⟨n' - 1, by omega⟩
    refine ⟨os, ch, nI cnt, sz, ft, ord, opt, ord', cho, al, c, ?_, ?_, ⟨hM.1, by rw [show sz = sz' from hM.1.1.trans hM.2.1.1.symm]; exact hM.2.1, hM.2.2⟩, hP⟩
    · show m_X9_takeDefaults_L10_b fu (nI N) all (nI nw) cw pp (m_X9_takeDefaults_L10 fu (nI N) all (nI nw) cw pp n) (nI b0) (nI k) sz ft ord opt = _
      unfold m_X9_takeDefaults_L10_b
      rw [if_pos ((nle (by omega) (by omega)).mpr (by omega))]
      have : sz - nI b0 = nI cnt := by
        rw [hM.1.1, hl, ← nI_add, Int32.add_comm, Int32.add_sub_cancel]
      rw [this]
    · show m_X10_takeDefaults_L9_b fu (nI N) (nI nr) on (nI nw) oc ck c1 ci c2 co cf cg (m_X10_takeDefaults_L9 fu (nI N) (nI nr) on (nI nw) oc ck c1 ci c2 co cf cg n') (nI cnt) (nI k) th sz' ord' cho al c = _
      unfold m_X10_takeDefaults_L9_b
      rw [if_pos ((nle (by omega) (by omega)).mpr (by omega)), show sz' = sz from hM.2.1.1.trans hM.1.1.symm]
  | succ m ih =>
    intro k n n' cnt os ch sz ft ord opt sz' ord' cho al c hk hn hn' hl hM hP
    obtain ⟨n, rfl⟩ : ∃ k, n = k + 1 := ⟨n - 1, by omega⟩
    obtain ⟨n', rfl⟩ : ∃ k, n' = k + 1 := ⟨n' - 1, by omega⟩
    obtain ⟨w1, w2⟩ := hW.2 k (by omega)
    have h5 := hF.le5 _ w1
    have g1 : cw k = nI (w k) := hWX.1 k (by omega)
    have g2 : cf k = nI (w k / 5) := hWX.2.1 k (by omega)
    have g3 : cg k = nI (w k % 5) := hWX.2.2 k (by omega)
    have g4 : nI (w k) / (5 : Int32) = nI (w k / 5) := d5 (by omega)
    have g5 : nI (w k) - nI (w k / 5) * (5 : Int32) = nI (w k % 5) := by rw [← g4]; exact r5 (by omega)
    rw [show m_X9_takeDefaults_L10 fu (nI N) all (nI nw) cw pp (n + 1) (nI b0) (nI k) sz ft ord opt = m_X9_takeDefaults_L10_b fu (nI N) all (nI nw) cw pp (m_X9_takeDefaults_L10 fu (nI N) all (nI nw) cw pp n) (nI b0) (nI k) sz ft ord opt from rfl]
    rw [show m_X10_takeDefaults_L9 fu (nI N) (nI nr) on (nI nw) oc ck c1 ci c2 co cf cg (n' + 1) (nI cnt) (nI k) th sz' ord' cho al c = m_X10_takeDefaults_L9_b fu (nI N) (nI nr) on (nI nw) oc ck c1 ci c2 co cf cg (m_X10_takeDefaults_L9 fu (nI N) (nI nr) on (nI nw) oc ck c1 ci c2 co cf cg n') (nI cnt) (nI k) th sz' ord' cho al c from rfl]
    unfold m_X9_takeDefaults_L10_b m_X10_takeDefaults_L9_b
    have hnk : ¬ nI nw ≤ nI k := fun h => by have := (nle (by omega) (by omega)).mp h; omega
    rw [if_neg hnk, if_neg hnk, if_neg (nI_in2 (by omega) (by omega)), if_neg (nI_in2 (by omega) (by omega)), nI_cl (n := k) (by omega), g1, g2, g3, g4, g5, if_neg (nI_in2 (by omega) (by omega)), nI_cl (n := w k / 5) (by omega), q_hasC hM.1 (by omega), Option.bind_some, hM.2.1.2.2 _ w1, n1, n1]
    by_cases q : w k / 5 ∈ os
    · have hch := (hM.2.2.2 _ q).2
      rw [decide_eq_true q, if_neg (show ¬ bI true = 0 by decide), if_pos q, if_neg (show ¬ nI (ch (w k / 5)) = (-1 : Int32) from fun h => by have := nneg (a := ch (w k / 5)) (by omega); rw [h] at this; exact this (by decide))]
      exact ih (k + 1) n n' cnt os ch sz ft ord opt sz' ord' cho al c (by omega) (by omega) (by omega) hl hM hP
    · obtain ⟨y, y1, y2, y3⟩ := q_isOffX (p := pp) hfu hM.1 hM.2.2 hF ha w1 (show w k % 5 < 5 by omega)
      obtain ⟨al1, d1, z1, -⟩ := q_isOffR hfu hR hpp hM.2.1 hM.2.2 hF y2 w1 (show w k % 5 < 5 by omega) al c
      rw [decide_eq_false q, if_pos bI_f, if_neg q, if_pos rfl, y3, z1, Option.bind_some, Option.bind_some]
      cases he : ex pp N 0 (y &&& on1 y (w k / 5) (w k % 5)) with
      | false =>
        rw [if_pos bI_f, if_pos bI_f]
        exact ih (k + 1) n n' cnt os ch sz ft ord opt sz' ord' cho al1 d1 (by omega) (by omega) (by omega) hl hM hP
      | true =>
        obtain ⟨sz1, ft1, ord1, opt1, ord1', cho1, a1, a2, a3, a4⟩ := q_add hF hM w1 q w2
        rw [if_neg (show ¬ bI true = 0 by decide), if_neg (show ¬ bI true = 0 by decide), a1, a2, Option.bind_some, Option.bind_some]
        exact ih (k + 1) n n' (cnt + 1) (os ++ [w k / 5]) (pt ch (w k / 5) (w k % 5)) sz1 ft1 ord1 opt1 sz1 ord1' cho1 al1 d1 (by omega) (by omega) (by omega) (by rw [List.length_append, List.length_singleton, hl, Nat.add_assoc]) a4 (off_step hF hpp y2 w1 (by omega) q he)
end CK
