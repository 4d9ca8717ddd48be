/-! what is possible, offered, had: the two sides -/
theorem b_63 : ∀ i, i < 32 → bt 63 i = decide (i < 6) := by decide +kernel
section HS
variable {os : List Nat} {ch op : Nat → Nat} {N : Nat} {sz ft sz' all : Int32} {ord opt ord' cho oc : Nat → Int32}
theorem Mw.h6 (hw : Mw os ch op N) (hF : Fo N op oc) : ∀ j, j ∈ os → j < 6 ∧ ch j < 5 := fun j hj => by
  obtain ⟨h1, h2⟩ := hw.2 j hj
  have := (hF.2 j h1).2.1
  have := hF.1
  omega
theorem Fo.le5 (hF : Fo N op oc) : ∀ j, j < N → op j ≤ 5 := fun j hj => (hF.2 j hj).2.1
/-- the component: what is allowed -/
theorem q_allowed {fu : Nat} (hfu : 40 ≤ fu) (hX : Mx os ch sz ft ord opt) (hw : Mw os ch op N) (hF : Fo N op oc) (ha : Xm all N op (fun _ _ => true)) :
    ∃ y, m_X9_allowed fu all sz ft ord opt = some y ∧ Xm y N op (Pq os ch (fun _ => true)) := by
  have hl := hw.len
  have hN := hF.1
  obtain ⟨y, h1, h2⟩ := q_narrow hfu hX (hw.h6 hF) (by omega) all ft
  refine ⟨y, by unfold m_X9_allowed; rw [h1]; rfl, ?_⟩
  have := Xm_nw hN hF.le5 hw ha (fun _ _ _ _ => rfl) h2
  intro i hi
  rw [this i hi]
  by_cases q : i < 5 * N
  · congr 2
    show (true && Pq os ch (bt ft) (i / 5) (i % 5)) = Pq os ch (fun _ => true) (i / 5) (i % 5)
    unfold Pq
    by_cases q2 : i / 5 ∈ os
    · rw [if_pos ⟨q2, by rw [hX.2.2.1 _ (by omega)]; exact decide_eq_true q2⟩, if_pos ⟨q2, rfl⟩]; rfl
    · rw [if_neg (fun h => q2 h.1), if_neg (fun h => q2 h.1)]; rfl
  · rw [decide_eq_false q]; rfl
/-- the reference's sets and the component's mask -/
theorem Fx_of {y : Int32} {t : Nat → Bool} {al : Nat → Int32} {S : Int32} (hF : Fo N op oc) (hy : Xm y N op (Pq os ch t)) (hS : ∀ j, j ∈ os → bt S j = t j) (ha : ∀ j, j < N → ∀ i, i < 32 → bt (al j) i = if j ∈ os ∧ bt S j = true then decide (i = ch j) else decide (i < op j)) : Fx y al oc op N := by
  refine ⟨hF.1, fun j hj => ⟨(hF.2 j hj).2.1, (hF.2 j hj).2.2⟩, fun k v hk hv => ?_⟩
  rw [hy.at hF.1 hk hv, ha k hk v (by omega)]
  unfold Pq
  by_cases q : k ∈ os
  · rw [hS k q]
    by_cases q2 : t k = true
    · rw [if_pos ⟨q, q2⟩, if_pos ⟨q, q2⟩]
    · rw [if_neg (fun h => q2 h.2), if_neg (fun h => q2 h.2)]; simp
  · rw [if_neg (fun h => q h.1), if_neg (fun h => q h.1)]; simp
def Hp (os : List Nat) (ch : Nat → Nat) (f a : Nat) (t : Nat → Bool) (j v : Nat) : Bool := if j = f then decide (v = a) else Pq os ch t j v
variable {ck c1 ci c2 co : Nat → Int32} {kd sa sb : Nat → Nat} {nr : Nat} {p : Nat → Int32} {S : Int32}
theorem q_has {fu : Nat} (hfu : 200000 ≤ fu) (hM : Mb ck c1 ci c2 co kd sa sb nr) (hp : Pg p kd sa sb nr S) (hm : Mm os ch N sz' ord' cho) (hw : Mw os ch op N) (hF : Fo N op oc) {f a : Nat} (hf : f < N) (hao : a < 5) {C y : Int32} {t : Nat → Bool} (hC : ∀ j, j ∈ os → ¬ j = f → bt C j = t j) (hy : Xm y N op (Hp os ch f a t)) (al c : Nat → Int32) :
    ∃ al' c', m_X10_has fu (nI N) (nI nr) oc ck c1 ci c2 co cho al c S (nI f) (nI a) C = some (bI (ex p N 0 y), al', c') := by
  have hN := hF.1
  obtain ⟨al1, h1, h2⟩ := q_allows (by omega : 40 ≤ fu) hm hw hF (C &&& (((1 : Int32) <<< (nI f &&& 31)) ^^^ (-1 : Int32))) al
  have hFx : Fx y (upd al1 f ((1 : Int32) <<< (nI a &&& 31))) oc op N := by
    refine ⟨hF.1, fun j hj => ⟨(hF.2 j hj).2.1, (hF.2 j hj).2.2⟩, fun k v hk hv => ?_⟩
    rw [hy.at hN hk hv]
    unfold Hp
    by_cases q : k = f
    · subst q
      rw [if_pos rfl, upd_s, b_p (by omega) (by omega)]
    · rw [if_neg q, upd_n q, h2 k hk v (by omega), b_and, b_not _ (by omega), b_p (by omega) (by omega), decide_eq_false q, Bool.not_false, Bool.and_true]
      unfold Pq
      by_cases q1 : k ∈ os
      · rw [hC k q1 q]
        by_cases q2 : t k = true
        · rw [if_pos ⟨q1, q2⟩, if_pos ⟨q1, q2⟩]
        · rw [if_neg (fun h => q2 h.2), if_neg (fun h => q2 h.2)]; simp
      · rw [if_neg (fun h => q1 h.1), if_neg (fun h => q1 h.1)]; simp
  obtain ⟨c', h3, -⟩ := q_pk0 hfu hM hp hFx c
  refine ⟨upd al1 f ((1 : Int32) <<< (nI a &&& 31)), c', ?_⟩
  unfold m_X10_has
  rw [h1]
  simp only [Option.bind_some]
  rw [if_neg (nI_in2 (by omega) (by omega)), nI_cl (by omega), h3]
  simp only [Option.bind_some]
  rfl
/-- the reference: whether some rules leave something possible -/
theorem q_isPoss {fu : Nat} (hfu : 200000 ≤ fu) (hM : Mb ck c1 ci c2 co kd sa sb nr) (hp : Pg p kd sa sb nr S) (hm : Mm os ch N sz' ord' cho) (hw : Mw os ch op N) (hF : Fo N op oc) {y : Int32} (hy : Xm y N op (Pq os ch (fun _ => true))) (al c : Nat → Int32) :
    ∃ al' c', m_X10_isPossible fu (nI N) (nI nr) oc ck c1 ci c2 co cho al c S = some (bI (ex p N 0 y), al', c') := by
  obtain ⟨al1, h1, h2⟩ := q_allows (by omega : 40 ≤ fu) hm hw hF 63 al
  have hFx : Fx y al1 oc op N := Fx_of hF hy (fun j hj => by have := hw.2 j hj; have := hF.1; rw [b_63 j (by omega)]; exact decide_eq_true (by omega)) h2
  obtain ⟨c', h3, -⟩ := q_pk0 hfu hM hp hFx c
  refine ⟨al1, c', ?_⟩
  unfold m_X10_isPossible
  rw [h1]
  simp only [Option.bind_some]
  rw [h3]
  rfl
theorem b_cut {y : Int32} {f a i : Nat} (hf : f < 6) (ha : a < 5) (hi : i < 32) : bt (y &&& on1 y f a) i = if i / 5 = f then (bt y i && decide (i % 5 = a)) else bt y i := by
  rw [b_and, b_on1 y hf ha hi]
  by_cases q : i / 5 = f
  · rw [if_pos (by omega), if_pos q]
    congr 1
    exact decide_eq_decide.mpr (by omega)
  · rw [if_neg (by omega), if_neg q, Bool.and_self]
theorem q_isOffR {fu : Nat} (hfu : 200000 ≤ fu) (hM : Mb ck c1 ci c2 co kd sa sb nr) (hp : Pg p kd sa sb nr S) (hm : Mm os ch N sz' ord' cho) (hw : Mw os ch op N) (hF : Fo N op oc) {y : Int32} (hy : Xm y N op (Pq os ch (fun _ => true))) {f a : Nat} (hf : f < N) (ha : a < 5) (al c : Nat → Int32) :
    ∃ al' c', m_X10_isOffered fu (nI N) (nI nr) S oc ck c1 ci c2 co cho al c (nI f) (nI a) = some (bI (ex p N 0 (y &&& on1 y f a)), al', c') ∧ Fx (y &&& on1 y f a) al' oc op N := by
  have hN := hF.1
  obtain ⟨al1, h1, h2⟩ := q_allows (by omega : 40 ≤ fu) hm hw hF 63 al
  have hFy : Fx y al1 oc op N := Fx_of hF hy (fun j hj => by have := hw.2 j hj; have := hF.1; rw [b_63 j (by omega)]; exact decide_eq_true (by omega)) h2
  have hFx : Fx (y &&& on1 y f a) (upd al1 f (al1 f &&& ((1 : Int32) <<< (nI a &&& 31)))) oc op N := by
    refine ⟨hF.1, hFy.2.1, fun k v hk hv => ?_⟩
    rw [b_cut (by omega) ha (by omega), show (5 * k + v) / 5 = k by omega, show (5 * k + v) % 5 = v by omega, hFy.2.2 k v hk hv]
    by_cases q : k = f
    · subst q
      rw [if_pos rfl, upd_s, b_and, b_p (by omega) (by omega), Bool.and_assoc]
    · rw [if_neg q, upd_n q]
  obtain ⟨c', h3, -⟩ := q_pk0 hfu hM hp hFx c
  refine ⟨_, c', ?_, hFx⟩
  unfold m_X10_isOffered
  rw [h1]
  simp only [Option.bind_some]
  rw [if_neg (nI_in2 (by omega) (by omega)), nI_cl (by omega), h3]
  rfl
theorem ex_cut {y : Int32} {f a : Nat} (hf : f < N) (hN : N ≤ 6) (ha : a < 5) : ex p N 0 (y &&& on1 y f a) = (bt y (5 * f + a) && ex p N 0 (on1 y f a)) := by
  cases hb : bt y (5 * f + a) with
  | true =>
    rw [Bool.true_and]
    congr 1
    refine b_ext (fun i hi => ?_)
    rw [b_cut (by omega) ha hi, b_on1 y (by omega) ha hi]
    by_cases q : i / 5 = f
    · rw [if_pos q, if_pos (by omega)]
      by_cases q2 : i = 5 * f + a
      · rw [q2, hb]; simp; omega
      · rw [decide_eq_false q2, decide_eq_false (by omega), Bool.and_false]
    · rw [if_neg q, if_neg (by omega)]
  | false =>
    rw [Bool.false_and]
    cases he : ex p N 0 (y &&& on1 y f a) with
    | false => rfl
    | true =>
      exfalso
      obtain ⟨o, ho, h3⟩ := (sl_iff (by omega)).mp (ex_sl (by omega) he) f (by omega) (by omega)
      rw [b_cut (by omega) ha (by omega), if_pos (by omega), Bool.and_eq_true, decide_eq_true_iff] at h3
      rw [show 5 * f + o = 5 * f + a by omega, hb] at h3
      exact absurd h3.1 (by decide)
/-- the component: whether an option is offered -/
theorem q_isOffX_1 {fu : Nat} (hfu : 40 ≤ fu) {y : Int32} (hN : N ≤ 6) {f a : Nat} (hf : f < N) (hao : a < 5) (h1 : m_X9_allowed fu all sz ft ord opt = some y) : m_X9_isOffered fu (nI N) all sz ft ord opt p (nI f) (nI a) = some (bI (ex p N 0 (y &&& on1 y f a))) := by
  have e1 := q_slotOf f a
  have e2 := q_holds y (n := 5 * f + a) (by omega)
  have e3 := q_only y f a
  have e4 := q_leaveSome hfu p hN (on1 y f a)
  have e5 := ex_cut (p := p) (y := y) hf hN hao
  unfold m_X9_isOffered
  rw [h1, e5, Option.bind_some, e1, Option.bind_some, e2, Option.bind_some]
  clear e5 e2
  cases hb : bt y (5 * f + a) with
  | false => rw [if_pos bI_f, Bool.false_and, bI_f]
  | true =>
    rw [if_neg (show ¬ bI true = 0 by decide), e3, Option.bind_some, e4, Option.bind_some, Bool.true_and]
    clear e4
    generalize ex p N 0 (on1 y f a) = e
    cases e with
    | false => rw [if_pos bI_f, bI_f]
    | true => rw [if_neg (show ¬ bI true = 0 by decide), bI_t]
theorem q_isOffX {fu : Nat} (hfu : 200000 ≤ fu) (hX : Mx os ch sz ft ord opt) (hw : Mw os ch op N) (hF : Fo N op oc) (ha : Xm all N op (fun _ _ => true)) {f a : Nat} (hf : f < N) (hao : a < 5) :
    ∃ y, m_X9_allowed fu all sz ft ord opt = some y ∧ Xm y N op (Pq os ch (fun _ => true)) ∧ m_X9_isOffered fu (nI N) all sz ft ord opt p (nI f) (nI a) = some (bI (ex p N 0 (y &&& on1 y f a))) := by
  have hN := hF.1
  obtain ⟨y, h1, h2⟩ := q_allowed (by omega : 40 ≤ fu) hX hw hF ha
  refine ⟨y, h1, h2, ?_⟩
  exact q_isOffX_1 (by omega) hN hf hao h1
end HS
