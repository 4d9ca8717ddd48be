/-! what is read of a product: the two sides -/
section RD
variable {os : List Nat} {ch op : Nat → Nat} {N : Nat} {sz ft sz' all : Int32} {ord opt ord' cho oc : Nat → Int32} {ck c1 ci c2 co : Nat → Int32} {kd sa sb : Nat → Nat} {nr : Nat} {xk xs xo pp : Nat → Int32} {on : Int32}
theorem al_of {fu : Nat} (hfu : 40 ≤ fu) (hm : Mm os ch N sz' ord' cho) (hw : Mw os ch op N) (hF : Fo N op oc) {y : Int32} (hy : Xm y N op (Pq os ch (fun _ => true))) (al : Nat → Int32) :
    ∃ al1, m_X10_allows fu (nI N) oc cho al 63 = some (0, al1) ∧ Fx y al1 oc op N ∧ Rl N op y al1 := by
  have hN := hF.1
  obtain ⟨al1, a1, a2⟩ := q_allows hfu hm hw hF 63 al
  have hFx : Fx y al1 oc op N := Fx_of hF hy (fun j hj => by have := hw.2 j hj; rw [b_63 j (by omega)]; exact decide_eq_true (by omega)) a2
  refine ⟨al1, a1, hFx, fun k hk i hi => ?_, fun i hi h => ?_⟩
  · have h5 := hF.le5 k hk
    by_cases q5 : i < 5
    · rw [decide_eq_true q5, Bool.true_and, hFx.2.2 k i hk q5, a2 k hk i hi]
      by_cases q6 : k ∈ os ∧ bt 63 k = true
      · rw [if_pos q6]
        have := (hw.2 k q6.1).2
        by_cases q7 : i = ch k
        · rw [decide_eq_true q7, decide_eq_true (by omega)]; rfl
        · rw [decide_eq_false q7, Bool.and_false]
      · rw [if_neg q6, Bool.and_self]
    · rw [decide_eq_false q5, Bool.false_and, a2 k hk i hi]
      by_cases q6 : k ∈ os ∧ bt 63 k = true
      · have := (hw.2 k q6.1).2
        rw [if_pos q6, decide_eq_false (by omega)]
      · rw [if_neg q6, decide_eq_false (by omega)]
  · rw [hy i hi] at h
    simp only [Bool.and_eq_true, decide_eq_true_iff] at h
    exact ⟨h.1, h.2.1⟩
theorem q_many {fu : Nat} (hfu : 200000 ≤ fu) (hR : Mb ck c1 ci c2 co kd sa sb nr) (hpp : Pg pp kd sa sb nr on) (hm : Mm os ch N sz' ord' cho) (hw : Mw os ch op N) (hF : Fo N op oc) {y : Int32} (hy : Xm y N op (Pq os ch (fun _ => true))) (al c : Nat → Int32) :
    ∃ al' c', m_X10_many fu (nI N) (nI nr) on oc ck c1 ci c2 co cho al c = some (nI (cf pp N 0 y).length, al', c') := by
  obtain ⟨al1, a1, hFx, -⟩ := al_of (by omega : 40 ≤ fu) hm hw hF hy al
  obtain ⟨d, h1, h2⟩ := q_pk0 hfu hR hpp hFx c
  have hl := cf_len6 (p := pp) (k := 0) (x := y) hF.1
  obtain ⟨d2, h3⟩ := q_many_L hfu hR hpp hFx cho (cf pp N 0 y) fu 0 d (by omega) h2
  refine ⟨al1, d2, ?_⟩
  unfold m_X10_many
  rw [a1, Option.bind_some, h1, Option.bind_some]
  rw [nI_0, Nat.zero_add] at h3
  exact h3
theorem El_0 {y : Int32} {P : Nat → Nat → Bool} (hy : Xm y N op P) : El N op 0 y := fun i hi hb => by
  rw [hy i hi] at hb
  simp only [Bool.and_eq_true, decide_eq_true_iff] at hb
  exact ⟨by omega, hb.1, hb.2.1⟩
theorem q_countX {fu : Nat} (hfu : 200000 ≤ fu) (hM : MM os ch op N sz ft ord opt sz' ord' cho) (hF : Fo N op oc) (ha : Xm all N op (fun _ _ => true)) (t0 s0 n0 : Int32) (cs cw ns nw : Nat → Int32) :
    ∃ y t1 s1 n1' cs1 cw1 ns1 nw1, m_X9_allowed fu all sz ft ord opt = some y ∧ Xm y N op (Pq os ch (fun _ => true)) ∧ m_X9_count fu (nI N) all sz ft ord opt pp t0 s0 n0 cs cw ns nw = some (nI (cf pp N 0 y).length, t1, s1, n1', cs1, cw1, ns1, nw1) := by
  obtain ⟨y, y1, hy⟩ := q_allowed (by omega : 40 ≤ fu) hM.1 hM.2.2 hF ha
  obtain ⟨nx1, cs1, cw1, ns1, nw1, h1, h2⟩ := q_draw (p := pp) hfu hF.1 (El_0 hy) t0 s0 n0 cs cw ns nw
  refine ⟨y, nI (tot pp N y N), nI (lev pp N y N).length, nx1, cs1, cw1, ns1, nw1, y1, hy, ?_⟩
  unfold m_X9_count
  rw [y1, Option.bind_some, h1, Option.bind_some, h2, Option.bind_some]
theorem q_nodesX {fu : Nat} (hfu : 200000 ≤ fu) (hM : MM os ch op N sz ft ord opt sz' ord' cho) (hF : Fo N op oc) (ha : Xm all N op (fun _ _ => true)) (t0 s0 n0 : Int32) (cs cw ns nw : Nat → Int32) :
    ∃ y t1 s1 n1' cs1 cw1 ns1 nw1, m_X9_allowed fu all sz ft ord opt = some y ∧ Xm y N op (Pq os ch (fun _ => true)) ∧ m_X9_nodes fu (nI N) all sz ft ord opt pp t0 s0 n0 cs cw ns nw = some (nI (tot pp N y N), t1, s1, n1', cs1, cw1, ns1, nw1) := by
  obtain ⟨y, y1, hy⟩ := q_allowed (by omega : 40 ≤ fu) hM.1 hM.2.2 hF ha
  obtain ⟨nx1, cs1, cw1, ns1, nw1, h1, h2⟩ := q_draw (p := pp) hfu hF.1 (El_0 hy) t0 s0 n0 cs cw ns nw
  refine ⟨y, nI (tot pp N y N), nI (lev pp N y N).length, nx1, cs1, cw1, ns1, nw1, y1, hy, ?_⟩
  unfold m_X9_nodes
  rw [y1, Option.bind_some, h1, Option.bind_some]
theorem q_nodesM {fu : Nat} (hfu : 200000 ≤ fu) (hR : Mb ck c1 ci c2 co kd sa sb nr) (hpp : Pg pp kd sa sb nr on) (hm : Mm os ch N sz' ord' cho) (hw : Mw os ch op N) (hF : Fo N op oc) {y : Int32} (hy : Xm y N op (Pq os ch (fun _ => true))) (th : Int32) (al now nx : Nat → Int32) :
    ∃ al1 now1 nx1, m_X10_nodes fu th (nI N) (nI nr) on oc ck c1 ci c2 co cho al now nx = some (nI (tot pp N y N), 0, al1, now1, nx1) := by
  obtain ⟨al1, a1, -, hl⟩ := al_of (by omega : 40 ≤ fu) hm hw hF hy al
  obtain ⟨now1, nx1, h1⟩ := q_nodesR (p := pp) (cho := cho) hfu hR hpp hF (th := 0) hl now nx
  refine ⟨al1, now1, nx1, ?_⟩
  unfold m_X10_nodes
  rw [a1, Option.bind_some]
  exact h1
theorem q_tryX {fu : Nat} (hfu : 200000 ≤ fu) (hR : Rb kd sa sb nr) (hn : RN sa sb nr N) (hB : XB kd sa sb nr xk xs xo) (hpp : Pg pp kd sa sb nr on) (hN : N ≤ 6) (y : Int32) :
    m_X9_tryFrom 7 fu (nI nr) on xk xs xo (nI N) 0 y 0 = some (nI (cf pp N 0 y).length) := by
  have := q_try (by omega : 40 ≤ fu) hR hn hB hpp (x := y) hN N 0 7 (fun _ => 0) 0 (by omega) (by omega) (fun j hj => absurd hj (Nat.not_lt_zero j)) (fun i hi => by rw [b_0]; simp)
  rw [nI_0] at this
  exact this
theorem cf_cons {y : Int32} (h : ex pp N 0 y = true) : ∃ a l, cf pp N 0 y = a :: l := by
  unfold ex at h
  cases hc : cf pp N 0 y with
  | nil => rw [hc] at h; cases h
  | cons a l => exact ⟨a, l, rfl⟩
end RD
