/-! force: the two sides -/
theorem Pq_app {os : List Nat} {ch : Nat → Nat} {f a j v : Nat} : Pq (os ++ [f]) (pt ch f a) (fun _ => true) j v = if j = f then decide (v = a) else Pq os ch (fun _ => true) j v := by
  unfold Pq pt
  by_cases q : j = f
  · rw [if_pos ⟨by rw [q]; simp, rfl⟩, if_pos q, if_pos q]
  · rw [if_neg q, if_neg q]
    by_cases q2 : j ∈ os
    · rw [if_pos ⟨List.mem_append_left _ q2, rfl⟩, if_pos ⟨q2, rfl⟩]
    · rw [if_neg (fun h => (List.mem_append.mp h.1).elim q2 (fun h => q (List.mem_singleton.mp h))), if_neg (fun h => q2 h.1)]
section FO
variable {os : List Nat} {ch op : Nat → Nat} {N : Nat} {sz ft sz' all : Int32} {ord opt ord' cho oc : Nat → Int32} {ck c1 ci c2 co : Nat → Int32} {kd sa sb : Nat → Nat} {nr : Nat} {xk xs xo : Nat → Int32}
/-- some configuration keeps the rules and the choices -/
def Ps (N : Nat) (op : Nat → Nat) (os : List Nat) (ch : Nat → Nat) (kd sa sb : Nat → Nat) (nr : Nat) (on : Int32) : Prop := ∀ p y, Pg p kd sa sb nr on → Xm y N op (Pq os ch (fun _ => true)) → ex p N 0 y = true
theorem idx_of {i : Nat} : ∀ {os : List Nat}, i ∈ os → ∃ k, k < os.length ∧ os.getD k 0 = i
  | [], h => by cases h
  | a :: l, h => by
    rcases List.mem_cons.mp h with h | h
    · exact ⟨0, by simp, by rw [h]; rfl⟩
    · obtain ⟨k, h1, h2⟩ := idx_of h
      exact ⟨k + 1, by simpa using h1, by rw [List.getD_cons_succ]; exact h2⟩
theorem q_force_L {fu : Nat} (hfu : 200000 ≤ fu) (hR : Mb ck c1 ci c2 co kd sa sb nr) (hB : XB kd sa sb nr xk xs xo) (hF : Fo N op oc) (ha : Xm all N op (fun _ _ => true)) {f a : Nat} (hf : f < N) (hao : a < op f) {on : Int32} {pp cx : Nat → Int32} (th : Int32)
    (h0 : ∀ p y, Pg p kd sa sb nr on → Xm y N op (fun j v => if j = f then decide (v = a) else true) → ex p N 0 y = true) : ∀ (L : Nat) (os : List Nat) (i cnt n n' : Nat) (sz ft : Int32) (ord : Nat → Int32) (sz' : Int32) (ord' cho : Nat → Int32) (er ec wr wc : Int32) (kept al c : Nat → Int32), os.length = L → ¬ f ∈ os → i + L ≤ 5 → L < n → L < n' → cnt + L < 2000 → MM os ch op N sz ft ord opt sz' ord' cho →
    ∃ (os1 : List Nat) (ch1 : Nat → Nat) (cnt1 sz1 ft1 : Int32) (ord1 opt1 : Nat → Int32) (er1 ec1 : Int32) (kept1 ord1' cho1 : Nat → Int32) (wr1 wc1 : Int32) (al1 d1 : Nat → Int32),
      m_X9_force_L78 fu (nI f) (nI a) (nI N) all cx (nI nr) on xk xs xo pp n (nI (cnt + L)) (nI i) sz ft ord opt er ec kept = some (none, cnt1, sz1, ft1, ord1, opt1, er1, ec1, kept1) ∧
      m_X10_force_L75 fu (nI f) (nI a) (nI N) (nI nr) on oc ck c1 ci c2 co n' (nI cnt) th sz' wr wc ord' cho al c = some (cnt1, th, sz1, wr1, wc1, ord1', cho1, al1, d1) ∧
      MM os1 ch1 op N sz1 ft1 ord1 opt1 sz1 ord1' cho1 ∧ Ps N op os1 ch1 kd sa sb nr on := by
  have hN := hF.1
  have h5 := hF.le5 f hf
  intro L
  induction L using Nat.strongRecOn with
  | ind L ih =>
    intro os i cnt n n' sz ft ord sz' ord' cho er ec wr wc kept al c hL hn hi hn1 hn2 hc hM
    obtain ⟨n, rfl⟩ : ∃ k, n = k + 1 := ⟨n - 1, by omega⟩
    obtain ⟨n', rfl⟩ : ∃ k, n' = k + 1 := ⟨n' - 1, by omega⟩
    have h6 : ∀ j, j ∈ os → j < 6 := fun j hj => by have := (hM.2.2.2 j hj).1; omega
    obtain ⟨b, R, C, kept', al', c', e1, e2, e3, e4⟩ := q_explain hfu hR hB hM.1 hM.2.1 hM.2.2 hF ha hf hao on er ec wr wc kept al c
    rw [show m_X9_force_L78 fu (nI f) (nI a) (nI N) all cx (nI nr) on xk xs xo pp (n + 1) (nI (cnt + L)) (nI i) sz ft ord opt er ec kept = m_X9_force_L78_b fu (nI f) (nI a) (nI N) all cx (nI nr) on xk xs xo pp (m_X9_force_L78 fu (nI f) (nI a) (nI N) all cx (nI nr) on xk xs xo pp n) (nI (cnt + L)) (nI i) sz ft ord opt er ec kept from rfl]
    rw [show m_X10_force_L75 fu (nI f) (nI a) (nI N) (nI nr) on oc ck c1 ci c2 co (n' + 1) (nI cnt) th sz' wr wc ord' cho al c = m_X10_force_L75_b fu (nI f) (nI a) (nI N) (nI nr) on oc ck c1 ci c2 co (m_X10_force_L75 fu (nI f) (nI a) (nI N) (nI nr) on oc ck c1 ci c2 co n') (nI cnt) th sz' wr wc ord' cho al c from rfl]
    unfold m_X9_force_L78_b m_X10_force_L75_b
    rw [if_neg (show ¬ (6 : Int32) ≤ nI i from fun h => by have := (nle (a := 6) (b := i) (by omega) (by omega)).mp h; omega), e1, e2, Option.bind_some, Option.bind_some]
    cases b with
    | false =>
      obtain ⟨sz1, ft1, ord1, opt1, ord1', cho1, a1, a2, a3, a4⟩ := q_add hF hM hf hn hao
      rw [if_pos bI_f, if_pos bI_f, a1, a2, Option.bind_some, Option.bind_some]
      refine ⟨os ++ [f], pt ch f a, nI cnt, sz1, ft1, ord1, opt1, R, C, kept', ord1', cho1, R, C, al', c', ?_, rfl, a4, fun p y hp hy => ?_⟩
      · have : nI (cnt + L) - sz = nI cnt := by
          rw [hM.1.1, hL, ← nI_add, Int32.add_sub_cancel]
        rw [this]
      · refine e3 rfl p y hp (hy.to (fun j v hj hv => ?_))
        rw [Pq_app]
        rfl
    | true =>
      obtain ⟨g1, g2, g3⟩ := e4 rfl
      have hCf : bt C f = false := by
        cases h : bt C f with
        | false => rfl
        | true => exact absurd rfl (g1 f (by omega) h).2
      have hne : ∃ j, j < os.length ∧ bt C (os.getD j 0) = true := by
        refine Classical.byContradiction (fun hno => ?_)
        have hC0 : ∀ i, i < 32 → bt C i = false := fun i hi => by
          cases h : bt C i with
          | false => rfl
          | true =>
            obtain ⟨k, k1, k2⟩ := idx_of (g1 i hi h).1
            exact absurd ⟨k, k1, by rw [k2]; exact h⟩ hno
        obtain ⟨p1, -, k2⟩ := q_keepOnly (by omega : 40 ≤ fu) (fun _ => 0) R hR.1 hB.1 hB.2.1 hB.2.2
        obtain ⟨p2, -, k4⟩ := q_keepOnly (by omega : 40 ≤ fu) (fun _ => 0) on hR.1 hB.1 hB.2.1 hB.2.2
        have y2 := Xm_on1 hF ha hf hao
        have r1 := h0 p2 _ k4 y2
        have r2 := g3 p1 _ k2 (y2.to (fun j v hj hv => by
          unfold Hp
          by_cases q : j = f
          · rw [if_pos q, if_pos q]
          · rw [if_neg q, if_neg q]
            unfold Pq
            rw [if_neg (fun h => by rw [hC0 j (by omega)] at h; exact absurd h.2 (by decide))]))
        have r3 := ex_mono hN k4 k2 (fun r hr h => g2 r (by have := hR.1.1; omega) h) (fun _ _ h => h) r1
        rw [r2] at r3
        cases r3
      obtain ⟨d, d1, d2, d3⟩ := laN_in (C := C) (Nat.le_refl os.length) hne
      have hd6 := h6 d d1
      have hdf := (g1 d (by omega) d2).2
      have hlen := hM.2.2.len
      obtain ⟨sz1, ft1, ord1, ord1', cho1, a1, a2, a3⟩ := q_rem (by omega : 40 ≤ fu) hF hM hd6 d1
      have hwl := wo_len1 hM.2.2.1 d1
      rw [if_neg (show ¬ bI true = 0 by decide), if_neg (show ¬ bI true = 0 by decide), q_latX (by omega) hM.1 h6 (by omega), q_latM (by omega) hM.2.1 h6 (by omega), d3, Option.bind_some, Option.bind_some, a1, a2, Option.bind_some, Option.bind_some, n1, n1]
      have := ih (L - 1) (by omega) (wo d os) (i + 1) (cnt + 1) n n' sz1 ft1 ord1 sz1 ord1' cho1 R C R C kept' al' c' (by omega) (fun h => hn (mem_wo.mp h).1) (by omega) (by omega) (by omega) (by omega) a3
      rw [show cnt + 1 + (L - 1) = cnt + L by omega] at this
      exact this
theorem q_force {fu : Nat} (hfu : 200000 ≤ fu) (hR : Mb ck c1 ci c2 co kd sa sb nr) (hB : XB kd sa sb nr xk xs xo) (hF : Fo N op oc) {cx : Nat → Int32} (hFx : Fo N op cx) (ha : Xm all N op (fun _ _ => true)) {f a : Nat} (hf : f < N) (hao : a < op f) {on : Int32} {pp : Nat → Int32} (hpp : Pg pp kd sa sb nr on) (hM : MM os ch op N sz ft ord opt sz' ord' cho) (hPs : Ps N op os ch kd sa sb nr on) (th er ec wr wc : Int32) (kept al c : Nat → Int32)
    (hX9 : m_X9_checkOption (nI N) cx (nI f) (nI a) = some (none, 0)) (hX10 : m_X10_isOption (nI N) oc (nI f) (nI a) = some 1) :
    (∃ al1 d1, m_X9_force fu (nI N) all cx (nI nr) on xk xs xo sz ft ord opt pp er ec kept (nI f) (nI a) = some (some "java/lang/IllegalStateException", 0, sz, ft, ord, opt, er, ec, kept) ∧
      m_X10_force fu th (nI N) (nI nr) on sz' wr wc oc ck c1 ci c2 co ord' cho al c (nI f) (nI a) = some (0, 2, sz', wr, wc, ord', cho, al1, d1)) ∨
    (∃ (os1 : List Nat) (ch1 : Nat → Nat) (cnt1 sz1 ft1 : Int32) (ord1 opt1 : Nat → Int32) (er1 ec1 : Int32) (kept1 ord1' cho1 : Nat → Int32) (wr1 wc1 : Int32) (al1 d1 : Nat → Int32),
      m_X9_force fu (nI N) all cx (nI nr) on xk xs xo sz ft ord opt pp er ec kept (nI f) (nI a) = some (none, cnt1, sz1, ft1, ord1, opt1, er1, ec1, kept1) ∧
      m_X10_force fu th (nI N) (nI nr) on sz' wr wc oc ck c1 ci c2 co ord' cho al c (nI f) (nI a) = some (cnt1, 0, sz1, wr1, wc1, ord1', cho1, al1, d1) ∧
      MM os1 ch1 op N sz1 ft1 ord1 opt1 sz1 ord1' cho1 ∧ Ps N op os1 ch1 kd sa sb nr on) := by
  have hN := hF.1
  have h5 := hF.le5 f hf
  have y2 := Xm_on1 hF ha hf hao
  have y3 : Xm (on1 all f a) N op (Hp os ch f a (fun _ => false)) := y2.to (fun j v _ _ => by
    unfold Hp
    by_cases q : j = f
    · rw [if_pos q, if_pos q]
    · rw [if_neg q, if_neg q]
      unfold Pq
      rw [if_neg (fun h => Bool.noConfusion h.2)])
  obtain ⟨al1, d1, h1⟩ := q_has hfu hR hpp hM.2.1 hM.2.2 hF hf (by omega) (C := 0) (t := fun _ => false) (fun j _ _ => b_0 j) y3 al c
  unfold m_X9_force m_X10_force
  rw [hX9, hX10, Option.bind_some, Option.bind_some, if_pos (show ((none : Option String), (0 : Int32)).1 = none from rfl), if_neg (show ¬ (1 : Int32) = 0 by decide), q_only, Option.bind_some, q_leaveSome (by omega) pp hN, h1, Option.bind_some, Option.bind_some]
  cases he : ex pp N 0 (on1 all f a) with
  | false =>
    rw [if_pos bI_f, if_pos bI_f]
    exact Or.inl ⟨al1, d1, rfl, rfl⟩
  | true =>
    right
    have h0 : ∀ p y, Pg p kd sa sb nr on → Xm y N op (fun j v => if j = f then decide (v = a) else true) → ex p N 0 y = true := fun p y hp hy => by
      rw [hy.eq y2 (fun _ _ _ _ => rfl), ex_same hN hp hpp]; exact he
    rw [if_neg (show ¬ bI true = 0 by decide), if_neg (show ¬ bI true = 0 by decide), q_optOf hM.1 (by omega), Option.bind_some, if_neg (nI_in2 (by omega) (by omega)), nI_cl (by omega), hM.2.1.2.2 f hf]
    have hlen := hM.2.2.len
    have na : ¬ (-1 : Int32) = nI a := fun h => by have := nneg (a := a) (by omega); rw [← h] at this; exact this (by decide)
    by_cases q : f ∈ os
    · rw [if_pos q]
      have hch := (hM.2.2.2 f q).2
      have nc : ¬ nI (ch f) = (-1 : Int32) := fun h => by have := nneg (a := ch f) (by omega); rw [h] at this; exact this (by decide)
      by_cases q2 : nI (ch f) = nI a
      · rw [if_pos q2, if_pos q2]
        exact ⟨os, ch, 0, sz, ft, ord, opt, er, ec, kept, ord', cho, wr, wc, al1, d1, rfl, by rw [hM.2.1.1, ← hM.1.1], by
          have e : sz = sz' := hM.1.1.trans hM.2.1.1.symm
          exact ⟨hM.1, by rw [e]; exact hM.2.1, hM.2.2⟩, hPs⟩
      · rw [if_neg q2, if_neg q2, if_neg nc]
        have hwl := wo_len1 hM.2.2.1 q
        obtain ⟨sz1, ft1, ord1, ord1', cho1, a1, a2, a3⟩ := q_rem (by omega : 40 ≤ fu) hF hM (show f < 6 by omega) q
        rw [a1, a2, Option.bind_some, Option.bind_some]
        have := q_force_L hfu hR hB hF ha hf hao (pp := pp) (cx := cx) 0 h0 (wo f os).length (wo f os) 0 1 fu fu sz1 ft1 ord1 sz1 ord1' cho1 er ec wr wc kept al1 d1 rfl (fun h => (mem_wo.mp h).2 rfl) (by omega) (by omega) (by omega) (by omega) a3
        rw [show 1 + (wo f os).length = os.length by omega, ← hM.1.1, nI_0, ← nI_1 0, nI_0] at this
        exact this
    · rw [if_neg q, if_neg na, if_neg na, if_pos rfl]
      have hrem : m_X0_remove fu sz ft ord (nI f) = some (0, sz, ft, ord) := by
        unfold m_X0_remove
        rw [q_hasC hM.1 (by omega), Option.bind_some, decide_eq_false q, if_pos bI_f]
      rw [hrem, Option.bind_some]
      have hlt := hM.lt hf q
      have := q_force_L hfu hR hB hF ha hf hao (pp := pp) (cx := cx) 0 h0 os.length os 0 0 fu fu sz ft ord sz' ord' cho er ec wr wc kept al1 d1 rfl q (by omega) (by omega) (by omega) (by omega) hM
      rw [Nat.zero_add, ← hM.1.1, nI_0] at this
      exact this
end FO
