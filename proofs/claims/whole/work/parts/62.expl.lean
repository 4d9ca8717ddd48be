/-! explanations: the two sides -/
theorem cuts_mono {kd sa sb : Nat → Nat} {S S' : Int32} : ∀ {n i j : Nat}, (∀ r, r < n → bt S' r = true → bt S r = true) → cuts kd sa sb S' n i j = true → cuts kd sa sb S n i j = true
  | 0, _, _, _, h => h
  | n + 1, i, j, hS, h => by
    rw [cuts, Bool.or_eq_true, Bool.and_eq_true] at h ⊢
    rcases h with h | ⟨h1, h2⟩
    · exact Or.inl (cuts_mono (fun r hr => hS r (by omega)) h)
    · exact Or.inr ⟨hS n (by omega) h1, h2⟩
theorem cf_mono {kd sa sb : Nat → Nat} {nr N : Nat} {S S' y y' : Int32} {p p' : Nat → Int32} (hN : N ≤ 6) (hp : Pg p kd sa sb nr S) (hp' : Pg p' kd sa sb nr S') (hS : ∀ r, r < nr → bt S' r = true → bt S r = true) (hy : ∀ i, i < 32 → bt y i = true → bt y' i = true) {c : List Nat} (hc : c ∈ cf p N 0 y) : c ∈ cf p' N 0 y' := by
  obtain ⟨h1, h2, h3⟩ := mem_cf.mp hc
  refine mem_cf.mpr ⟨h1, fun j hj => ⟨(h2 j hj).1, ?_⟩, fun i j hij hj => ?_⟩
  · have := h2 j hj
    exact hy _ (by omega) this.2
  · have := h3 i j hij hj
    have h5 := (h2 i (by omega)).1
    have h6 := (h2 j hj).1
    simp only [Nat.zero_add] at this ⊢
    rw [hp.at (by omega) (by omega) h5 h6 (by omega)] at this
    rw [hp'.at (by omega) (by omega) h5 h6 (by omega)]
    cases hcu : cuts kd sa sb S' nr (5 * i + c.getD i 0) (5 * j + c.getD j 0) with
    | false => rfl
    | true => rw [cuts_mono hS hcu] at this; cases this
theorem ex_mono {kd sa sb : Nat → Nat} {nr N : Nat} {S S' y y' : Int32} {p p' : Nat → Int32} (hN : N ≤ 6) (hp : Pg p kd sa sb nr S) (hp' : Pg p' kd sa sb nr S') (hS : ∀ r, r < nr → bt S' r = true → bt S r = true) (hy : ∀ i, i < 32 → bt y i = true → bt y' i = true) (h : ex p N 0 y = true) : ex p' N 0 y' = true := by
  obtain ⟨c, hc⟩ := ex_iff.mp h
  exact ex_iff.mpr ⟨c, cf_mono hN hp hp' hS hy hc⟩
theorem ex_same {kd sa sb : Nat → Nat} {nr N : Nat} {S y : Int32} {p p' : Nat → Int32} (hN : N ≤ 6) (hp : Pg p kd sa sb nr S) (hp' : Pg p' kd sa sb nr S) : ex p N 0 y = ex p' N 0 y := Bool.eq_iff_iff.mpr ⟨fun h => ex_mono hN hp hp' (fun _ _ h => h) (fun _ _ h => h) h, fun h => ex_mono hN hp' hp (fun _ _ h => h) (fun _ _ h => h) h⟩
theorem Xm.to {x : Int32} {N : Nat} {op : Nat → Nat} {P Q : Nat → Nat → Bool} (h : Xm x N op P) (e : ∀ j v, j < N → v < op j → P j v = Q j v) : Xm x N op Q := fun i hi => by
  rw [h i hi]
  by_cases q : i < 5 * N
  · by_cases q2 : i % 5 < op (i / 5)
    · rw [e _ _ (by omega) q2]
    · rw [decide_eq_false q2]; simp
  · rw [decide_eq_false q]; simp
theorem b_drop {C : Int32} {f i : Nat} (hf : f < 32) (hi : i < 32) : bt (C &&& (((1 : Int32) <<< (nI f &&& 31)) ^^^ (-1 : Int32))) i = (bt C i && !decide (i = f)) := by
  rw [b_and, b_not _ hi, b_p hf hi]
theorem m1_0 : nI 0 + (-1 : Int32) = -1 := by decide
section EX
variable {os : List Nat} {ch op : Nat → Nat} {N : Nat} {sz ft sz' all : Int32} {ord opt ord' cho oc : Nat → Int32}
theorem Xm_on1 (hF : Fo N op oc) (ha : Xm all N op (fun _ _ => true)) {f a : Nat} (hf : f < N) (hao : a < op f) : Xm (on1 all f a) N op (fun j v => if j = f then decide (v = a) else true) := by
  have hN := hF.1
  have h5 := hF.le5 f hf
  intro i hi
  rw [b_on1 all (by omega) (by omega) hi]
  by_cases q : i / 5 = f
  · rw [if_pos (by omega), decide_eq_true (show i < 5 * N by omega), Bool.true_and]
    show _ = (decide (i % 5 < op (i / 5)) && if i / 5 = f then decide (i % 5 = a) else true)
    rw [if_pos q, q]
    by_cases q2 : i % 5 = a
    · rw [q2, decide_eq_true hao, decide_eq_true (by omega), decide_eq_true rfl]; rfl
    · rw [decide_eq_false q2, decide_eq_false (by omega), Bool.and_false]
  · rw [if_neg (by omega), ha i hi]
    show _ = (decide (i < 5 * N) && (decide (i % 5 < op (i / 5)) && if i / 5 = f then decide (i % 5 = a) else true))
    rw [if_neg q]
theorem q_enw {fu : Nat} (hfu : 40 ≤ fu) (hX : Mx os ch sz ft ord opt) (hw : Mw os ch op N) (hF : Fo N op oc) (ha : Xm all N op (fun _ _ => true)) {f a : Nat} (hf : f < N) (hao : a < op f) {C : Int32} (hC : bt C f = false) :
    ∃ y, m_X0_narrow fu sz ord opt (on1 all f a) C = some y ∧ Xm y N op (Hp os ch f a (bt C)) := by
  have hl := hw.len
  have hN := hF.1
  obtain ⟨y, h1, h2⟩ := q_narrow hfu hX (hw.h6 hF) (by omega) (on1 all f a) C
  refine ⟨y, h1, (Xm_nw hN hF.le5 hw (Xm_on1 hF ha hf hao) (fun j v _ ht => ?_) h2).to (fun j v hj hv => ?_)⟩
  · show (if j = f then decide (v = a) else true) = true
    rw [if_neg (fun e => by rw [e, hC] at ht; cases ht)]
  · show ((if j = f then decide (v = a) else true) && Pq os ch (bt C) j v) = Hp os ch f a (bt C) j v
    unfold Hp
    by_cases q : j = f
    · rw [if_pos q, if_pos q]
      unfold Pq
      rw [if_neg (fun h => by rw [q, hC] at h; exact absurd h.2 (by decide)), Bool.and_true]
    · rw [if_neg q, if_neg q, Bool.true_and]
variable {ck c1 ci c2 co : Nat → Int32} {kd sa sb : Nat → Nat} {nr : Nat} {xk xs xo : Nat → Int32}
def XB (kd sa sb : Nat → Nat) (nr : Nat) (xk xs xo : Nat → Int32) : Prop := Ar xk kd nr ∧ Ar xs sa nr ∧ Ar xo sb nr
theorem q_outR {fu : Nat} (hfu : 200000 ≤ fu) (hM : Mb ck c1 ci c2 co kd sa sb nr) (hB : XB kd sa sb nr xk xs xo) (hm : Mm os ch N sz' ord' cho) (hw : Mw os ch op N) (hF : Fo N op oc) {f a : Nat} (hf : f < N) (hao : a < 5) {C y on nc : Int32} {t : Nat → Bool} (hC : ∀ j, j ∈ os → ¬ j = f → bt C j = t j) (hy : Xm y N op (Hp os ch f a t)) : ∀ (r n n' : Nat) (R : Int32) (kept al c : Nat → Int32), r ≤ nr → r < n → r < n' → (∀ i, i < 32 → bt R i = true → bt on i = true) → (∀ p, Pg p kd sa sb nr R → ex p N 0 y = false) →
    ∃ R' kept' al' c', m_X3_leaveOutRules_L8 fu (nI N) y (nI nr) xk xs xo n (nI r + (-1)) R kept = some (0, R', kept') ∧ Pg kept' kd sa sb nr R' ∧ (∀ i, i < 32 → bt R' i = true → bt on i = true) ∧ ex kept' N 0 y = false ∧
      m_X10_explains_L86 fu (nI f) (nI a) (nI N) (nI nr) on nc oc ck c1 ci c2 co ord' cho n' (nI r + (-1)) R C al c = m_X10_explains_L152 fu (nI f) (nI a) (nI N) (nI nr) on nc oc ck c1 ci c2 co ord' cho fu (nc - (1 : Int32)) R' C al' c' := by
  have hN := hF.1
  have hn20 := hM.1.1
  intro r
  induction r with
  | zero =>
    intro n n' R kept al c _ hn hn' hR hno
    obtain ⟨n, rfl⟩ : ∃ k, n = k + 1 := ⟨n - 1, by omega⟩
    obtain ⟨n', rfl⟩ : ∃ k, n' = k + 1 := ⟨n' - 1, by omega⟩
    obtain ⟨p', h1, h2⟩ := q_keepOnly (by omega : 40 ≤ fu) kept R hM.1 hB.1 hB.2.1 hB.2.2
    refine ⟨R, p', al, c, ?_, h2, hR, hno p' h2, ?_⟩
    · show m_X3_leaveOutRules_L8_b fu (nI N) y (nI nr) xk xs xo (m_X3_leaveOutRules_L8 fu (nI N) y (nI nr) xk xs xo n) _ R kept = _
      unfold m_X3_leaveOutRules_L8_b
      rw [m1_0, if_pos (by decide), h1]
      rfl
    · show m_X10_explains_L86_b fu (nI f) (nI a) (nI N) (nI nr) on nc oc ck c1 ci c2 co ord' cho (m_X10_explains_L86 fu (nI f) (nI a) (nI N) (nI nr) on nc oc ck c1 ci c2 co ord' cho n') _ R C al c = _
      unfold m_X10_explains_L86_b
      rw [m1_0, if_pos (by decide)]
  | succ r ih =>
    intro n n' R kept al c hr hn hn' hR hno
    obtain ⟨n, rfl⟩ : ∃ k, n = k + 1 := ⟨n - 1, by omega⟩
    obtain ⟨n', rfl⟩ : ∃ k, n' = k + 1 := ⟨n' - 1, by omega⟩
    rw [show nI (r + 1) + (-1 : Int32) = nI r from pk_m1 r]
    show ∃ R' kept' al' c', m_X3_leaveOutRules_L8_b fu (nI N) y (nI nr) xk xs xo (m_X3_leaveOutRules_L8 fu (nI N) y (nI nr) xk xs xo n) (nI r) R kept = _ ∧ _ ∧ _ ∧ _ ∧ m_X10_explains_L86_b fu (nI f) (nI a) (nI N) (nI nr) on nc oc ck c1 ci c2 co ord' cho (m_X10_explains_L86 fu (nI f) (nI a) (nI N) (nI nr) on nc oc ck c1 ci c2 co ord' cho n') (nI r) R C al c = _
    unfold m_X3_leaveOutRules_L8_b m_X10_explains_L86_b
    rw [if_neg (show ¬ nI r < (0 : Int32) from nneg (by omega)), if_neg (show ¬ nI r < (0 : Int32) from nneg (by omega)), q_holds R (by omega), Option.bind_some]
    cases hb : bt R r with
    | false =>
      rw [if_pos bI_f, if_neg (fun h => by rw [(holdsO R (by omega)).mp h] at hb; cases hb)]
      exact ih n n' R kept al c (by omega) (by omega) (by omega) hR hno
    | true =>
      rw [if_neg (show ¬ bI true = 0 by decide), if_pos ((holdsO R (by omega)).mpr hb)]
      obtain ⟨p', h1, h2⟩ := q_keepOnly (by omega : 40 ≤ fu) kept (R &&& (((1 : Int32) <<< (nI r &&& 31)) ^^^ (-1 : Int32))) hM.1 hB.1 hB.2.1 hB.2.2
      obtain ⟨al1, c1', h3⟩ := q_has hfu hM h2 hm hw hF hf hao hC hy al c
      rw [h1, Option.bind_some, q_leaveSome (by omega) p' hN, Option.bind_some, h3, Option.bind_some]
      cases he : ex p' N 0 y with
      | false =>
        rw [if_pos bI_f, if_pos bI_f]
        refine ih n n' _ p' al1 c1' (by omega) (by omega) (by omega) (fun i hi h => ?_) (fun p hp => ?_)
        · rw [b_drop (by omega) hi, Bool.and_eq_true] at h
          exact hR i hi h.1
        · rw [ex_same hN hp h2]; exact he
      | true =>
        rw [if_neg (show ¬ bI true = 0 by decide), if_neg (show ¬ bI true = 0 by decide)]
        exact ih n n' R p' al1 c1' (by omega) (by omega) (by omega) hR hno
theorem getD_take {os : List Nat} {k : Nat} (h : k < os.length) : os.take (k + 1) = os.take k ++ [os.getD k 0] := by
  rw [List.take_succ, List.getElem?_eq_getElem h, List.getD_eq_getElem?_getD, List.getElem?_eq_getElem h]
  rfl
theorem q_outC {fu : Nat} (hfu : 200000 ≤ fu) (hM : Mb ck c1 ci c2 co kd sa sb nr) (hX : Mx os ch sz ft ord opt) (hm : Mm os ch N sz' ord' cho) (hw : Mw os ch op N) (hF : Fo N op oc) (ha : Xm all N op (fun _ _ => true)) {f a : Nat} (hf : f < N) (hao : a < op f) {on nc R : Int32} {kept : Nat → Int32} (hk : Pg kept kd sa sb nr R) : ∀ (k n n' : Nat) (C : Int32) (al c : Nat → Int32), k ≤ os.length → k < n → k < n' → (∀ i, i < 32 → bt C i = true → i ∈ os ∧ ¬ i = f) → (∀ y, Xm y N op (Hp os ch f a (bt C)) → ex kept N 0 y = false) →
    ∃ C' al' c', m_X3_leaveOutChoices_L8 fu (nI N) (on1 all f a) kept sz ord opt n (nI k + (-1)) C = some (0, C') ∧
      m_X10_explains_L152 fu (nI f) (nI a) (nI N) (nI nr) on nc oc ck c1 ci c2 co ord' cho n' (nI k + (-1)) R C al c = some (1, R, C', al', c') ∧ (∀ i, i < 32 → bt C' i = true → i ∈ os ∧ ¬ i = f) ∧ ∀ y, Xm y N op (Hp os ch f a (bt C')) → ex kept N 0 y = false := by
  have hN := hF.1
  have hlen := hw.len
  have h5 := hF.le5 f hf
  intro k
  induction k with
  | zero =>
    intro n n' C al c _ hn hn' hC hno
    obtain ⟨n, rfl⟩ : ∃ k, n = k + 1 := ⟨n - 1, by omega⟩
    obtain ⟨n', rfl⟩ : ∃ k, n' = k + 1 := ⟨n' - 1, by omega⟩
    refine ⟨C, al, c, ?_, ?_, hC, hno⟩
    · show m_X3_leaveOutChoices_L8_b fu (nI N) (on1 all f a) kept sz ord opt (m_X3_leaveOutChoices_L8 fu (nI N) (on1 all f a) kept sz ord opt n) _ C = _
      unfold m_X3_leaveOutChoices_L8_b
      rw [m1_0, if_pos (by decide)]
    · show m_X10_explains_L152_b fu (nI f) (nI a) (nI N) (nI nr) on nc oc ck c1 ci c2 co ord' cho (m_X10_explains_L152 fu (nI f) (nI a) (nI N) (nI nr) on nc oc ck c1 ci c2 co ord' cho n') _ R C al c = _
      unfold m_X10_explains_L152_b
      rw [m1_0, if_pos (by decide)]
  | succ k ih =>
    intro n n' C al c hk2 hn hn' hC hno
    obtain ⟨n, rfl⟩ : ∃ k, n = k + 1 := ⟨n - 1, by omega⟩
    obtain ⟨n', rfl⟩ : ∃ k, n' = k + 1 := ⟨n' - 1, by omega⟩
    have hmem := getD_mem (os := os) (k := k) (by omega)
    have hd6 := (hw.h6 hF _ hmem).1
    have hCf : bt C f = false := by
      cases h : bt C f with
      | false => rfl
      | true => exact absurd rfl (hC f (by omega) h).2
    rw [show nI (k + 1) + (-1 : Int32) = nI k from pk_m1 k]
    show ∃ C' al' c', m_X3_leaveOutChoices_L8_b fu (nI N) (on1 all f a) kept sz ord opt (m_X3_leaveOutChoices_L8 fu (nI N) (on1 all f a) kept sz ord opt n) (nI k) C = _ ∧ m_X10_explains_L152_b fu (nI f) (nI a) (nI N) (nI nr) on nc oc ck c1 ci c2 co ord' cho (m_X10_explains_L152 fu (nI f) (nI a) (nI N) (nI nr) on nc oc ck c1 ci c2 co ord' cho n') (nI k) R C al c = _ ∧ _
    unfold m_X3_leaveOutChoices_L8_b m_X10_explains_L152_b
    rw [if_neg (show ¬ nI k < (0 : Int32) from nneg (by omega)), if_neg (show ¬ nI k < (0 : Int32) from nneg (by omega)), if_neg (nI_in2 (by omega) (by omega)), if_neg (nI_in2 (by omega) (by omega)), nI_cl (by omega), hX.2.1 k (by omega), hm.2.1 k (by omega)]
    generalize os.getD k 0 = d at hmem hd6
    have hb : ∀ i, i < 32 → bt (C &&& (((1 : Int32) <<< (nI d &&& 31)) ^^^ (-1 : Int32))) i = (bt C i && !decide (i = d)) := fun i hi => b_drop (by omega) hi
    generalize C &&& (((1 : Int32) <<< (nI d &&& 31)) ^^^ (-1 : Int32)) = W at hb
    obtain ⟨y, h1, h2⟩ := q_enw (by omega : 40 ≤ fu) hX hw hF ha hf hao (C := W) (by rw [hb _ (by omega), hCf]; rfl)
    obtain ⟨al1, c1', h3⟩ := q_has hfu hM hk hm hw hF hf (by omega) (C := W) (fun j _ _ => rfl) h2 al c
    rw [h1, Option.bind_some, q_leaveSome (by omega) kept hN, Option.bind_some, h3, Option.bind_some]
    cases he : ex kept N 0 y with
    | false =>
      rw [if_pos bI_f, if_pos bI_f]
      refine ih n n' W al1 c1' (by omega) (by omega) (by omega) (fun i hi h => ?_) (fun y' hy' => ?_)
      · rw [hb i hi, Bool.and_eq_true] at h
        exact hC i hi h.1
      · rw [← he]
        congr 1
        exact hy'.eq h2 (fun _ _ _ _ => rfl)
    | true =>
      rw [if_neg (show ¬ bI true = 0 by decide), if_neg (show ¬ bI true = 0 by decide)]
      exact ih n n' C al1 c1' (by omega) (by omega) (by omega) hC hno
theorem q_wc_L {fu : Nat} (hm : Mm os ch N sz' ord' cho) (hw : Mw os ch op N) (hF : Fo N op oc) {f : Nat} (hf : f < N) (A on R : Int32) (al c : Nat → Int32) : ∀ (m i n : Nat) (W : Int32), i + m = os.length → m < n → (∀ j, j < 32 → bt W j = (decide (j ∈ os.take i) && !decide (j = f))) →
    ∃ W' n', (∀ j, j < 32 → bt W' j = (decide (j ∈ os) && !decide (j = f))) ∧ m_X10_explains_L15 fu (nI f) A (nI N) (nI nr) on sz' oc ck c1 ci c2 co ord' cho n (nI i) R W al c = m_X10_explains_L15 fu (nI f) A (nI N) (nI nr) on sz' oc ck c1 ci c2 co ord' cho (n' + 1) (nI os.length) R W' al c := by
  have hN := hF.1
  have hlen := hw.len
  obtain ⟨rfl, ho, -⟩ := hm
  intro m
  induction m with
  | zero =>
    intro i n W him hn hW
    obtain ⟨n, rfl⟩ : ∃ k, n = k + 1 := ⟨n - 1, by omega⟩
    refine ⟨W, n, fun j hj => ?_, by rw [show i = os.length by omega]⟩
    rw [hW j hj, List.take_of_length_le (by omega)]
  | succ m ih =>
    intro i n W him hn hW
    obtain ⟨n, rfl⟩ : ∃ k, n = k + 1 := ⟨n - 1, by omega⟩
    have hi : i < os.length := by omega
    have hmem := getD_mem hi
    have hd6 := (hw.h6 hF _ hmem).1
    have htk := getD_take hi
    have IH := ih (i + 1) n
    rw [show m_X10_explains_L15 fu (nI f) A (nI N) (nI nr) on (nI os.length) oc ck c1 ci c2 co ord' cho (n + 1) (nI i) R W al c = m_X10_explains_L15_b fu (nI f) A (nI N) (nI nr) on (nI os.length) oc ck c1 ci c2 co ord' cho (m_X10_explains_L15 fu (nI f) A (nI N) (nI nr) on (nI os.length) oc ck c1 ci c2 co ord' cho n) (nI i) R W al c from rfl]
    unfold m_X10_explains_L15_b
    rw [if_neg (fun h => by have := (nle (by omega) (by omega)).mp h; omega), if_neg (nI_in2 (by omega) (by omega)), nI_cl (by omega), ho i hi, n1]
    have hme : ∀ j, (j ∈ os.take (i + 1)) ↔ (j ∈ os.take i ∨ j = os.getD i 0) := fun j => by rw [htk, List.mem_append, List.mem_singleton]
    generalize os.getD i 0 = d at hmem hd6 hme
    have e1 : (nI d = nI f) ↔ d = f := neq (by omega) (by omega)
    by_cases q : d = f
    · rw [if_pos (e1.mpr q), show W ||| (0 : Int32) = W from b_ext (fun i _ => by rw [b_or, b_0, Bool.or_false])]
      refine IH W (by omega) (by omega) (fun j hj => ?_)
      rw [hW j hj]
      simp only [hme, q]
      by_cases q2 : j = f
      · simp [q2]
      · simp [q2]
    · rw [if_neg (fun h => q (e1.mp h))]
      refine IH _ (by omega) (by omega) (fun j hj => ?_)
      rw [b_or, b_p (by omega) hj, hW j hj]
      simp only [hme]
      by_cases q2 : j = d
      · simp [q2, q]
      · simp [q2]
theorem q_explain {fu : Nat} (hfu : 200000 ≤ fu) (hM : Mb ck c1 ci c2 co kd sa sb nr) (hB : XB kd sa sb nr xk xs xo) (hX : Mx os ch sz ft ord opt) (hm : Mm os ch N sz' ord' cho) (hw : Mw os ch op N) (hF : Fo N op oc) (ha : Xm all N op (fun _ _ => true)) {f a : Nat} (hf : f < N) (hao : a < op f) (on er ec wr wc : Int32) (kept al c : Nat → Int32) :
    ∃ b R C kept' al' c', m_X9_explain fu (nI N) all (nI nr) on xk xs xo sz ft ord opt er ec kept (nI f) (nI a) = some (bI b, R, C, kept') ∧
      m_X10_explains fu (nI N) (nI nr) on sz' wr wc oc ck c1 ci c2 co ord' cho al c (nI f) (nI a) = some (bI b, R, C, al', c') ∧
      (b = false → ∀ p y, Pg p kd sa sb nr on → Xm y N op (Hp os ch f a (fun _ => true)) → ex p N 0 y = true) ∧
      (b = true → (∀ i, i < 32 → bt C i = true → i ∈ os ∧ ¬ i = f) ∧ (∀ i, i < 32 → bt R i = true → bt on i = true) ∧ ∀ p y, Pg p kd sa sb nr R → Xm y N op (Hp os ch f a (bt C)) → ex p N 0 y = false) := by
  have hN := hF.1
  have hlen := hw.len
  have h5 := hF.le5 f hf
  obtain ⟨W, n', hW, hr1⟩ := q_wc_L (fu := fu) (nr := nr) (ck := ck) (c1 := c1) (ci := ci) (c2 := c2) (co := co) hm hw hF hf (nI a) on on al c os.length 0 fu 0 (by omega) (by omega) (fun j hj => by rw [b_0]; simp)
  have hWx : ft &&& (((1 : Int32) <<< (nI f &&& 31)) ^^^ (-1 : Int32)) = W := b_ext (fun i hi => by rw [b_drop (by omega) hi, hW i hi, hX.2.2.1 i hi])
  have hWf : bt W f = false := by rw [hW f (by omega)]; simp
  obtain ⟨p1, k1, k2⟩ := q_keepOnly (by omega : 40 ≤ fu) kept on hM.1 hB.1 hB.2.1 hB.2.2
  obtain ⟨y, y1, y2⟩ := q_enw (by omega : 40 ≤ fu) hX hw hF ha hf hao hWf
  obtain ⟨al1, d1, h3⟩ := q_has hfu hM k2 hm hw hF hf (by omega) (C := W) (fun j _ _ => rfl) y2 al c
  have hyt : ∀ z, Xm z N op (Hp os ch f a (fun _ => true)) → z = y := fun z hz => hz.eq y2 (fun j v hj _ => by
    unfold Hp
    by_cases q : j = f
    · rw [if_pos q, if_pos q]
    · rw [if_neg q, if_neg q]
      unfold Pq
      by_cases q2 : j ∈ os
      · rw [if_pos ⟨q2, rfl⟩, if_pos ⟨q2, by rw [hW j (by omega)]; simp [q, q2]⟩]
      · rw [if_neg (fun h => q2 h.1), if_neg (fun h => q2 h.1)])
  have hL : m_X9_explain fu (nI N) all (nI nr) on xk xs xo sz ft ord opt er ec kept (nI f) (nI a) = (m_X3_find fu er ec kept (nI nr) on xk xs xo sz ft ord opt (nI N) (on1 all f a) (nI f)).bind fun u_2 => some (u_2.1, u_2.2.1, u_2.2.2.1, u_2.2.2.2) := by
    unfold m_X9_explain
    rw [q_only, Option.bind_some]
  have hRR : m_X10_explains fu (nI N) (nI nr) on sz' wr wc oc ck c1 ci c2 co ord' cho al c (nI f) (nI a) = m_X10_explains_L15_b fu (nI f) (nI a) (nI N) (nI nr) on sz' oc ck c1 ci c2 co ord' cho (m_X10_explains_L15 fu (nI f) (nI a) (nI N) (nI nr) on sz' oc ck c1 ci c2 co ord' cho n') (nI os.length) on W al c := by
    unfold m_X10_explains
    rw [← nI_0]
    exact hr1
  rw [hL, hRR]
  unfold m_X3_find m_X10_explains_L15_b
  rw [if_pos (show sz' ≤ nI os.length by rw [hm.1]; exact Int32.le_refl _), k1, Option.bind_some, hWx, y1, Option.bind_some, q_leaveSome (by omega) p1 hN, Option.bind_some, h3, Option.bind_some]
  cases he : ex p1 N 0 y with
  | true =>
    rw [if_neg (show ¬ bI true = 0 by decide)]
    simp only [Option.bind_some]
    rw [if_neg (show ¬ bI true = 0 by decide)]
    refine ⟨false, on, W, p1, al1, d1, rfl, rfl, fun _ p z hp hz => ?_, fun h => by cases h⟩
    rw [hyt z hz, ex_same hN hp k2]; exact he
  | false =>
    rw [if_pos bI_f]
    simp only [Option.bind_some]
    rw [if_pos bI_f]
    obtain ⟨R, kept2, al2, d2, e1, e2, e3, e4, e5⟩ := q_outR hfu hM hB hm hw hF hf (show a < 5 by omega) (on := on) (nc := sz') (C := W) (t := bt W) (fun j _ _ => rfl) y2 nr fu fu on p1 al1 d1 (Nat.le_refl nr) (by have := hM.1.1; omega) (by have := hM.1.1; omega) (fun _ _ h => h) (fun p hp => by rw [ex_same hN hp k2]; exact he)
    obtain ⟨C, al3, d3, f1, f2, f3, f4⟩ := q_outC hfu hM hX hm hw hF ha hf hao (on := on) (nc := sz') e2 os.length fu fu W al2 d2 (Nat.le_refl _) (by omega) (by omega) (fun i hi h => by rw [hW i hi, Bool.and_eq_true, decide_eq_true_iff] at h; simpa using h) (fun z hz => by rw [hz.eq y2 (fun _ _ _ _ => rfl)]; exact e4)
    have s1 : nI nr - (1 : Int32) = nI nr + (-1) := by rw [Int32.sub_eq_add_neg]
    have s2 : sz - (1 : Int32) = nI os.length + (-1) := by rw [hX.1, Int32.sub_eq_add_neg]
    have s3 : sz' - (1 : Int32) = nI os.length + (-1) := by rw [hm.1, Int32.sub_eq_add_neg]
    have g1 : m_X3_leaveOutRules fu on p1 (nI nr) xk xs xo (nI N) y = some (0, R, kept2) := by
      unfold m_X3_leaveOutRules
      rw [s1]; exact e1
    have g2 : m_X3_leaveOutChoices fu W kept2 sz ord opt (nI N) (on1 all f a) = some (0, C) := by
      unfold m_X3_leaveOutChoices
      rw [s2]; exact f1
    rw [g1, Option.bind_some, g2, s1, e5, s3, f2]
    simp only [Option.bind_some]
    refine ⟨true, R, C, kept2, al3, d3, rfl, rfl, fun h => (by cases h), fun _ => ⟨f3, e3, fun p z hp hz => ?_⟩⟩
    rw [ex_same hN hp e2]; exact f4 z hz
end EX
