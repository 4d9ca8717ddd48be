/-! the reference's picks as a walk along the list of the configurations -/
theorem Tt_le {a b : Nat} (h : a ≤ b) : Tt a ≤ Tt b := by
  induction h with
  | refl => exact Nat.le_refl _
  | step h ih => exact Nat.le_trans ih (by rw [Tt]; omega)
theorem need_le {N : Nat} (hN : N ≤ 6) {pre : Nat → Nat} : ∀ {k v : Nat}, need N k v pre ≤ (k + 1) * 23436
  | 0, v => by
    have h1 := Tt_le (show N - 1 ≤ 5 by omega)
    have h2 : Tt 5 = 4686 := rfl
    have h3 : (5 - v) * (1 + Tt (N - 1)) ≤ 5 * (1 + 4686) := Nat.mul_le_mul (by omega) (by omega)
    rw [need]; omega
  | k + 1, v => by
    have h1 := Tt_le (show N - (k + 2) ≤ 5 by omega)
    have h2 : Tt 5 = 4686 := rfl
    have h3 : (5 - v) * (1 + Tt (N - (k + 2))) ≤ 5 * (1 + 4686) := Nat.mul_le_mul (by omega) (by omega)
    have := need_le hN (pre := pre) (k := k) (v := pre k + 1)
    rw [need]; omega
def rest (p : Nat → Int32) (x : Int32) (N : Nat) (a : List Nat) : List (List Nat) := if N = 0 then [] else rL p x N (N - 1) (gd a (N - 1) + 1) (gd a)
/-- the pick stands at the head of what is left of the list -/
def Cur (p : Nat → Int32) (x : Int32) (N : Nat) (op : Nat → Nat) (c : Nat → Int32) (l : List (List Nat)) : Prop := ∀ a l', l = a :: l' → (∀ j, j < N → gd a j < op j ∧ c j = nI (gd a j)) ∧ l' = rest p x N a
section LS
variable {ck c1 ci c2 co : Nat → Int32} {kd sa sb : Nat → Nat} {nr : Nat} {p : Nat → Int32} {S x : Int32} {al oc : Nat → Int32} {op : Nat → Nat} {N : Nat}
theorem q_pk0 {fu : Nat} (hfu : 200000 ≤ fu) (hM : Mb ck c1 ci c2 co kd sa sb nr) (hp : Pg p kd sa sb nr S) (hF : Fx x al oc op N) (c : Nat → Int32) :
    ∃ c', m_X10_picks fu (nI N) (nI nr) oc ck c1 ci c2 co al c S 0 = some (bI (!(cf p N 0 x).isEmpty), c') ∧ Cur p x N op c' (cf p N 0 x) := by
  unfold m_X10_picks
  by_cases hz : N = 0
  · subst hz
    rw [if_pos (show nI 0 = (0 : Int32) from nI_0), if_pos rfl]
    refine ⟨c, rfl, ?_⟩
    intro a l' h
    exact ⟨fun j hj => absurd hj (Nat.not_lt_zero j), (List.cons.inj h).2.symm⟩
  · have hN := hF.1
    rw [if_neg (fun h => hz ((kn0 (by omega)).mp h)), if_pos rfl, if_pos rfl]
    obtain ⟨c', h1, h2⟩ := q_picks_L (fu := fu) (by omega) hM hp hF 0 fu 0 0 (upd c 0 (-1)) (fun _ => 0) (by omega) (Nat.zero_le _) (fun j hj => absurd hj (Nat.not_lt_zero j)) (by rw [upd_s]; decide) (by have := need_le hN (pre := fun _ => 0) (k := 0) (v := 0); omega)
    have hR : rL p x N 0 0 (fun _ => 0) = cf p N 0 x := by
      rw [show N = (N - 1) + 1 by omega]; rfl
    rw [hR] at h1 h2
    refine ⟨c', by rw [← nI_0]; exact h1, fun a l' h => ?_⟩
    obtain ⟨h3, h4⟩ := h2 a l' h
    exact ⟨h3, by unfold rest; rw [if_neg hz]; exact h4⟩
theorem q_pk1 {fu : Nat} (hfu : 200000 ≤ fu) (hM : Mb ck c1 ci c2 co kd sa sb nr) (hp : Pg p kd sa sb nr S) (hF : Fx x al oc op N) {c : Nat → Int32} {a : List Nat} {l : List (List Nat)} (hc : Cur p x N op c (a :: l)) :
    ∃ c', m_X10_picks fu (nI N) (nI nr) oc ck c1 ci c2 co al c S 1 = some (bI (!l.isEmpty), c') ∧ Cur p x N op c' l := by
  obtain ⟨hc1, hc2⟩ := hc a l rfl
  unfold m_X10_picks
  by_cases hz : N = 0
  · subst hz
    rw [if_pos (show nI 0 = (0 : Int32) from nI_0), if_neg (show ¬ (1 : Int32) = 0 by decide)]
    have : l = [] := by rw [hc2]; rfl
    subst this
    exact ⟨c, rfl, fun a l' h => by cases h⟩
  · have hN := hF.1
    rw [if_neg (fun h => hz ((kn0 (by omega)).mp h)), if_neg (show ¬ (1 : Int32) = 0 by decide), if_neg (show ¬ (1 : Int32) = 0 by decide)]
    have hu : upd c 0 (c 0) = c := by
      funext j
      by_cases h : j = 0
      · subst h; rw [upd_s]
      · rw [upd_n h]
    have e0 : ((0 : Int32)).toNatClampNeg = 0 := rfl
    rw [e0, hu]
    have e1 : nI N - (1 : Int32) = nI (N - 1) := by
      rw [show N = (N - 1) + 1 by omega, nS]; rfl
    rw [e1]
    obtain ⟨h5, h6⟩ := hc1 (N - 1) (by omega)
    obtain ⟨c', h1, h2⟩ := q_picks_L (fu := fu) (by omega) hM hp hF 1 fu (N - 1) (gd a (N - 1) + 1) c (gd a) (by omega) (by omega) (fun j hj => hc1 j (by omega)) (by rw [h6]; exact n1 _) (by have := need_le hN (pre := gd a) (k := N - 1) (v := gd a (N - 1) + 1); have : (N - 1 + 1) * 23436 ≤ 6 * 23436 := Nat.mul_le_mul_right _ (by omega); omega)
    have hR : rL p x N (N - 1) (gd a (N - 1) + 1) (gd a) = l := by rw [hc2]; unfold rest; rw [if_neg hz]
    rw [hR] at h1 h2
    refine ⟨c', h1, fun a l' h => ?_⟩
    obtain ⟨h3, h4⟩ := h2 a l' h
    exact ⟨h3, by unfold rest; rw [if_neg hz]; exact h4⟩
theorem cfo_len {F : Nat → List (List Nat)} {B : Nat} (h : ∀ v, (F v).length ≤ B) : ∀ {r v : Nat}, (cfo F r v).length ≤ r * B
  | 0, v => by simp [cfo]
  | r + 1, v => by
    rw [cfo, List.length_append, Nat.succ_mul]
    have := cfo_len h (r := r) (v := v + 1)
    have := h v
    omega
theorem cf_len (p : Nat → Int32) : ∀ (m k : Nat) (x : Int32), (cf p m k x).length ≤ 5 ^ m
  | 0, k, x => by simp [cf]
  | m + 1, k, x => by
    rw [cf_s, Nat.pow_succ, Nat.mul_comm]
    refine cfo_len (fun v => ?_)
    unfold cfF
    split
    · rw [List.length_map]; exact cf_len p m _ _
    · simp
theorem cf_len6 {p : Nat → Int32} {m k : Nat} {x : Int32} (h : m ≤ 6) : (cf p m k x).length ≤ 15625 := by
  have := cf_len p m k x
  have h2 : (5 : Nat) ^ m ≤ 5 ^ 6 := Nat.pow_le_pow_right (by omega) h
  omega
theorem q_many_L {fu : Nat} (hfu : 200000 ≤ fu) (hM : Mb ck c1 ci c2 co kd sa sb nr) (hp : Pg p kd sa sb nr S) (hF : Fx x al oc op N) (cc : Nat → Int32) : ∀ (l : List (List Nat)) (n k : Nat) (c : Nat → Int32), l.length < n → Cur p x N op c l →
    ∃ c', m_X10_many_L18 fu (nI N) (nI nr) S oc ck c1 ci c2 co cc n (nI k) (bI (!l.isEmpty)) al c = some (nI (k + l.length), al, c')
  | [], n, k, c, hn, hc => by
    obtain ⟨n, rfl⟩ : ∃ k, n = k + 1 := ⟨n - 1, by omega⟩
    refine ⟨c, ?_⟩
    show m_X10_many_L18_b fu (nI N) (nI nr) S oc ck c1 ci c2 co cc (m_X10_many_L18 fu (nI N) (nI nr) S oc ck c1 ci c2 co cc n) _ _ _ _ = _
    unfold m_X10_many_L18_b
    rw [if_pos (by rfl)]
    rfl
  | a :: l, n, k, c, hn, hc => by
    obtain ⟨n, rfl⟩ : ∃ k, n = k + 1 := ⟨n - 1, by omega⟩
    obtain ⟨c', h1, h2⟩ := q_pk1 hfu hM hp hF hc
    obtain ⟨d, h3⟩ := q_many_L hfu hM hp hF cc l n (k + 1) c' (by simp only [List.length_cons] at hn; omega) h2
    refine ⟨d, ?_⟩
    show m_X10_many_L18_b fu (nI N) (nI nr) S oc ck c1 ci c2 co cc (m_X10_many_L18 fu (nI N) (nI nr) S oc ck c1 ci c2 co cc n) _ _ _ _ = _
    unfold m_X10_many_L18_b
    rw [if_neg (by show ¬ bI true = 0; decide), h1]
    simp only [Option.bind_some]
    rw [nI_1, h3, List.length_cons, Nat.add_right_comm, Nat.add_assoc]
end LS
