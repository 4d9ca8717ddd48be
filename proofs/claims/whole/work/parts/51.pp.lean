/-! partners: what goes together, by the bits of a slot's row -/
/-- without rules: everything of other features, of its own the slot alone -/
def bs (i j : Nat) : Bool := if j / 5 = i / 5 then decide (j = i) else decide (j < 30)
def Pb (p : Nat → Int32) (E : Nat → Nat → Bool) : Prop := ∀ i j, i < 30 → j < 32 → bt (p i) j = (bs i j && !E i j)
def pf (s o i j : Nat) : Bool := (decide (i = s) && (decide (j / 5 = o / 5) && !decide (j = o))) || (decide (j = s) && (decide (i / 5 = o / 5) && !decide (i = o)))
def pc (s o i j : Nat) : Bool := (decide (i = s) && decide (j = o)) || (decide (i = o) && decide (j = s))
def cut (k s o i j : Nat) : Bool := if k = 0 then pc s o i j else if k = 2 then pf s o i j || pf o s i j else pf s o i j
theorem b_big30 : ∀ i, i < 32 → bt 1073741823 i = decide (i < 30) := by decide +kernel
theorem upd_s {f : Nat → Int32} {k : Nat} {x : Int32} : upd f k x k = x := by simp [upd]
theorem upd_n {f : Nat → Int32} {k j : Nat} {x : Int32} (h : ¬ j = k) : upd f k x j = f j := by simp [upd, h]
theorem d5 {i : Nat} (hi : i < 2000) : nI i / (5 : Int32) = nI (i / 5) := pk_div (d := 5) (by omega) (by omega) (by omega)
theorem r5 {i : Nat} (hi : i < 2000) : nI i - nI i / (5 : Int32) * (5 : Int32) = nI (i % 5) := pk_rem (d := 5) (by omega) (by omega) (by omega)
theorem q_forget_L (fu : Nat) (c0 : Nat → Int32) : ∀ (m i n : Nat) (c : Nat → Int32), i + m = 30 → m < n → (∀ a, a < i → ∀ j, j < 32 → bt (c a) j = bs a j) →
    ∃ c', m_X5_forget_L5 fu n 1073741823 (nI i) c = some (0, c') ∧ Pb c' (fun _ _ => false) := by
  intro m
  induction m with
  | zero =>
    intro i n c hi hn hc
    obtain ⟨n, rfl⟩ : ∃ k, n = k + 1 := ⟨n - 1, by omega⟩
    refine ⟨c, ?_, fun a j ha hj => by rw [hc a (by omega) j hj]; simp⟩
    show m_X5_forget_L5_b fu (m_X5_forget_L5 fu n) 1073741823 (nI i) c = _
    unfold m_X5_forget_L5_b
    rw [if_pos (show (30 : Int32) ≤ nI i from (nle (a := 30) (b := i) (by omega) (by omega)).mpr (by omega))]
  | succ m ih =>
    intro i n c hi hn hc
    obtain ⟨n, rfl⟩ : ∃ k, n = k + 1 := ⟨n - 1, by omega⟩
    have hstep : m_X5_forget_L5 fu (n + 1) 1073741823 (nI i) c = m_X5_forget_L5 fu n 1073741823 (nI (i + 1)) (upd c i (on1 1073741823 (i / 5) (i % 5))) := by
      show m_X5_forget_L5_b fu (m_X5_forget_L5 fu n) 1073741823 (nI i) c = _
      unfold m_X5_forget_L5_b
      rw [if_neg (show ¬ (30 : Int32) ≤ nI i from fun h => by have := (nle (a := 30) (b := i) (by omega) (by omega)).mp h; omega), d5 (by omega), ← d5 (by omega), r5 (by omega), d5 (by omega), q_only]
      simp only [Option.bind_some]
      rw [if_neg (nI_in2 (by omega) (by omega)), nI_cl (by omega), n1]
    rw [hstep]
    refine ih (i + 1) n _ (by omega) (by omega) ?_
    intro a ha j hj
    by_cases h : a = i
    · subst h
      rw [upd_s, b_on1 _ (by omega) (by omega) hj, b_big30 j hj]
      unfold bs
      by_cases h2 : j / 5 = a / 5
      · rw [if_pos (by omega), if_pos h2]
        rw [show 5 * (a / 5) + a % 5 = a by omega]
      · rw [if_neg (by omega), if_neg h2]
    · rw [upd_n h]; exact hc a (by omega) j hj
theorem q_forget {fu : Nat} (hfu : 40 ≤ fu) (c : Nat → Int32) : ∃ c', m_X5_forget fu c = some (0, c') ∧ Pb c' (fun _ _ => false) := by
  unfold m_X5_forget
  exact q_forget_L fu c 30 0 fu c (by omega) (by omega) (fun a h => absurd h (Nat.not_lt_zero a))
theorem q_part {p : Nat → Int32} {E : Nat → Nat → Bool} (hp : Pb p E) {s o : Nat} (hs : s < 30) (ho : o < 30) (hso : ¬ s = o) :
    ∃ p', m_X5_part p (nI s) (nI o) = some (0, p') ∧ Pb p' (fun i j => E i j || pc s o i j) := by
  refine ⟨upd (upd p s (p s &&& (((1 : Int32) <<< (nI o &&& 31)) ^^^ (-1)))) o (p o &&& (((1 : Int32) <<< (nI s &&& 31)) ^^^ (-1))), ?_, ?_⟩
  · unfold m_X5_part
    rw [if_neg (nI_in2 hs (by omega)), if_neg (nI_in2 ho (by omega)), nI_cl (by omega), nI_cl (by omega), upd_n (fun h => hso h.symm)]
  · intro i j hi hj
    by_cases h1 : i = o
    · subst h1
      rw [upd_s, b_and, b_not _ hj, b_p (by omega) hj, hp i j hi hj]
      by_cases h2 : j = s
      · simp [pc, h2]
      · simp [pc, h2, show ¬ i = s from fun h => hso h.symm]
    · rw [upd_n h1]
      by_cases h2 : i = s
      · subst h2
        rw [upd_s, b_and, b_not _ hj, b_p (by omega) hj, hp i j hi hj]
        by_cases h3 : j = o
        · simp [pc, h3]
        · simp [pc, h3, h1]
      · rw [upd_n h2, hp i j hi hj]
        simp [pc, h1, h2]
theorem Pb.to {p : Nat → Int32} {E E' : Nat → Nat → Bool} (h : Pb p E) (he : ∀ i j, i < 30 → j < 32 → E i j = E' i j) : Pb p E' := fun i j hi hj => by rw [h i j hi hj, he i j hi hj]
theorem q_all_L (fu : Nat) {s o : Nat} (hs : s < 30) (ho : o < 30) (hso : ¬ s / 5 = o / 5) : ∀ (m d n : Nat) (p : Nat → Int32) (E : Nat → Nat → Bool), d + m = 5 → m < n → Pb p E →
    ∃ p', m_X5_partFromAllBut_L9 fu (nI s) (nI o) n (nI (5 * (o / 5))) (nI (5 * (o / 5) + d)) p = some (0, p') ∧ Pb p' (fun i j => E i j || ((decide (i = s) && (decide (5 * (o / 5) + d ≤ j) && (decide (j / 5 = o / 5) && !decide (j = o)))) || (decide (j = s) && (decide (5 * (o / 5) + d ≤ i) && (decide (i / 5 = o / 5) && !decide (i = o)))))) := by
  intro m
  induction m with
  | zero =>
    intro d n p E hd hn hp
    obtain ⟨n, rfl⟩ : ∃ k, n = k + 1 := ⟨n - 1, by omega⟩
    refine ⟨p, ?_, hp.to (fun i j hi hj => ?_)⟩
    · show m_X5_partFromAllBut_L9_b fu (nI s) (nI o) (m_X5_partFromAllBut_L9 fu (nI s) (nI o) n) _ _ p = _
      unfold m_X5_partFromAllBut_L9_b
      rw [if_pos]
      show nI _ + nI 5 ≤ _
      rw [nI_add]
      exact (nle (by omega) (by omega)).mpr (by omega)
    · by_cases h1 : i = s
      · subst h1
        have : ¬ (5 * (o / 5) + d ≤ j ∧ j / 5 = o / 5) := by omega
        have h2 : ¬ (5 * (o / 5) + d ≤ i ∧ i / 5 = o / 5) := by omega
        rcases Decidable.not_and_iff_or_not.mp this with h | h <;> rcases Decidable.not_and_iff_or_not.mp h2 with h3 | h3 <;> simp [h, h3]
      · have h2 : ¬ (5 * (o / 5) + d ≤ i ∧ i / 5 = o / 5) := by omega
        rcases Decidable.not_and_iff_or_not.mp h2 with h3 | h3 <;> simp [h1, h3]
  | succ m ih =>
    intro d n p E hd hn hp
    obtain ⟨n, rfl⟩ : ∃ k, n = k + 1 := ⟨n - 1, by omega⟩
    have h0 : ¬ nI (5 * (o / 5)) + (5 : Int32) ≤ nI (5 * (o / 5) + d) := by
      show ¬ nI _ + nI 5 ≤ _
      rw [nI_add]
      exact fun h => by have := (nle (by omega) (by omega)).mp h; omega
    have e1 : nI (5 * (o / 5) + d) + 1 = nI (5 * (o / 5) + (d + 1)) := n1 _
    by_cases hx : 5 * (o / 5) + d = o
    · have hst : m_X5_partFromAllBut_L9 fu (nI s) (nI o) (n + 1) (nI (5 * (o / 5))) (nI (5 * (o / 5) + d)) p = m_X5_partFromAllBut_L9 fu (nI s) (nI o) n (nI (5 * (o / 5))) (nI (5 * (o / 5) + (d + 1))) p := by
        show m_X5_partFromAllBut_L9_b fu (nI s) (nI o) (m_X5_partFromAllBut_L9 fu (nI s) (nI o) n) _ _ p = _
        unfold m_X5_partFromAllBut_L9_b
        rw [if_neg h0, if_pos ((neq (by omega) (by omega)).mpr hx), e1]
      rw [hst]
      obtain ⟨p', h1, h2⟩ := ih (d + 1) n p E (by omega) (by omega) hp
      refine ⟨p', h1, h2.to (fun i j hi hj => ?_)⟩
      congr 1
      have a1 : ∀ z, (decide (5 * (o / 5) + (d + 1) ≤ z) && (decide (z / 5 = o / 5) && !decide (z = o))) = (decide (5 * (o / 5) + d ≤ z) && (decide (z / 5 = o / 5) && !decide (z = o))) := by
        intro z
        by_cases hz : z = o
        · simp [hz]
        · by_cases hz2 : 5 * (o / 5) + d ≤ z
          · simp [hz2, show 5 * (o / 5) + (d + 1) ≤ z by omega]
          · simp [hz2, show ¬ 5 * (o / 5) + (d + 1) ≤ z by omega]
      rw [a1 i, a1 j]
    · obtain ⟨p1, hp1, hP1⟩ := q_part hp (s := s) (o := 5 * (o / 5) + d) hs (by omega) (by omega)
      have hst : m_X5_partFromAllBut_L9 fu (nI s) (nI o) (n + 1) (nI (5 * (o / 5))) (nI (5 * (o / 5) + d)) p = m_X5_partFromAllBut_L9 fu (nI s) (nI o) n (nI (5 * (o / 5))) (nI (5 * (o / 5) + (d + 1))) p1 := by
        show m_X5_partFromAllBut_L9_b fu (nI s) (nI o) (m_X5_partFromAllBut_L9 fu (nI s) (nI o) n) _ _ p = _
        unfold m_X5_partFromAllBut_L9_b
        rw [if_neg h0, if_neg (fun h => hx ((neq (by omega) (by omega)).mp h)), hp1]
        simp only [Option.bind_some]
        rw [e1]
      rw [hst]
      obtain ⟨p', h1, h2⟩ := ih (d + 1) n p1 _ (by omega) (by omega) hP1
      refine ⟨p', h1, h2.to (fun i j hi hj => ?_)⟩
      have a1 : ∀ z, (decide (5 * (o / 5) + d ≤ z) && (decide (z / 5 = o / 5) && !decide (z = o))) = (decide (z = 5 * (o / 5) + d) || (decide (5 * (o / 5) + (d + 1) ≤ z) && (decide (z / 5 = o / 5) && !decide (z = o)))) := by
        intro z
        by_cases hz : z = 5 * (o / 5) + d
        · simp [hz, show (5 * (o / 5) + d) / 5 = o / 5 by omega, hx]
        · by_cases hz2 : 5 * (o / 5) + d ≤ z
          · simp [hz, hz2, show 5 * (o / 5) + (d + 1) ≤ z by omega]
          · simp [hz, hz2, show ¬ 5 * (o / 5) + (d + 1) ≤ z by omega]
      rw [a1 i, a1 j]
      unfold pc
      cases E i j <;> cases decide (i = s) <;> cases decide (j = s) <;> cases decide (i = 5 * (o / 5) + d) <;> cases decide (j = 5 * (o / 5) + d) <;> simp
theorem q_all {fu : Nat} (hfu : 40 ≤ fu) {p : Nat → Int32} {E : Nat → Nat → Bool} (hp : Pb p E) {s o : Nat} (hs : s < 30) (ho : o < 30) (hso : ¬ s / 5 = o / 5) :
    ∃ p', m_X5_partFromAllBut fu p (nI s) (nI o) = some (0, p') ∧ Pb p' (fun i j => E i j || pf s o i j) := by
  have e : nI o - (nI o - nI o / (5 : Int32) * (5 : Int32)) = nI (5 * (o / 5)) := by
    rw [r5 (by omega), pk_sub (by omega)]
    congr 1; omega
  unfold m_X5_partFromAllBut
  rw [e]
  obtain ⟨p', h1, h2⟩ := q_all_L fu hs ho hso 5 0 fu p E (by omega) (by omega) hp
  refine ⟨p', h1, h2.to (fun i j hi hj => ?_)⟩
  congr 1
  unfold pf
  have a1 : ∀ z, (decide (5 * (o / 5) + 0 ≤ z) && (decide (z / 5 = o / 5) && !decide (z = o))) = (decide (z / 5 = o / 5) && !decide (z = o)) := by
    intro z
    by_cases hz : z / 5 = o / 5
    · simp [hz, show 5 * (o / 5) ≤ z by omega]
    · simp [hz]
  rw [a1 i, a1 j]
theorem q_keep {fu : Nat} (hfu : 40 ≤ fu) {p : Nat → Int32} {E : Nat → Nat → Bool} (hp : Pb p E) {k s o : Nat} (hk : k < 3) (hs : s < 30) (ho : o < 30) (hso : ¬ s / 5 = o / 5) :
    ∃ p', m_X5_keep fu p (nI k) (nI s) (nI o) = some (0, p') ∧ Pb p' (fun i j => E i j || cut k s o i j) := by
  unfold m_X5_keep
  have hne : ¬ s = o := fun h => hso (by rw [h])
  rcases (show k = 0 ∨ k = 1 ∨ k = 2 by omega) with rfl | rfl | rfl
  · rw [if_pos nI_0]
    obtain ⟨p1, h1, h2⟩ := q_part hp hs ho hne
    exact ⟨p1, by rw [h1]; rfl, h2⟩
  · rw [if_neg (by decide)]
    obtain ⟨p1, h1, h2⟩ := q_all hfu hp hs ho hso
    refine ⟨p1, ?_, h2⟩
    rw [h1]
    simp only [Option.bind_some]
    rw [if_neg (by decide)]
  · rw [if_neg (by decide)]
    obtain ⟨p1, h1, h2⟩ := q_all hfu hp hs ho hso
    obtain ⟨p2, h3, h4⟩ := q_all hfu h2 ho hs (fun h => hso h.symm)
    refine ⟨p2, ?_, h4.to (fun i j hi hj => by simp [cut, Bool.or_assoc])⟩
    rw [h1]
    simp only [Option.bind_some]
    rw [if_pos (by decide), h3]
    rfl
/-- the rules of a set, up to the number n -/
def cuts (kd sa sb : Nat → Nat) (S : Int32) : Nat → Nat → Nat → Bool
  | 0, _, _ => false
  | n + 1, i, j => cuts kd sa sb S n i j || (bt S n && cut (kd n) (sa n) (sb n) i j)
/-- the book of rules is as it must be -/
def Rb (kd sa sb : Nat → Nat) (nr : Nat) : Prop := nr ≤ 20 ∧ ∀ r, r < nr → kd r < 3 ∧ sa r < 30 ∧ sb r < 30 ∧ ¬ sa r / 5 = sb r / 5
def Ar (c : Nat → Int32) (a : Nat → Nat) (n : Nat) : Prop := ∀ r, r < n → c r = nI (a r)
theorem q_only_L (fu : Nat) (hfu : 40 ≤ fu) {kd sa sb : Nat → Nat} {nr : Nat} {ck cs co : Nat → Int32} (S : Int32) (hr : Rb kd sa sb nr) (hk : Ar ck kd nr) (hs : Ar cs sa nr) (ho : Ar co sb nr) : ∀ (m i n : Nat) (p : Nat → Int32), i + m = nr → m < n → Pb p (cuts kd sa sb S i) →
    ∃ p', m_X5_keepOnly_L6 fu S (nI nr) ck cs co n (nI i) p = some (0, p') ∧ Pb p' (cuts kd sa sb S nr) := by
  intro m
  have hn20 := hr.1
  induction m with
  | zero =>
    intro i n p hi hn hp
    obtain ⟨n, rfl⟩ : ∃ k, n = k + 1 := ⟨n - 1, by omega⟩
    refine ⟨p, ?_, by rw [show nr = i by omega]; exact hp⟩
    show m_X5_keepOnly_L6_b fu S (nI nr) ck cs co (m_X5_keepOnly_L6 fu S (nI nr) ck cs co n) (nI i) p = _
    unfold m_X5_keepOnly_L6_b
    rw [if_pos ((nle (by omega) (by omega)).mpr (by omega))]
  | succ m ih =>
    intro i n p hi hn hp
    obtain ⟨n, rfl⟩ : ∃ k, n = k + 1 := ⟨n - 1, by omega⟩
    have hlt : i < nr := by omega
    cases hb : bt S i with
    | false =>
      have hst : m_X5_keepOnly_L6 fu S (nI nr) ck cs co (n + 1) (nI i) p = m_X5_keepOnly_L6 fu S (nI nr) ck cs co n (nI (i + 1)) p := by
        show m_X5_keepOnly_L6_b fu S (nI nr) ck cs co (m_X5_keepOnly_L6 fu S (nI nr) ck cs co n) (nI i) p = _
        unfold m_X5_keepOnly_L6_b
        rw [if_neg (fun h => by have := (nle (by omega) (by omega)).mp h; omega), q_holds S (by omega), hb]
        simp only [Option.bind_some]
        rw [if_pos bI_f, n1]
      rw [hst]
      refine ih (i + 1) n p (by omega) (by omega) (hp.to (fun a b _ _ => ?_))
      simp [cuts, hb]
    | true =>
      obtain ⟨h1, h2, h3, h4⟩ := hr.2 i hlt
      obtain ⟨p1, e1, hp1⟩ := q_keep hfu hp h1 h2 h3 h4
      have hst : m_X5_keepOnly_L6 fu S (nI nr) ck cs co (n + 1) (nI i) p = m_X5_keepOnly_L6 fu S (nI nr) ck cs co n (nI (i + 1)) p1 := by
        show m_X5_keepOnly_L6_b fu S (nI nr) ck cs co (m_X5_keepOnly_L6 fu S (nI nr) ck cs co n) (nI i) p = _
        unfold m_X5_keepOnly_L6_b
        rw [if_neg (fun h => by have := (nle (by omega) (by omega)).mp h; omega), q_holds S (by omega), hb]
        simp only [Option.bind_some]
        rw [if_neg (by decide), if_neg (nI_in2 (by omega) (by omega)), nI_cl (by omega), hk i hlt, hs i hlt, ho i hlt, e1]
        simp only [Option.bind_some]
        rw [n1]
      rw [hst]
      refine ih (i + 1) n p1 (by omega) (by omega) (hp1.to (fun a b _ _ => ?_))
      simp [cuts, hb]
theorem q_keepOnly {fu : Nat} (hfu : 40 ≤ fu) (p : Nat → Int32) {kd sa sb : Nat → Nat} {nr : Nat} {ck cs co : Nat → Int32} (S : Int32) (hr : Rb kd sa sb nr) (hk : Ar ck kd nr) (hs : Ar cs sa nr) (ho : Ar co sb nr) :
    ∃ p', m_X5_keepOnly fu p (nI nr) ck cs co S = some (0, p') ∧ Pb p' (cuts kd sa sb S nr) := by
  obtain ⟨p1, h1, h2⟩ := q_forget hfu p
  obtain ⟨p2, h3, h4⟩ := q_only_L fu hfu S hr hk hs ho nr 0 fu p1 (by omega) (by have := hr.1; omega) h2
  exact ⟨p2, by unfold m_X5_keepOnly; rw [h1]; exact h3, h4⟩
