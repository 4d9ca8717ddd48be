/-! the best price: least, greatest, and where it is first met -/
def Bd (y : Int32) : Prop := -20000 ≤ y.toInt ∧ y.toInt ≤ 20000
def sgn (ge : Bool) : Int32 := if ge then -1 else 1
theorem bm {x : Int} (h1 : -200000 ≤ x) (h2 : x ≤ 200000) : x.bmod (2 ^ 32) = x := by
  refine Int.bmod_eq_of_le ?_ ?_ <;> omega
theorem tadd {a b : Int32} (ha : -100000 ≤ a.toInt ∧ a.toInt ≤ 100000) (hb : -100000 ≤ b.toInt ∧ b.toInt ≤ 100000) : (a + b).toInt = a.toInt + b.toInt := by
  rw [Int32.toInt_add, bm (by omega) (by omega)]
theorem tneg {a : Int32} (ha : Bd a) : ((-1 : Int32) * a).toInt = - a.toInt := by
  have : (-1 : Int32).toInt = -1 := by decide
  rw [Int32.toInt_mul, this]
  unfold Bd at ha
  rw [bm (by omega) (by omega)]
  omega
theorem cmp {ge : Bool} {a b : Int32} (ha : Bd a) (hb : Bd b) : (sgn ge * a ≤ sgn ge * b) ↔ (if ge then b ≤ a else a ≤ b) := by
  cases ge with
  | false =>
    show (1 : Int32) * a ≤ (1 : Int32) * b ↔ a ≤ b
    rw [Int32.one_mul, Int32.one_mul]
  | true =>
    show (-1 : Int32) * a ≤ (-1 : Int32) * b ↔ b ≤ a
    rw [Int32.le_iff_toInt_le, Int32.le_iff_toInt_le, tneg ha, tneg hb]
    omega
def bst (ge : Bool) (κ : List Nat → Int32) (b : Int32) (l : List (List Nat)) : Int32 := l.foldl (fun b c => if ge then (if κ c ≤ b then b else κ c) else (if b ≤ κ c then b else κ c)) b
theorem bst_a (ge : Bool) (κ : List Nat → Int32) (a : List Nat) (l : List (List Nat)) : bst ge κ (κ a) (a :: l) = bst ge κ (κ a) l := by
  unfold bst
  rw [List.foldl_cons]
  congr 1
  cases ge
  · exact if_pos (Int32.le_refl _)
  · exact if_pos (Int32.le_refl _)
theorem mt_1 {ge : Bool} {st : Int32 × Int32 × Int32} {mk pc : Int32} (h1 : st.2.1 = 1) (h2 : Bd st.2.2) (h3 : Bd pc) : (mt (sgn ge) st mk pc).2.1 = 1 ∧ Bd (mt (sgn ge) st mk pc).2.2 ∧ (mt (sgn ge) st mk pc).2.2 = (if ge then (if pc ≤ st.2.2 then st.2.2 else pc) else (if st.2.2 ≤ pc then st.2.2 else pc)) := by
  unfold mt
  rw [if_neg (show ¬ st.2.1 = 0 by rw [h1]; decide)]
  have := cmp (ge := ge) h2 h3
  by_cases q : sgn ge * st.2.2 ≤ sgn ge * pc
  · rw [if_pos q]
    refine ⟨h1, h2, ?_⟩
    have q2 := this.mp q
    cases ge
    · exact (if_pos q2).symm
    · exact (if_pos q2).symm
  · rw [if_neg q]
    refine ⟨rfl, h3, ?_⟩
    have q2 := fun h => q (this.mpr h)
    cases ge
    · exact (if_neg q2).symm
    · exact (if_neg q2).symm
theorem fold_val {F : Int32 × Int32 × Int32 → List Nat → Int32 × Int32 × Int32} {M κ : List Nat → Int32} (ge : Bool) : ∀ (l : List (List Nat)) (st : Int32 × Int32 × Int32), (∀ c ∈ l, ∀ st, F st c = mt (sgn ge) st (M c) (κ c)) → (∀ c ∈ l, Bd (κ c)) → st.2.1 = 1 → Bd st.2.2 → (l.foldl F st).2.2 = bst ge κ st.2.2 l
  | [], st, _, _, _, _ => rfl
  | c :: l, st, hF, hB, h1, h2 => by
    obtain ⟨e1, e2, e3⟩ := mt_1 (ge := ge) (mk := M c) h1 h2 (hB c (List.mem_cons_self ..))
    rw [List.foldl_cons, hF c (List.mem_cons_self ..), fold_val ge l _ (fun c hc => hF c (List.mem_cons_of_mem _ hc)) (fun c hc => hB c (List.mem_cons_of_mem _ hc)) e1 e2, e3]
    rfl
theorem fold_first {F : Int32 × Int32 × Int32 → List Nat → Int32 × Int32 × Int32} {M κ : List Nat → Int32} : ∀ (l2 pre l1 m : List (List Nat)) (b : List Nat), pre = l1 ++ b :: m → (∀ c ∈ l1, κ b < κ c) → (∀ c ∈ pre, κ b ≤ κ c) → (∀ c ∈ l2, ∀ st, F st c = mt 1 st (M c) (κ c)) →
    ∃ l1' b' m', pre ++ l2 = l1' ++ b' :: m' ∧ l2.foldl F (M b, 1, κ b) = (M b', 1, κ b') ∧ ∀ c ∈ l1', κ b' < κ c
  | [], pre, l1, m, b, h1, h2, _, _ => ⟨l1, b, m, by rw [List.append_nil]; exact h1, rfl, h2⟩
  | c :: l2, pre, l1, m, b, h1, h2, h3, hF => by
    rw [List.foldl_cons, hF c (List.mem_cons_self ..)]
    unfold mt
    rw [if_neg (show ¬ (1 : Int32) = 0 by decide)]
    show ∃ l1' b' m', _ ∧ l2.foldl F (if (1 : Int32) * κ b ≤ (1 : Int32) * κ c then (M b, 1, κ b) else (M c, 1, κ c)) = _ ∧ _
    rw [Int32.one_mul, Int32.one_mul]
    have hF' := fun d hd => hF d (List.mem_cons_of_mem c hd)
    rw [show pre ++ c :: l2 = (pre ++ [c]) ++ l2 by simp]
    by_cases q : κ b ≤ κ c
    · rw [if_pos q]
      refine fold_first l2 (pre ++ [c]) l1 (m ++ [c]) b (by rw [h1]; simp) h2 (fun d hd => ?_) hF'
      rcases List.mem_append.mp hd with h | h
      · exact h3 d h
      · rw [List.mem_singleton.mp h]; exact q
    · rw [if_neg q]
      have q2 : κ c < κ b := by
        rw [Int32.lt_iff_toInt_lt]
        rw [Int32.le_iff_toInt_le] at q
        omega
      have q3 : ∀ d ∈ pre, κ c < κ d := fun d hd => by
        have := h3 d hd
        rw [Int32.le_iff_toInt_le] at this
        rw [Int32.lt_iff_toInt_lt] at q2 ⊢
        omega
      refine fold_first l2 (pre ++ [c]) pre [] c rfl q3 (fun d hd => ?_) hF'
      rcases List.mem_append.mp hd with h | h
      · have := q3 d h
        rw [Int32.lt_iff_toInt_lt] at this
        rw [Int32.le_iff_toInt_le]
        omega
      · rw [List.mem_singleton.mp h]; exact Int32.le_refl _
theorem prs_bd {pr : Nat → Int32} (hpr : ∀ i, i < 30 → (0 : Int32) ≤ pr i ∧ pr i ≤ (1000 : Int32)) {a : List Nat} : ∀ {n : Nat}, n ≤ 6 → (∀ j, j < n → gd a j < 5) → 0 ≤ (prs pr a n).toInt ∧ (prs pr a n).toInt ≤ 1000 * n
  | 0, _, _ => by rw [prs]; decide
  | n + 1, h, h2 => by
    have h3 := h2 n (by omega)
    obtain ⟨h4, h5⟩ := hpr (5 * n + gd a n) (by omega)
    obtain ⟨h6, h7⟩ := prs_bd hpr (a := a) (n := n) (by omega) (fun j hj => h2 j (by omega))
    rw [Int32.le_iff_toInt_le] at h4 h5
    have e0 : (0 : Int32).toInt = 0 := by decide
    have e1 : (1000 : Int32).toInt = 1000 := by decide
    rw [prs, tadd (by omega) (by omega)]
    omega
theorem sur_bd {N ns : Nat} {su sv : Nat → Nat} {am : Nat → Int32} (hS : Sc N ns su sv am) {a : List Nat} : ∀ {n : Nat}, n ≤ ns → -500 * (n : Int) ≤ (sur su sv am a n).toInt ∧ (sur su sv am a n).toInt ≤ 500 * n
  | 0, _ => by rw [sur]; decide
  | n + 1, h => by
    obtain ⟨-, -, h4, h5⟩ := hS.2 n (by omega)
    have hn := hS.1
    obtain ⟨h6, h7⟩ := sur_bd hS (a := a) (n := n) (by omega)
    rw [Int32.le_iff_toInt_le] at h4 h5
    have e0 : (-500 : Int32).toInt = -500 := by decide
    have e1 : (500 : Int32).toInt = 500 := by decide
    rw [sur]
    split
    · rw [tadd (by omega) (by omega)]; omega
    · omega
theorem cst_bd {N ns : Nat} {su sv : Nat → Nat} {am pr : Nat → Int32} (hN : N ≤ 6) (hS : Sc N ns su sv am) (hpr : ∀ i, i < 30 → (0 : Int32) ≤ pr i ∧ pr i ≤ (1000 : Int32)) {a : List Nat} (ha : ∀ j, j < N → gd a j < 5) : Bd (cst N ns su sv am pr a) := by
  have h1 := prs_bd hpr (a := a) (n := N) hN ha
  have h2 := sur_bd hS (a := a) (n := ns) (Nat.le_refl ns)
  have h3 := hS.1
  unfold cst Bd
  rw [tadd (by omega) (by omega)]
  omega
