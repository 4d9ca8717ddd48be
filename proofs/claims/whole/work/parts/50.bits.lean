def bt (x : Int32) (i : Nat) : Bool := x.toBitVec.getLsbD i
theorem b_ext {x y : Int32} (h : ∀ i, i < 32 → bt x i = bt y i) : x = y := Int32.toBitVec_inj.mp (BitVec.eq_of_getLsbD_eq (fun i hi => h i hi))
theorem b_or (x y : Int32) (i : Nat) : bt (x ||| y) i = (bt x i || bt y i) := by unfold bt; rw [Int32.toBitVec_or, BitVec.getLsbD_or]
theorem b_and (x y : Int32) (i : Nat) : bt (x &&& y) i = (bt x i && bt y i) := by unfold bt; rw [Int32.toBitVec_and, BitVec.getLsbD_and]
theorem b_xor (x y : Int32) (i : Nat) : bt (x ^^^ y) i = (bt x i ^^ bt y i) := by unfold bt; rw [Int32.toBitVec_xor, BitVec.getLsbD_xor]
theorem b_big {x : Int32} {i : Nat} (h : 32 ≤ i) : bt x i = false := BitVec.getLsbD_of_ge _ _ h
theorem b_m1 : ∀ i, i < 32 → bt (-1) i = true := by decide +kernel
theorem b_0 (i : Nat) : bt 0 i = false := BitVec.getLsbD_zero
theorem s_l : ∀ n, n < 32 → ((nI n &&& 31).toBitVec.smod 32).toNat = n := by decide +kernel
theorem b_shl (n : Nat) (hn : n < 32) (x : Int32) {i : Nat} (hi : i < 32) : bt (x <<< (nI n &&& 31)) i = (decide (n ≤ i) && bt x (i - n)) := by
  unfold bt
  rw [Int32.toBitVec_shiftLeft]
  show (x.toBitVec <<< ((nI n &&& 31).toBitVec.smod 32).toNat).getLsbD i = _
  rw [s_l n hn, BitVec.getLsbD_shiftLeft]
  rcases Nat.lt_or_ge i n with h | h
  · simp [h, Nat.not_le.mpr h]
  · simp [hi, h, Nat.not_lt.mpr h]
theorem b_sshr (n : Nat) (hn : n < 32) (x : Int32) {i : Nat} (hi : i < 32) : bt (x >>> (nI n &&& 31)) i = if n + i < 32 then bt x (n + i) else bt x 31 := by
  unfold bt
  rw [Int32.toBitVec_shiftRight]
  show (x.toBitVec.sshiftRight ((nI n &&& 31).toBitVec.smod 32).toNat).getLsbD i = _
  rw [s_l n hn, BitVec.getLsbD_sshiftRight, BitVec.msb_eq_getLsbD_last]
  simp [hi]
theorem b_1 : ∀ i, i < 32 → bt 1 i = decide (i = 0) := by decide +kernel
theorem b_31 : ∀ i, i < 32 → bt 31 i = decide (i < 5) := by decide +kernel
theorem b_p {n i : Nat} (hn : n < 32) (hi : i < 32) : bt ((1 : Int32) <<< (nI n &&& 31)) i = decide (i = n) := by
  rw [b_shl n hn _ hi, b_1 _ (by omega)]
  rcases Nat.lt_or_ge i n with h | h
  · simp [Nat.not_le.mpr h, Nat.ne_of_lt h]
  · rw [decide_eq_true h, Bool.true_and]
    by_cases h2 : i = n
    · simp [h2]
    · rw [decide_eq_false h2, decide_eq_false (by omega)]
theorem b_not (x : Int32) {i : Nat} (hi : i < 32) : bt (x ^^^ (-1)) i = !bt x i := by
  rw [b_xor, b_m1 i hi, Bool.xor_true]
theorem n5 (f : Nat) : nI f * (5 : Int32) = nI (5 * f) := by
  rw [Nat.mul_comm]; exact pk_mul f 5
theorem n1 (f : Nat) : nI f + (1 : Int32) = nI (f + 1) := nI_1 f
theorem nS (f : Nat) : nI (f + 1) - (1 : Int32) = nI f := nI_pred f
theorem nz {x : Int32} (h : ∀ i, i < 32 → bt x i = false) : x = 0 := b_ext (fun i hi => by rw [h i hi, b_0])
theorem nI_cl {n : Nat} (h : n < 2000) : (nI n).toNatClampNeg = n := nI_clamp (by omega)
theorem nI_in2 {n N : Nat} (h : n < N) (hN : N < 2000) : ¬ (nI n < 0 ∨ N ≤ (nI n).toNatClampNeg) := nI_in h (by omega)
theorem nle {a b : Nat} (ha : a < 2000) (hb : b < 2000) : nI a ≤ nI b ↔ a ≤ b := nI_leI (by omega) (by omega)
theorem nlt {a b : Nat} (ha : a < 2000) (hb : b < 2000) : nI a < nI b ↔ a < b := nI_ltI (by omega) (by omega)
theorem neq {a b : Nat} (ha : a < 2000) (hb : b < 2000) : nI a = nI b ↔ a = b := nI_eq (by omega) (by omega)
theorem nneg {a : Nat} (ha : a < 2000) : ¬ nI a < 0 := nI_pos (by omega)
/-- a Bool as the machine has it -/
def bI (b : Bool) : Int32 := if b then 1 else 0
theorem bI_t : bI true = 1 := rfl
theorem bI_f : bI false = 0 := rfl
theorem bI_z {b : Bool} : bI b = 0 ↔ b = false := by cases b <;> decide
theorem bI_o {b : Bool} : bI b = 1 ↔ b = true := by cases b <;> decide
theorem holdsE (x : Int32) {n : Nat} (hn : n < 32) : ((x >>> (nI n &&& 31)) &&& (1 : Int32) = 0) ↔ bt x n = false := by
  have e : ∀ i, i < 32 → bt ((x >>> (nI n &&& 31)) &&& (1 : Int32)) i = (decide (i = 0) && bt x n) := by
    intro i hi
    rw [b_and, b_1 i hi, b_sshr n hn x hi]
    by_cases h : i = 0
    · subst h; simp [hn]
    · simp [h]
  constructor
  · intro h
    have := e 0 (by omega)
    rw [h, b_0] at this
    simpa using this.symm
  · intro h
    exact nz (fun i hi => by rw [e i hi, h, Bool.and_false])
theorem q_holds (x : Int32) {n : Nat} (hn : n < 32) : m_X9_holds x (nI n) = some (bI (bt x n)) := by
  unfold m_X9_holds
  cases h : bt x n with
  | false => rw [if_pos ((holdsE x hn).mpr h)]; rfl
  | true => rw [if_neg (fun h2 => by rw [(holdsE x hn).mp h2] at h; cases h)]; rfl
theorem q_slotOf (f o : Nat) : m_X9_slotOf (nI f) (nI o) = some (nI (5 * f + o)) := by
  unfold m_X9_slotOf
  rw [n5, nI_add]
/-- the set of a feature -/
def s5 (x : Int32) (f : Nat) : Int32 := (x >>> (nI (5 * f) &&& 31)) &&& 31
theorem b_s5 (x : Int32) {f i : Nat} (hf : f < 6) (hi : i < 32) : bt (s5 x f) i = (decide (i < 5) && bt x (5 * f + i)) := by
  unfold s5
  rw [b_and, b_31 i hi, b_sshr (5 * f) (by omega) x hi]
  by_cases h : i < 5
  · rw [if_pos (by omega)]; simp [h]
  · simp [h]
theorem q_setOf (x : Int32) (f : Nat) : m_X9_setOf x (nI f) = some (s5 x f) := by
  unfold m_X9_setOf s5
  rw [n5]
/-- whether a feature has anything left -/
def nz5 (x : Int32) (f : Nat) : Bool := decide (¬ s5 x f = 0)
theorem nz5_iff {x : Int32} {f : Nat} (hf : f < 6) : nz5 x f = true ↔ ∃ o, o < 5 ∧ bt x (5 * f + o) = true := by
  unfold nz5
  rw [decide_eq_true_iff]
  constructor
  · intro h
    apply Classical.byContradiction
    intro h2
    refine h (nz (fun i hi => ?_))
    rw [b_s5 x hf hi]
    by_cases h3 : i < 5
    · have : bt x (5 * f + i) = false := by
        cases h4 : bt x (5 * f + i) with
        | false => rfl
        | true => exact absurd ⟨i, h3, h4⟩ h2
      rw [this, Bool.and_false]
    · simp [h3]
  · rintro ⟨o, ho, hb⟩ h
    have := b_s5 x (f := f) (i := o) hf (by omega)
    rw [h, b_0, hb] at this
    simp [ho] at this
def on1 (x : Int32) (f o : Nat) : Int32 := (x &&& (((31 : Int32) <<< (nI (5 * f) &&& 31)) ^^^ (-1))) ||| ((1 : Int32) <<< (nI (5 * f + o) &&& 31))
theorem q_only (x : Int32) (f o : Nat) : m_X9_only x (nI f) (nI o) = some (on1 x f o) := by
  unfold m_X9_only on1
  rw [q_slotOf, n5]
  rfl
theorem b_on1 (x : Int32) {f o i : Nat} (hf : f < 6) (ho : o < 5) (hi : i < 32) : bt (on1 x f o) i = if 5 * f ≤ i ∧ i < 5 * f + 5 then decide (i = 5 * f + o) else bt x i := by
  unfold on1
  rw [b_or, b_and, b_not _ hi, b_shl (5 * f) (by omega) _ hi, b_p (by omega) hi]
  by_cases h : 5 * f ≤ i ∧ i < 5 * f + 5
  · rw [if_pos h, b_31 _ (by omega)]
    simp [h.1, show i - 5 * f < 5 by omega]
  · rw [if_neg h]
    by_cases h2 : 5 * f ≤ i
    · rw [b_31 _ (by omega)]
      simp [show ¬ i - 5 * f < 5 by omega, show ¬ i = 5 * f + o by omega]
    · simp [h2, show ¬ i = 5 * f + o by omega]
/-- whether each feature from f on, m of them, has something left -/
def sl (x : Int32) : Nat → Nat → Bool
  | 0, _ => true
  | m + 1, f => nz5 x f && sl x m (f + 1)
theorem sl_iff {x : Int32} : ∀ {m f : Nat}, f + m ≤ 6 → (sl x m f = true ↔ ∀ j, f ≤ j → j < f + m → ∃ o, o < 5 ∧ bt x (5 * j + o) = true)
  | 0, f, _ => by simp [sl]; omega
  | m + 1, f, h => by
    rw [sl, Bool.and_eq_true, sl_iff (by omega), nz5_iff (by omega)]
    constructor
    · rintro ⟨h1, h2⟩ j hj hj2
      rcases Nat.eq_or_lt_of_le hj with rfl | h3
      · exact h1
      · exact h2 j h3 (by omega)
    · intro h1
      exact ⟨h1 f (Nat.le_refl f) (by omega), fun j hj hj2 => h1 j (by omega) (by omega)⟩
theorem q_some_L (fu : Nat) (x0 x : Int32) (N : Nat) (hN : N ≤ 6) : ∀ (m f n : Nat), f + m = N → m < n → m_X9_isSomeLeftFrom_L2 fu x0 (nI N) x n (nI f) = some (bI (sl x m f)) := by
  intro m
  induction m with
  | zero =>
    intro f n hf hn
    obtain ⟨n, rfl⟩ : ∃ k, n = k + 1 := ⟨n - 1, by omega⟩
    show m_X9_isSomeLeftFrom_L2_b fu x0 (nI N) x (m_X9_isSomeLeftFrom_L2 fu x0 (nI N) x n) (nI f) = _
    unfold m_X9_isSomeLeftFrom_L2_b
    rw [if_pos ((nle (by omega) (by omega)).mpr (by omega))]
    rfl
  | succ m ih =>
    intro f n hf hn
    obtain ⟨n, rfl⟩ : ∃ k, n = k + 1 := ⟨n - 1, by omega⟩
    show m_X9_isSomeLeftFrom_L2_b fu x0 (nI N) x (m_X9_isSomeLeftFrom_L2 fu x0 (nI N) x n) (nI f) = _
    unfold m_X9_isSomeLeftFrom_L2_b
    rw [if_neg (fun h => by have := (nle (by omega) (by omega)).mp h; omega), q_setOf]
    simp only [Option.bind_some]
    rw [sl]
    by_cases h : s5 x f = 0
    · rw [if_pos h]; simp [nz5, h, bI]
    · rw [if_neg h, n1, ih (f + 1) n (by omega) (by omega)]; simp [nz5, h]
theorem q_some {fu : Nat} (x : Int32) {f N : Nat} (hN : N ≤ 6) (hf : f ≤ N) (hfu : 10 ≤ fu) : m_X9_isSomeLeftFrom fu (nI f) (nI N) x = some (bI (sl x (N - f) f)) := by
  unfold m_X9_isSomeLeftFrom
  exact q_some_L fu _ x N hN (N - f) f fu (by omega) (by omega)
