/-! the diagram: the component's levels -/
def El (N : Nat) (op : Nat → Nat) (k : Nat) (z : Int32) : Prop := ∀ i, i < 32 → bt z i = true → 5 * k ≤ i ∧ i < 5 * N ∧ i % 5 < op (i / 5)
def cod5 (z : Int32) : Nat := (bt z 25).toNat + 2 * (bt z 26).toNat + 4 * (bt z 27).toNat + 8 * (bt z 28).toNat + 16 * (bt z 29).toNat
theorem tn_le (b : Bool) : b.toNat ≤ 1 := by cases b <;> decide
theorem tn_inj {a b : Bool} (h : a.toNat = b.toNat) : a = b := by cases a <;> cases b <;> first | rfl | cases h
theorem cod5_inj {N : Nat} {op : Nat → Nat} {k : Nat} {y z : Int32} (hN : N ≤ 6) (hk : 5 ≤ k) (hy : El N op k y) (hz : El N op k z) (h : cod5 y = cod5 z) : y = z := by
  unfold cod5 at h
  have a0 := tn_le (bt y 25); have a1 := tn_le (bt y 26); have a2 := tn_le (bt y 27); have a3 := tn_le (bt y 28); have a4 := tn_le (bt y 29)
  have b0 := tn_le (bt z 25); have b1 := tn_le (bt z 26); have b2 := tn_le (bt z 27); have b3 := tn_le (bt z 28); have b4 := tn_le (bt z 29)
  have e0 := tn_inj (a := bt y 25) (b := bt z 25) (by omega)
  have e1 := tn_inj (a := bt y 26) (b := bt z 26) (by omega)
  have e2 := tn_inj (a := bt y 27) (b := bt z 27) (by omega)
  have e3 := tn_inj (a := bt y 28) (b := bt z 28) (by omega)
  have e4 := tn_inj (a := bt y 29) (b := bt z 29) (by omega)
  have out : ∀ (u : Int32), El N op k u → ∀ i, i < 32 → ¬ (25 ≤ i ∧ i < 30) → bt u i = false := fun u hu i hi hn => by
    cases hb : bt u i with
    | false => rfl
    | true => have := hu i hi hb; omega
  refine b_ext (fun i hi => ?_)
  by_cases q : 25 ≤ i ∧ i < 30
  · rcases (show i = 25 ∨ i = 26 ∨ i = 27 ∨ i = 28 ∨ i = 29 by omega) with rfl | rfl | rfl | rfl | rfl
    · exact e0
    · exact e1
    · exact e2
    · exact e3
    · exact e4
  · rw [out y hy i hi q, out z hz i hi q]
theorem El_small {N : Nat} {op : Nat → Nat} {k : Nat} (hN : N ≤ 6) (hk : 5 ≤ k) {l : List Int32} (hd : l.Nodup) (h : ∀ z, z ∈ l → El N op k z) : l.length ≤ 32 := by
  have hd2 : (l.map cod5).Nodup := List.pairwise_map.mpr (List.Pairwise.imp_of_mem (fun ha hb hne hc => hne (cod5_inj hN hk (h _ ha) (h _ hb) hc)) hd)
  have := nodup_len (n := 32) hd2 (fun j hj => by
    obtain ⟨z, -, rfl⟩ := List.mem_map.mp hj
    unfold cod5
    have a0 := tn_le (bt z 25); have a1 := tn_le (bt z 26); have a2 := tn_le (bt z 27); have a3 := tn_le (bt z 28); have a4 := tn_le (bt z 29)
    omega)
  rwa [List.length_map] at this
def Kp (N : Nat) (op : Nat → Nat) (k c : Nat) (D : List (Int32 × Nat)) : Prop := (D.map Prod.fst).Nodup ∧ (∀ z, z ∈ D.map Prod.fst → El N op (k + 1) z) ∧ D.length ≤ c
theorem Kp.cap {N : Nat} {op : Nat → Nat} {k c : Nat} {D : List (Int32 × Nat)} (h : Kp N op k c D) (hN : N ≤ 6) (hc : k ≤ 3 → c < 625) : D.length < 625 := by
  by_cases q : k ≤ 3
  · have := hc q; have := h.2.2; omega
  · have := El_small hN (show 5 ≤ k + 1 by omega) h.1 h.2.1
    rw [List.length_map] at this
    omega
theorem El_ldz {N : Nat} {op : Nat → Nat} {k j v : Nat} {p : Nat → Int32} {y : Int32} (hk : k < 6) (hy : El N op j y) : El N op (k + 1) (ldz p y k v) := by
  intro i hi h
  unfold ldz at h
  rw [b_and, b_and, b_tk hk hi] at h
  simp only [Bool.and_eq_true, decide_eq_true_iff] at h
  have := hy i hi h.1.1
  exact ⟨h.2, this.2⟩
theorem Kp.ent {N : Nat} {op : Nat → Nat} {k c : Nat} {D : List (Int32 × Nat)} (h : Kp N op k c D) {z : Int32} (hz : El N op (k + 1) z) (w : Nat) : Kp N op k (c + 1) (ent D z w) := by
  refine ⟨ent_nodup h.1, fun y hy => ?_, ?_⟩
  · rcases ent_mem hy with q | rfl
    · exact h.2.1 y q
    · exact hz
  · have := h.2.2
    rw [ent_len]; split <;> omega
theorem Kp.up {N : Nat} {op : Nat → Nat} {k c d : Nat} {D : List (Int32 × Nat)} (h : Kp N op k c D) (hd : c ≤ d) : Kp N op k d D := ⟨h.1, h.2.1, Nat.le_trans h.2.2 hd⟩
theorem Kp_ld {N : Nat} {op : Nat → Nat} {k : Nat} {p : Nat → Int32} {y : Int32} {w : Nat} (hk : k < 6) (hy : El N op k y) : ∀ (r v c : Nat) (D : List (Int32 × Nat)), Kp N op k c D → Kp N op k (c + r) (ld p N k y w D r v)
  | 0, v, c, D, h => h
  | r + 1, v, c, D, h => by
    rw [ld, show c + (r + 1) = (c + 1) + r by omega]
    refine Kp_ld hk hy r (v + 1) (c + 1) _ ?_
    split
    · exact h.ent (El_ldz hk hy) w
    · exact h.up (by omega)
section DR
variable {N : Nat} {op : Nat → Nat} {p : Nat → Int32}
theorem q_lead_L {fu : Nat} (hfu : 200000 ≤ fu) (hN : N ≤ 6) {k : Nat} (hk : k < N) {y : Int32} {w : Nat} (hy : El N op k y) {j : Nat} (hj : j < 625) {cs cw : Nat → Int32} (h1 : cs j = y) (h2 : cw j = nI w) {c0 : Nat} (hc : k ≤ 3 → c0 + 5 ≤ 625) : ∀ (r v n : Nat) (D : List (Int32 × Nat)) (sz : Int32) (ns nw : Nat → Int32), v + r = 5 → r < n → Kp N op k (c0 + v) D → RpD D sz ns nw →
    ∃ sz1 ns1 nw1, m_X2_leadOn_L12 fu (nI N) (nI k) (nI j) cs cw p n (tk k) (nI v) sz ns nw = some (0, sz1, ns1, nw1) ∧ RpD (ld p N k y w D r v) sz1 ns1 nw1 := by
  intro r
  induction r with
  | zero =>
    intro v n D sz ns nw hv hn hK hR
    obtain ⟨n, rfl⟩ : ∃ k, n = k + 1 := ⟨n - 1, by omega⟩
    refine ⟨sz, ns, nw, ?_, hR⟩
    show m_X2_leadOn_L12_b fu (nI N) (nI k) (nI j) cs cw p (m_X2_leadOn_L12 fu (nI N) (nI k) (nI j) cs cw p n) (tk k) (nI v) sz ns nw = _
    unfold m_X2_leadOn_L12_b
    rw [if_pos (show (5 : Int32) ≤ nI v from (nle (a := 5) (b := v) (by omega) (by omega)).mpr (by omega))]
  | succ r ih =>
    intro v n D sz ns nw hv hn hK hR
    obtain ⟨n, rfl⟩ : ∃ k, n = k + 1 := ⟨n - 1, by omega⟩
    have IH := fun D sz ns nw => ih (v + 1) n D sz ns nw (by omega) (by omega)
    rw [ld]
    show ∃ sz1 ns1 nw1, m_X2_leadOn_L12_b fu (nI N) (nI k) (nI j) cs cw p (m_X2_leadOn_L12 fu (nI N) (nI k) (nI j) cs cw p n) (tk k) (nI v) sz ns nw = _ ∧ _
    unfold m_X2_leadOn_L12_b
    rw [if_neg (show ¬ (5 : Int32) ≤ nI v from fun h => by have := (nle (a := 5) (b := v) (by omega) (by omega)).mp h; omega), q_slotOf, Option.bind_some, if_neg (nI_in2 (by omega) (by omega)), nI_cl (n := j) (by omega), h1, h2, q_holds y (by omega), Option.bind_some, n1, n1]
    cases hb : bt y (5 * k + v) with
    | false =>
      rw [if_pos bI_f, Bool.false_and, if_neg (by decide)]
      exact IH D sz ns nw (hK.up (by omega)) hR
    | true =>
      rw [if_neg (show ¬ bI true = 0 by decide), if_neg (nI_in2 (by omega) (by omega)), nI_cl (by omega), Bool.true_and]
      have q0 := q_some (fu := fu) (ldz p y k v) (f := k + 1) (N := N) hN (by omega) (by omega)
      rw [show y &&& p (5 * k + v) &&& tk k = ldz p y k v from rfl, q0, Option.bind_some]
      cases hs : sl (ldz p y k v) (N - (k + 1)) (k + 1) with
      | false =>
        rw [if_pos bI_f, if_neg (by decide)]
        exact IH D sz ns nw (hK.up (by omega)) hR
      | true =>
        have hlt := hK.cap hN (fun h => by have := hc h; omega)
        obtain ⟨sz1, ns1, nw1, e1, e2⟩ := q_ent hfu hK.1 (z := ldz p y k v) (w := w) (by omega) (fun _ => hlt) hR
        rw [if_neg (show ¬ bI true = 0 by decide), if_pos rfl, e1, Option.bind_some]
        exact IH _ sz1 ns1 nw1 ((hK.ent (El_ldz (by omega) hy) w).up (by omega)) e2
def lvf (p : Nat → Int32) (N k : Nat) (L D : List (Int32 × Nat)) : List (Int32 × Nat) := L.foldl (fun D e => ld p N k e.1 e.2 D 5 0) D
theorem q_lvl_L {fu : Nat} (hfu : 200000 ≤ fu) (hN : N ≤ 6) {k : Nat} (hk : k < N) {x3 tt : Int32} {k27 : Int32 → Int32 → Int32 → Int32 → (Nat → Int32) → (Nat → Int32) → (Nat → Int32) → (Nat → Int32) → Option (Int32 × Int32 × Int32 × Int32 × (Nat → Int32) × (Nat → Int32) × (Nat → Int32) × (Nat → Int32))} {L : List (Int32 × Nat)} (hL : L.length ≤ 625) (hL4 : k ≤ 3 → 5 * L.length ≤ 625) (hE : ∀ z, z ∈ L.map Prod.fst → El N op k z) {ss : Int32} {cs cw : Nat → Int32} (hRL : RpD L ss cs cw) : ∀ (m i n : Nat) (D : List (Int32 × Nat)) (sz : Int32) (ns nw : Nat → Int32), i + m = L.length → m < n → Kp N op k (5 * i) D → RpD D sz ns nw →
    ∃ sz1 ns1 nw1, m_X2_draw_L41 fu (nI N) x3 p k27 n (nI k) (nI i) tt ss sz cs cw ns nw = k27 (nI (k + 1)) (tt + sz1) sz1 sz1 ns1 nw1 cs cw ∧ RpD (lvf p N k (L.drop i) D) sz1 ns1 nw1 ∧ Kp N op k (5 * L.length) (lvf p N k (L.drop i) D) := by
  intro m
  induction m with
  | zero =>
    intro i n D sz ns nw him hn hK hR
    obtain ⟨n, rfl⟩ : ∃ k, n = k + 1 := ⟨n - 1, by omega⟩
    rw [List.drop_of_length_le (by omega)]
    refine ⟨sz, ns, nw, ?_, hR, hK.up (by omega)⟩
    show m_X2_draw_L41_b fu (nI N) x3 p k27 (m_X2_draw_L41 fu (nI N) x3 p k27 n) (nI k) (nI i) tt ss sz cs cw ns nw = _
    unfold m_X2_draw_L41_b m_X2_goToNextLevel
    rw [hRL.1, if_pos ((nle (by omega) (by omega)).mpr (by omega)), Option.bind_some, n1]
  | succ m ih =>
    intro i n D sz ns nw him hn hK hR
    obtain ⟨n, rfl⟩ : ∃ k, n = k + 1 := ⟨n - 1, by omega⟩
    have hi : i < L.length := by omega
    have hge : L[i]? = some L[i] := List.getElem?_eq_getElem hi
    obtain ⟨g1, g2⟩ := hRL.2 i _ hge
    have hy := hE L[i].1 (List.mem_map.mpr ⟨L[i], List.getElem_mem hi, rfl⟩)
    obtain ⟨sz1, ns1, nw1, e1, e2⟩ := q_lead_L hfu hN hk hy (show i < 625 by omega) g1 g2 (c0 := 5 * i) (fun h => by have := hL4 h; omega) 5 0 fu D sz ns nw (by omega) (by omega) (hK.up (by omega)) hR
    have hK2 := Kp_ld (p := p) (w := L[i].2) (show k < 6 by omega) hy 5 0 (5 * i) D hK
    obtain ⟨sz2, ns2, nw2, f1, f2, f3⟩ := ih (i + 1) n _ sz1 ns1 nw1 (by omega) (by omega) (hK2.up (by omega)) e2
    rw [List.drop_eq_getElem_cons hi]
    refine ⟨sz2, ns2, nw2, ?_, f2, f3⟩
    show m_X2_draw_L41_b fu (nI N) x3 p k27 (m_X2_draw_L41 fu (nI N) x3 p k27 n) (nI k) (nI i) tt ss sz cs cw ns nw = _
    unfold m_X2_draw_L41_b m_X2_leadOn
    rw [nI_0] at e1
    rw [if_neg (fun h => by rw [hRL.1] at h; have := (nle (by omega) (by omega)).mp h; omega), n1, n5, show (-1 : Int32) <<< (nI (5 * (k + 1)) &&& 31) = tk k from rfl, e1, Option.bind_some, n1]
    exact f1
/-- the levels -/
def lev (p : Nat → Int32) (N : Nat) (x : Int32) : Nat → List (Int32 × Nat)
  | 0 => [(x, 1)]
  | k + 1 => lvf p N k (lev p N x k) []
def tot (p : Nat → Int32) (N : Nat) (x : Int32) : Nat → Nat
  | 0 => 1
  | k + 1 => tot p N x k + (lev p N x (k + 1)).length
def LvI (p : Nat → Int32) (N : Nat) (op : Nat → Nat) (x : Int32) (k : Nat) : Prop := ((lev p N x k).map Prod.fst).Nodup ∧ (∀ z, z ∈ (lev p N x k).map Prod.fst → El N op k z) ∧ (lev p N x k).length ≤ 625 ∧ (k ≤ 4 → (lev p N x k).length ≤ 5 ^ k)
theorem Kp_lvf {k : Nat} (hk : k < 6) : ∀ {L D : List (Int32 × Nat)} {c : Nat}, (∀ z, z ∈ L.map Prod.fst → El N op k z) → Kp N op k c D → Kp N op k (c + 5 * L.length) (lvf p N k L D)
  | [], D, c, _, h => h
  | e :: L, D, c, hE, h => by
    have := Kp_lvf hk (L := L) (c := c + 5) (fun z hz => hE z (List.mem_cons_of_mem _ hz)) (Kp_ld (p := p) (w := e.2) hk (hE e.1 (List.mem_cons_self ..)) 5 0 c D h)
    rw [List.length_cons, show c + 5 * (L.length + 1) = c + 5 + 5 * L.length by omega]
    exact this
theorem LvI_all (hN : N ≤ 6) {x : Int32} (hx : El N op 0 x) : ∀ {k : Nat}, k ≤ N → LvI p N op x k
  | 0, _ => ⟨by simp [lev], fun z hz => by rw [show z = x by simpa [lev] using hz]; exact hx, by simp [lev], fun _ => by simp [lev]⟩
  | k + 1, hk => by
    obtain ⟨h1, h2, h3, h4⟩ := LvI_all hN hx (k := k) (by omega)
    have hK := Kp_lvf (p := p) (show k < 6 by omega) (D := []) (c := 0) h2 ⟨by simp, fun z hz => by simp at hz, by simp⟩
    rw [Nat.zero_add] at hK
    refine ⟨hK.1, hK.2.1, ?_, fun hk4 => ?_⟩
    · by_cases q : k ≤ 3
      · have h5 := h4 (by omega)
        have h6 : (5 : Nat) ^ k ≤ 5 ^ 3 := Nat.pow_le_pow_right (by omega) q
        have h7 := hK.2.2
        show (lvf p N k (lev p N x k) []).length ≤ 625
        omega
      · have := El_small hN (show 5 ≤ k + 1 by omega) hK.1 hK.2.1
        rw [List.length_map] at this
        show (lvf p N k (lev p N x k) []).length ≤ 625
        omega
    · have h5 := h4 (by omega)
      have h7 := hK.2.2
      show (lvf p N k (lev p N x k) []).length ≤ 5 ^ (k + 1)
      rw [Nat.pow_succ]
      omega
theorem sW_lvf (hN : N ≤ 6) {k m : Nat} (hk : k + (m + 1) = N) : ∀ {L D : List (Int32 × Nat)}, (∀ z, z ∈ L.map Prod.fst → El N op k z) → (∃ c, Kp N op k c D) → sW (lvf p N k L D) (fun z => (cf p m (k + 1) z).length) = sW D (fun z => (cf p m (k + 1) z).length) + sW L (fun z => (cf p (m + 1) k z).length)
  | [], D, _, _ => by simp [lvf, sW]
  | e :: L, D, hE, ⟨c, hK⟩ => by
    have h1 := sW_ld (p := p) hN hk (y := e.1) (w := e.2) 5 0 D rfl hK.1
    have h2 := sW_lvf hN hk (L := L) (D := ld p N k e.1 e.2 D 5 0) (fun z hz => hE z (List.mem_cons_of_mem _ hz)) ⟨_, Kp_ld (p := p) (w := e.2) (show k < 6 by omega) (hE e.1 (List.mem_cons_self ..)) 5 0 c D hK⟩
    rw [h1] at h2
    rw [sW_c, ← Nat.add_assoc]
    exact h2
theorem sW_lev (hN : N ≤ 6) {x : Int32} (hx : El N op 0 x) : ∀ {k : Nat}, k ≤ N → sW (lev p N x k) (fun z => (cf p (N - k) k z).length) = (cf p N 0 x).length
  | 0, _ => by simp [lev, sW]
  | k + 1, hk => by
    have h := LvI_all (p := p) hN hx (k := k) (by omega)
    have := sW_lvf (p := p) hN (show k + ((N - (k + 1)) + 1) = N by omega) (D := []) h.2.1 ⟨0, by simp, fun z hz => by simp at hz, by simp⟩
    rw [show (N - (k + 1)) + 1 = N - k by omega, sW_lev hN hx (k := k) (by omega)] at this
    show sW (lvf p N k (lev p N x k) []) _ = _
    rw [this]
    simp [sW]
end DR
