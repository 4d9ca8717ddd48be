/-! the reference's next pick -/
def pfx (pre : Nat → Nat) (k : Nat) : List Nat := (List.range k).map pre
theorem pfx_s (pre : Nat → Nat) (k : Nat) : pfx pre (k + 1) = pfx pre k ++ [pre k] := by simp [pfx, List.range_succ]
theorem pfx_c {pre pre' : Nat → Nat} {k : Nat} (h : ∀ j, j < k → pre j = pre' j) : pfx pre k = pfx pre' k := List.map_congr_left (fun j hj => h j (List.mem_range.mp hj))
theorem xk_c {p : Nat → Int32} {x : Int32} {pre pre' : Nat → Nat} : ∀ {k : Nat}, (∀ j, j < k → pre j = pre' j) → xk p x pre k = xk p x pre' k
  | 0, _ => rfl
  | k + 1, h => by rw [xk, xk, xk_c (fun j hj => h j (by omega)), h k (by omega)]
/-- the configurations behind a place: the features below k as pre says, the k-th from v on -/
def rL (p : Nat → Int32) (x : Int32) (N : Nat) : Nat → Nat → (Nat → Nat) → List (List Nat)
  | 0, v, pre => cfo (cfF p (N - 1) 0 x) (5 - v) v
  | k + 1, v, pre => (cfo (cfF p (N - (k + 2)) (k + 1) (xk p x pre (k + 1))) (5 - v) v).map (fun c => pfx pre (k + 1) ++ c) ++ rL p x N k (pre k + 1) pre
theorem rL_at (p : Nat → Int32) (x : Int32) (N k v : Nat) (pre : Nat → Nat) : rL p x N k v pre = (cfo (cfF p (N - (k + 1)) k (xk p x pre k)) (5 - v) v).map (fun c => pfx pre k ++ c) ++ (match k with | 0 => [] | k + 1 => rL p x N k (pre k + 1) pre) := by
  cases k with
  | zero => simp [rL, pfx, xk]
  | succ k => rfl
theorem rL_c {p : Nat → Int32} {x : Int32} {N : Nat} {pre pre' : Nat → Nat} : ∀ {k v : Nat}, (∀ j, j < k → pre j = pre' j) → rL p x N k v pre = rL p x N k v pre'
  | 0, v, _ => rfl
  | k + 1, v, h => by
    rw [rL, rL, pfx_c h, xk_c h, h k (by omega), rL_c (fun j hj => h j (by omega))]
theorem cfo_nil {F : Nat → List (List Nat)} : ∀ {r v : Nat}, (∀ w, v ≤ w → w < v + r → F w = []) → cfo F r v = []
  | 0, v, _ => rfl
  | r + 1, v, h => by rw [cfo, h v (Nat.le_refl v) (by omega), cfo_nil (fun w h1 h2 => h w (by omega) (by omega))]; rfl
def Tt : Nat → Nat
  | 0 => 0
  | m + 1 => 5 * (1 + Tt m) + 1
/-- how many turns the loop may need -/
def need (N : Nat) : Nat → Nat → (Nat → Nat) → Nat
  | 0, v, _ => (5 - v) * (1 + Tt (N - 1)) + 1
  | k + 1, v, pre => (5 - v) * (1 + Tt (N - (k + 2))) + 1 + need N k (pre k + 1) pre
theorem need_at (N k v : Nat) (pre : Nat → Nat) : need N k v pre = (5 - v) * (1 + Tt (N - (k + 1))) + 1 + (match k with | 0 => 0 | k + 1 => need N k (pre k + 1) pre) := by
  cases k <;> rfl
theorem need_c {N : Nat} {pre pre' : Nat → Nat} : ∀ {k v : Nat}, (∀ j, j < k → pre j = pre' j) → need N k v pre = need N k v pre'
  | 0, v, _ => rfl
  | k + 1, v, h => by rw [need, need, h k (by omega), need_c (fun j hj => h j (by omega))]
def gd (c : List Nat) : Nat → Nat := fun j => c.getD j 0
theorem pfx_gd (pre : Nat → Nat) {k j : Nat} (l : List Nat) (h : j < k) : gd (pfx pre k ++ l) j = pre j := by
  unfold gd pfx
  rw [List.getD_eq_getElem?_getD, List.getElem?_append_left (by simpa using h)]
  simp [h]
theorem pfx_gd2 (pre : Nat → Nat) (k v : Nat) : gd (pfx pre k ++ [v]) k = v := by
  unfold gd pfx
  rw [List.getD_eq_getElem?_getD, List.getElem?_append_right (by simp)]
  simp
/-- how the features stand: N of them, with their options, allowed what x says -/
def Fx (x : Int32) (al oc : Nat → Int32) (op : Nat → Nat) (N : Nat) : Prop := N ≤ 6 ∧ (∀ j, j < N → op j ≤ 5 ∧ oc j = nI (op j)) ∧ ∀ k v, k < N → v < 5 → bt x (5 * k + v) = (decide (v < op k) && bt (al k) v)
section PK
variable {ck c1 ci c2 co : Nat → Int32} {kd sa sb : Nat → Nat} {nr : Nat}
theorem q_picks_L {fu : Nat} (hfu : 40 ≤ fu) (hM : Mb ck c1 ci c2 co kd sa sb nr) {p : Nat → Int32} {S x : Int32} (hp : Pg p kd sa sb nr S) {al oc : Nat → Int32} {op : Nat → Nat} {N : Nat} (hF : Fx x al oc op N) (b2 : Int32) : ∀ (n k v : Nat) (c : Nat → Int32) (pre : Nat → Nat), k < N → v ≤ op k → (∀ j, j < k → pre j < op j ∧ c j = nI (pre j)) → c k + 1 = nI v → need N k v pre < n →
    ∃ c', m_X10_picks_L52 fu S b2 (nI N) (nI nr) oc ck c1 ci c2 co al n (nI k) c = some (bI (!(rL p x N k v pre).isEmpty), c') ∧ ∀ a l, rL p x N k v pre = a :: l → (∀ j, j < N → gd a j < op j ∧ c' j = nI (gd a j)) ∧ l = rL p x N (N - 1) (gd a (N - 1) + 1) (gd a) := by
  obtain ⟨hN, hop, hx⟩ := hF
  intro n
  induction n with
  | zero => intro k v c pre _ _ _ _ h; exact absurd h (Nat.not_lt_zero _)
  | succ n ih =>
    intro k v c pre hk hv hpre hck hneed
    obtain ⟨ho5, hoc⟩ := hop k hk
    have huc : upd c k (c k + 1) k = nI v := by rw [upd_s, hck]
    have hun : ∀ j, j < k → upd c k (c k + 1) j = nI (pre j) := fun j hj => by rw [upd_n (by omega)]; exact (hpre j hj).2
    show ∃ c', m_X10_picks_L52_b fu S b2 (nI N) (nI nr) oc ck c1 ci c2 co al (m_X10_picks_L52 fu S b2 (nI N) (nI nr) oc ck c1 ci c2 co al n) (nI k) c = _ ∧ _
    unfold m_X10_picks_L52_b
    rw [if_neg (show ¬ nI k < (0 : Int32) from nneg (by omega)), if_neg (nI_in2 (by omega) (by omega)), nI_cl (by omega), huc, hoc]
    have hF0 : ∀ w, op k ≤ w → w < 5 → ∀ y, cfF p (N - (k + 1)) k (xk p x y k) w = [] := by
      intro w h1 h2 y
      have : bt (xk p x y k) (5 * k + w) = false := by
        have : ∀ d, bt (xk p x y d) (5 * k + w) = false := by
          intro d
          induction d with
          | zero => rw [xk, hx k w hk h2, decide_eq_false (by omega), Bool.false_and]
          | succ d ihd => rw [xk, b_and, ihd, Bool.false_and]
        exact this k
      unfold cfF
      rw [this]; rfl
    by_cases hvo : v < op k
    · rw [if_pos ((nlt (by omega) (by omega)).mpr hvo)]
      have hft := q_fits hfu hM hp (x := x) (al := al) (pk := upd c k (c k + 1)) (pre := pre) (k := k) (v := v) (by omega) (by omega) (fun j hj => ⟨by have := (hpre j hj).1; have := (hop j (by omega)).1; omega, hun j hj⟩) huc (by rw [hx k v hk (by omega), decide_eq_true hvo, Bool.true_and])
      rw [hft]
      simp only [Option.bind_some]
      have hsuc : 5 - v = (5 - (v + 1)) + 1 := by omega
      have hR : rL p x N k v pre = (cfF p (N - (k + 1)) k (xk p x pre k) v).map (fun c => pfx pre k ++ c) ++ rL p x N k (v + 1) pre := by
        rw [rL_at, rL_at p x N k (v + 1), hsuc, cfo, List.map_append, List.append_assoc]
      have hnd : need N k v pre = (1 + Tt (N - (k + 1))) + need N k (v + 1) pre := by
        rw [need_at, need_at N k (v + 1), hsuc, Nat.succ_mul]; omega
      cases hb : bt (xk p x pre k) (5 * k + v) with
      | false =>
        rw [if_pos (by rfl), hR, show cfF p (N - (k + 1)) k (xk p x pre k) v = [] by unfold cfF; rw [hb]; rfl]
        exact ih k (v + 1) _ pre hk (by omega) (fun j hj => ⟨(hpre j hj).1, hun j hj⟩) (by rw [huc]; exact n1 v) (by omega)
      | true =>
        rw [if_neg (by decide)]
        by_cases hlast : k = N - 1
        · have e1 : nI k = nI N - (1 : Int32) := by
            rw [show N = k + 1 by omega]; exact (nS k).symm
          rw [if_pos e1]
          refine ⟨upd c k (c k + 1), ?_, ?_⟩
          · rw [hR]
            unfold cfF
            rw [hb, if_pos rfl, show N - (k + 1) = 0 by omega]
            rfl
          · intro a l hal
            rw [hR] at hal
            unfold cfF at hal
            rw [hb, if_pos rfl, show N - (k + 1) = 0 by omega] at hal
            simp only [cf, List.map_cons, List.map_nil, List.cons_append, List.nil_append] at hal
            obtain ⟨rfl, rfl⟩ := List.cons.inj hal
            have g1 : gd (pfx pre k ++ [v]) k = v := pfx_gd2 pre k v
            refine ⟨fun j hj => ?_, ?_⟩
            · rcases Nat.lt_or_ge j k with h | h
              · rw [pfx_gd pre _ h]; exact ⟨(hpre j h).1, hun j h⟩
              · have : j = k := by omega
                subst this
                rw [g1]; exact ⟨hvo, huc⟩
            · rw [← hlast, g1]
              exact rL_c (fun j hj => (pfx_gd pre _ hj).symm)
        · have e1 : ¬ nI k = nI N - (1 : Int32) := by
            rw [show N = (N - 1) + 1 by omega, nS]
            exact fun h => hlast ((neq (by omega) (by omega)).mp h)
          rw [if_neg e1]
          have e2 : nI k + (1 : Int32) = nI (k + 1) := n1 k
          rw [e2, if_neg (nI_in2 (by omega) (by omega)), nI_cl (by omega)]
          -- into the depth
          have hpre' : ∀ j, j < k + 1 → (if j = k then v else pre j) < op j ∧ upd (upd c k (c k + 1)) (k + 1) (-1) j = nI (if j = k then v else pre j) := by
            intro j hj
            rw [upd_n (by omega)]
            by_cases h : j = k
            · subst h; rw [if_pos rfl]; exact ⟨hvo, huc⟩
            · rw [if_neg h]; exact ⟨(hpre j (by omega)).1, hun j (by omega)⟩
          have hk2 : N - (k + 1) = (N - (k + 2)) + 1 := by omega
          have hxk : xk p x (fun j => if j = k then v else pre j) (k + 1) = xk p x pre k &&& p (5 * k + v) := by
            rw [xk, if_pos rfl]
            congr 1
            exact xk_c (fun j hj => if_neg (by omega))
          have hR2 : rL p x N (k + 1) 0 (fun j => if j = k then v else pre j) = rL p x N k v pre := by
            rw [hR]
            show (cfo (cfF p (N - (k + 2)) (k + 1) (xk p x (fun j => if j = k then v else pre j) (k + 1))) (5 - 0) 0).map _ ++ rL p x N k ((if k = k then v else pre k) + 1) _ = _
            rw [if_pos rfl, hxk, rL_c (pre' := pre) (fun j hj => if_neg (by omega))]
            congr 1
            unfold cfF
            rw [hb, if_pos rfl, hk2, cf_s, List.map_map]
            refine List.map_congr_left (fun c _ => ?_)
            show pfx _ (k + 1) ++ c = pfx pre k ++ v :: c
            rw [pfx_s, if_pos rfl, pfx_c (pre' := pre) (fun j hj => if_neg (by omega)), List.append_assoc]
            rfl
          have hnd2 : need N (k + 1) 0 (fun j => if j = k then v else pre j) = Tt (N - (k + 1)) + need N k (v + 1) pre := by
            rw [need, if_pos rfl, need_c (pre' := pre) (fun j hj => if_neg (by omega)), hk2, Tt]
          obtain ⟨c', h1, h2⟩ := ih (k + 1) 0 (upd (upd c k (c k + 1)) (k + 1) (-1)) (fun j => if j = k then v else pre j) (by omega) (Nat.zero_le _) hpre' (by rw [upd_s]; decide) (by rw [hnd2]; omega)
          rw [hR2] at h1 h2
          exact ⟨c', h1, h2⟩
    · rw [if_neg (fun h => hvo ((nlt (by omega) (by omega)).mp h))]
      have hnil : cfo (cfF p (N - (k + 1)) k (xk p x pre k)) (5 - v) v = [] := cfo_nil (fun w h1 h2 => hF0 w (by omega) (by omega) pre)
      cases k with
      | zero =>
        have hR : rL p x N 0 v pre = [] := by rw [rL_at, hnil]; rfl
        rw [hR]
        have e0 : nI 0 + (-1) = (-1 : Int32) := by decide
        rw [e0]
        obtain ⟨n, rfl⟩ : ∃ k, n = k + 1 := ⟨n - 1, by have := need_at N 0 v pre; omega⟩
        refine ⟨upd c 0 (c 0 + 1), ?_, fun a l h => by cases h⟩
        show m_X10_picks_L52_b fu S b2 (nI N) (nI nr) oc ck c1 ci c2 co al (m_X10_picks_L52 fu S b2 (nI N) (nI nr) oc ck c1 ci c2 co al n) (-1) _ = _
        unfold m_X10_picks_L52_b
        rw [if_pos (by decide)]
        rfl
      | succ k =>
        have hR : rL p x N (k + 1) v pre = rL p x N k (pre k + 1) pre := by rw [rL_at, hnil]; rfl
        rw [hR]
        have e0 : nI (k + 1) + (-1) = nI k := pk_m1 k
        rw [e0]
        exact ih k (pre k + 1) _ pre (by omega) (by have := (hpre k (by omega)).1; omega) (fun j hj => ⟨(hpre j (by omega)).1, hun j (by omega)⟩) (by rw [hun k (by omega)]; exact n1 _) (by have := need_at N (k + 1) v pre; simp only at this; omega)
end PK
