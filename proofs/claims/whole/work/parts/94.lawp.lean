/-! the law holds -/
theorem IV_0 {pp : Nat → Int32} (hp : Pb pp (fun _ _ => false)) : IV 0 0 (fun _ => 0) 0 0 (fun _ => 0) (fun _ => 0) (fun _ => 0) 0 (fun _ => 0) (fun _ => 0) (fun _ => 0) 0 (fun _ => 0) 0 0 (fun _ => 0) (fun _ => 0) pp 0 0 0 0 0 0 (fun _ => 0) (fun _ => 0) (fun _ => 0) (fun _ => 0) (fun _ => 0) (fun _ => 0) (fun _ => 0) (fun _ => 0) (fun _ => 0) (fun _ => 0) (fun _ => 0) (fun _ => 0) (fun _ => 0) (fun _ => 0) (fun _ => 0) (fun _ => 0) := by
  refine ⟨0, fun _ => 0, 0, fun _ => 0, fun _ => 0, fun _ => 0, 0, fun _ => 0, fun _ => 0, fun _ => 0, 0, fun _ => 0, [], fun _ => 0, ?_, ?_, ?_, ?_, ?_, ?_⟩
  · exact ⟨⟨by omega, fun j hj => absurd hj (Nat.not_lt_zero j)⟩, ⟨by omega, fun j hj => absurd hj (Nat.not_lt_zero j)⟩, nI_0.symm, nI_0.symm, fun i hi => by rw [b_0]; simp⟩
  · exact ⟨fun r hr => absurd hr (Nat.not_lt_zero r), ⟨⟨by omega, fun r hr => absurd hr (Nat.not_lt_zero r)⟩, fun r hr => absurd hr (Nat.not_lt_zero r), fun r hr => absurd hr (Nat.not_lt_zero r), fun r hr => absurd hr (Nat.not_lt_zero r), fun r hr => absurd hr (Nat.not_lt_zero r), fun r hr => absurd hr (Nat.not_lt_zero r)⟩, ⟨fun r hr => absurd hr (Nat.not_lt_zero r), fun r hr => absurd hr (Nat.not_lt_zero r), fun r hr => absurd hr (Nat.not_lt_zero r)⟩, nI_0.symm, nI_0.symm, rfl⟩
  · exact ⟨⟨⟨by omega, fun r hr => absurd hr (Nat.not_lt_zero r)⟩, fun i _ => ⟨show (0 : Int32) ≤ 0 by decide, show (0 : Int32) ≤ 1000 by decide⟩⟩, fun r hr => absurd hr (Nat.not_lt_zero r), ⟨fun r hr => absurd hr (Nat.not_lt_zero r), fun r hr => absurd hr (Nat.not_lt_zero r), fun r hr => absurd hr (Nat.not_lt_zero r), fun r hr => absurd hr (Nat.not_lt_zero r), fun r hr => absurd hr (Nat.not_lt_zero r)⟩, nI_0.symm, nI_0.symm, fun _ _ => rfl⟩
  · exact ⟨⟨by omega, fun r hr => absurd hr (Nat.not_lt_zero r)⟩, ⟨fun r hr => absurd hr (Nat.not_lt_zero r), fun r hr => absurd hr (Nat.not_lt_zero r), fun r hr => absurd hr (Nat.not_lt_zero r)⟩, nI_0.symm, nI_0.symm⟩
  · exact MM_nil (fun j hj => absurd hj (Nat.not_lt_zero j))
  · exact ⟨hp.to (fun _ _ _ _ => rfl), fun p y _ _ => rfl⟩
theorem law_pure {fu : Nat} (hfu : 200000 ≤ fu) {L : Nat} (hL : L ≤ 3072) (xs : Nat → Int32) : m_L_law fu L xs = some 1 := by
  obtain ⟨p1, h1, h2⟩ := q_forget (by omega : 40 ≤ fu) (fun _ => 0)
  have h5 : m_X5_init fu = some (0, p1) := by
    unfold m_X5_init
    rw [h1, Option.bind_some]
  have h3 : m_X3_init fu = some (0, 0, 0, p1) := by
    unfold m_X3_init
    rw [h5, Option.bind_some]
  unfold m_L_law m_X9_init m_X10_init
  rw [h5, h3]
  simp only [m_X4_init, m_X8_init, m_X7_init, m_X1_init, m_X0_init, m_X2_init, m_X6_init, Option.bind_some]
  have := law_loop hfu hL xs 600 0 fu
  rw [show nI (6 * 0) = (0 : Int32) from nI_0] at this
  exact this _ _ _ _ _ _ _ _ _ _ _ _ _ _ _ _ _ _ _ _ _ _ _ _ _ _ _ _ _ _ _ _ _ _ _ _ _ _ _ _ _ _ _ _ _ _ _ _ _ _ _ _ _ _ _ _ _ _ _ _ _ _ _ _ (by omega) (by omega) (by omega) (IV_0 h2)
