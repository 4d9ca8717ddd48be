/-! a feature more: case -/
theorem Fo_up {N v : Nat} {op : Nat → Nat} {oc : Nat → Int32} (h : Fo N op oc) (hN : N < 6) (h2 : 2 ≤ v) (h5 : v ≤ 5) : Fo (N + 1) (pt op N v) (upd oc N (nI v)) := by
  refine ⟨by omega, fun j hj => ?_⟩
  by_cases q : j = N
  · rw [q, pt_s, upd_s]; exact ⟨h2, h5, rfl⟩
  · rw [pt_n q, upd_n q]; exact h.2 j (by omega)
theorem Xm_up {N v : Nat} {op : Nat → Nat} {all : Int32} (hN : N < 6) (h5 : v ≤ 5) (ha : Xm all N op (fun _ _ => true)) : Xm (all ||| ((((1 : Int32) <<< (nI v &&& 31)) - (1 : Int32)) <<< (nI (5 * N) &&& 31))) (N + 1) (pt op N v) (fun _ _ => true) := by
  intro i hi
  rw [b_or, b_shl (5 * N) (by omega) _ hi, ha i hi, b_all v h5 _ (by omega), Bool.and_true, Bool.and_true]
  by_cases q : i / 5 = N
  · rw [q, pt_s, decide_eq_false (show ¬ i < 5 * N by omega), decide_eq_true (show i < 5 * (N + 1) by omega), decide_eq_true (show 5 * N ≤ i by omega), Bool.false_and, Bool.false_or, Bool.true_and, Bool.true_and]
    exact decide_eq_decide.mpr (by omega)
  · rw [pt_n q]
    by_cases q2 : i < 5 * N
    · rw [decide_eq_true q2, decide_eq_true (show i < 5 * (N + 1) by omega), decide_eq_false (show ¬ 5 * N ≤ i by omega), Bool.false_and, Bool.or_false]
    · rw [decide_eq_false q2, decide_eq_false (show ¬ i < 5 * (N + 1) by omega), Bool.false_and, Bool.false_or, Bool.and_eq_false_iff]
      right
      exact decide_eq_false (by omega)
theorem MM_up {N v : Nat} {os : List Nat} {ch op : Nat → Nat} {sz ft sz' : Int32} {ord opt ord' cho : Nat → Int32} (h : MM os ch op N sz ft ord opt sz' ord' cho) : MM os ch (pt op N v) (N + 1) sz ft ord opt sz' ord' (upd cho N (-1)) := by
  obtain ⟨hX, hm, hw⟩ := h
  refine ⟨hX, ⟨hm.1, hm.2.1, fun j hj => ?_⟩, hw.1, fun j hj => ?_⟩
  · by_cases q : j = N
    · rw [q, upd_s, if_neg (fun h => by have := (hw.2 N h).1; omega)]
    · rw [upd_n q]; exact hm.2.2 j (by omega)
  · obtain ⟨h1, h2⟩ := hw.2 j hj
    rw [pt_n (by omega)]
    exact ⟨by omega, h2⟩
theorem cuts_new {kd sa sb : Nat → Nat} {S : Int32} {N f a b : Nat} (ha : a < 5) (hb : b < 5) : ∀ {n : Nat}, (∀ r, r < n → sa r / 5 < N ∧ sb r / 5 < N) → cuts kd sa sb S n (5 * f + a) (5 * N + b) = false
  | 0, _ => rfl
  | n + 1, h => by
    have := h n (by omega)
    rw [cuts, cuts_new ha hb (fun r hr => h r (by omega)), cut_no ha hb (fun q => by omega) (fun q => by omega), Bool.and_false]
    rfl
theorem Ps_up {fu N v nr : Nat} {os : List Nat} {ch op : Nat → Nat} {sz ft on all : Int32} {ord opt oc : Nat → Int32} {kd sa sb : Nat → Nat} (hfu : 40 ≤ fu) (hX : Mx os ch sz ft ord opt) (hw : Mw os ch op N) (hF : Fo N op oc) (ha : Xm all N op (fun _ _ => true)) (hN : N < 6) (h2 : 2 ≤ v) (hn : RN sa sb nr N) (h : Ps N op os ch kd sa sb nr on) : Ps (N + 1) (pt op N v) os ch kd sa sb nr on := by
  intro p y hp hy
  obtain ⟨y0, -, h0⟩ := q_allowed hfu hX hw hF ha
  obtain ⟨c, hc⟩ := ex_iff.mp (h p y0 hp h0)
  obtain ⟨c1, c2, c3⟩ := mem_cf.mp hc
  have g1 : ∀ j, j < N → (c ++ [0]).getD j 0 = c.getD j 0 := fun j hj => gA (by omega)
  have g2 : (c ++ [0]).getD N 0 = 0 := by rw [← c1]; exact gB
  refine ex_iff.mpr ⟨c ++ [0], mem_cf.mpr ⟨by rw [List.length_append, c1]; rfl, fun j hj => ?_, fun i j hij hj => ?_⟩⟩
  · by_cases q : j = N
    · rw [q, g2]
      refine ⟨by omega, ?_⟩
      rw [Nat.zero_add, hy.at (by omega) (by omega) (by omega), pt_s, decide_eq_true (by omega), Bool.true_and]
      unfold Pq
      rw [if_neg (fun h => by have := (hw.2 N h.1).1; omega)]
    · have hj2 : j < N := by omega
      rw [g1 j hj2]
      obtain ⟨d1, d2⟩ := c2 j hj2
      refine ⟨d1, ?_⟩
      rw [Nat.zero_add] at d2 ⊢
      rw [h0.at (by omega) hj2 d1] at d2
      rw [hy.at (by omega) (by omega) d1, pt_n q]
      exact d2
  · by_cases q : j = N
    · have hi : i < N := by omega
      have d1 := (c2 i hi).1
      rw [q, g2, g1 i hi, Nat.zero_add, Nat.zero_add, hp.at (by omega) (by omega) d1 (by omega) (by omega), cuts_new d1 (by omega) hn]
      rfl
    · rw [g1 j (by omega), g1 i (by omega)]
      exact c3 i j hij (by omega)
theorem lt02 {x : Int32} (h : x < 0) : x < 2 := by
  rw [Int32.lt_iff_toInt_lt] at h ⊢
  have e0 : (0 : Int32).toInt = 0 := by decide
  have e2 : (2 : Int32).toInt = 2 := by decide
  omega
theorem w_add4 {N : Nat} (h : ¬ N < 6) {x y : Int32} {c : Nat → Int32} (hN : N ≤ 6 := by omega) : m_X4_add (nI N) x c y = some (0, nI N, x, c) := by
  unfold m_X4_add
  rw [if_neg (show ¬ nI N < (6 : Int32) by rw [show N = 6 by omega]; decide)]
theorem k_0 {fu : Nat} (hfu : 200000 ≤ fu) {xs : Nat → Int32} {x4 : Int32} {k23 : Int32 → Int32 → Int32 → (Nat → Int32) → Int32 → Int32 → (Nat → Int32) → (Nat → Int32) → (Nat → Int32) → Int32 → (Nat → Int32) → (Nat → Int32) → (Nat → Int32) → Int32 → (Nat → Int32) → Int32 → Int32 → (Nat → Int32) → (Nat → Int32) → (Nat → Int32) → (Nat → Int32) → Int32 → Int32 → Int32 → (Nat → Int32) → (Nat → Int32) → (Nat → Int32) → (Nat → Int32) → Int32 → Int32 → (Nat → Int32) → Int32 → Int32 → Int32 → Int32 → Int32 → Int32 → Int32 → Int32 → Int32 → Int32 → Int32 → Int32 → Int32 → (Nat → Int32) → (Nat → Int32) → (Nat → Int32) → (Nat → Int32) → (Nat → Int32) → (Nat → Int32) → (Nat → Int32) → (Nat → Int32) → (Nat → Int32) → (Nat → Int32) → (Nat → Int32) → (Nat → Int32) → (Nat → Int32) → (Nat → Int32) → (Nat → Int32) → (Nat → Int32) → (Nat → Int32) → (Nat → Int32) → (Nat → Int32) → (Nat → Int32) → (Nat → Int64) → Option Int32} (hk : KH x4 k23) {f_x_product_size : Int32} {f_x_product_all : Int32} {c_x_product_options : Nat → Int32} {f_x_ruleBook_size : Int32} {f_x_ruleBook_on : Int32} {c_x_ruleBook_kinds : Nat → Int32} {c_x_ruleBook_slots : Nat → Int32} {c_x_ruleBook_others : Nat → Int32} {f_x_prices_surcharges : Int32} {c_x_prices_ofSlots : Nat → Int32} {c_x_prices_both : Nat → Int32} {c_x_prices_amounts : Nat → Int32} {f_x_wishes_size : Int32} {c_x_wishes_slots : Nat → Int32} {f_x_made_size : Int32} {f_x_made_features : Int32} {c_x_made_order : Nat → Int32} {c_x_made_options : Nat → Int32} {c_x_pairs_partners : Nat → Int32} {c_x_trial_partners : Nat → Int32} {f_x_diagram_total : Int32} {f_x_diagram_size : Int32} {f_x_diagram_nextSize : Int32} {c_x_diagram_sets : Nat → Int32} {c_x_diagram_ways : Nat → Int32} {c_x_diagram_nextSets : Nat → Int32} {c_x_diagram_nextWays : Nat → Int32} {f_x_explanation_rules : Int32} {f_x_explanation_choosers : Int32} {c_x_explanation_kept_partners : Nat → Int32} {f_x_search_configuration : Int32} {f_x_search_isFound : Int32} {f_x_search_best : Int32} {f_x_search_sign : Int32} {f_m_thrown : Int32} {f_m_features : Int32} {f_m_rules : Int32} {f_m_on : Int32} {f_m_surcharges : Int32} {f_m_wishes : Int32} {f_m_choices : Int32} {f_m_whyRules : Int32} {f_m_whyChoices : Int32} {c_m_options : Nat → Int32} {c_m_kind : Nat → Int32} {c_m_one : Nat → Int32} {c_m_its : Nat → Int32} {c_m_other : Nat → Int32} {c_m_others : Nat → Int32} {c_m_price : Nat → Int32} {c_m_oneOf : Nat → Int32} {c_m_itsOption : Nat → Int32} {c_m_otherOf : Nat → Int32} {c_m_otherOption : Nat → Int32} {c_m_amount : Nat → Int32} {c_m_wish : Nat → Int32} {c_m_wished : Nat → Int32} {c_m_order : Nat → Int32} {c_m_chosen : Nat → Int32} {c_m_allowed : Nat → Int32} {c_m_pick : Nat → Int32} {c_m_now : Nat → Int32} {c_m_next : Nat → Int32} {c_o : Nat → Int64} (hI : IV f_x_product_size f_x_product_all c_x_product_options f_x_ruleBook_size f_x_ruleBook_on c_x_ruleBook_kinds c_x_ruleBook_slots c_x_ruleBook_others f_x_prices_surcharges c_x_prices_ofSlots c_x_prices_both c_x_prices_amounts f_x_wishes_size c_x_wishes_slots f_x_made_size f_x_made_features c_x_made_order c_x_made_options c_x_pairs_partners f_m_features f_m_rules f_m_on f_m_surcharges f_m_wishes f_m_choices c_m_options c_m_kind c_m_one c_m_its c_m_other c_m_others c_m_price c_m_oneOf c_m_itsOption c_m_otherOf c_m_otherOption c_m_amount c_m_wish c_m_wished c_m_order c_m_chosen) : ((m_L_addFeature f_x_product_size f_x_product_all c_x_product_options c_o (xs (x4 + (1 : Int32)).toNatClampNeg)).bind fun u_5 => if u_5.1 = none then (m_X10_addFeature f_m_thrown f_m_features c_m_options c_m_chosen (xs (x4 + (1 : Int32)).toNatClampNeg)).bind fun u_6 => (m_X10_thrown u_6.2.1).bind fun u_7 => if u_7 = u_5.2.1 then if u_5.2.1 = (0 : Int32) then if lg_cmp (u_5.2.2.2.2.2 ((0 : Int32)).toNatClampNeg) u_6.1.toInt64 = (0 : Int32) then k23 (x4 + 6) u_5.2.2.1 u_5.2.2.2.1 u_5.2.2.2.2.1 f_x_ruleBook_size f_x_ruleBook_on c_x_ruleBook_kinds c_x_ruleBook_slots c_x_ruleBook_others f_x_prices_surcharges c_x_prices_ofSlots c_x_prices_both c_x_prices_amounts f_x_wishes_size c_x_wishes_slots f_x_made_size f_x_made_features c_x_made_order c_x_made_options c_x_pairs_partners c_x_trial_partners f_x_diagram_total f_x_diagram_size f_x_diagram_nextSize c_x_diagram_sets c_x_diagram_ways c_x_diagram_nextSets c_x_diagram_nextWays f_x_explanation_rules f_x_explanation_choosers c_x_explanation_kept_partners f_x_search_configuration f_x_search_isFound f_x_search_best f_x_search_sign u_6.2.1 u_6.2.2.1 f_m_rules f_m_on f_m_surcharges f_m_wishes f_m_choices f_m_whyRules f_m_whyChoices u_6.2.2.2.1 c_m_kind c_m_one c_m_its c_m_other c_m_others c_m_price c_m_oneOf c_m_itsOption c_m_otherOf c_m_otherOption c_m_amount c_m_wish c_m_wished c_m_order u_6.2.2.2.2 c_m_allowed c_m_pick c_m_now c_m_next u_5.2.2.2.2.2 else some (0 : Int32) else k23 (x4 + 6) u_5.2.2.1 u_5.2.2.2.1 u_5.2.2.2.2.1 f_x_ruleBook_size f_x_ruleBook_on c_x_ruleBook_kinds c_x_ruleBook_slots c_x_ruleBook_others f_x_prices_surcharges c_x_prices_ofSlots c_x_prices_both c_x_prices_amounts f_x_wishes_size c_x_wishes_slots f_x_made_size f_x_made_features c_x_made_order c_x_made_options c_x_pairs_partners c_x_trial_partners f_x_diagram_total f_x_diagram_size f_x_diagram_nextSize c_x_diagram_sets c_x_diagram_ways c_x_diagram_nextSets c_x_diagram_nextWays f_x_explanation_rules f_x_explanation_choosers c_x_explanation_kept_partners f_x_search_configuration f_x_search_isFound f_x_search_best f_x_search_sign u_6.2.1 u_6.2.2.1 f_m_rules f_m_on f_m_surcharges f_m_wishes f_m_choices f_m_whyRules f_m_whyChoices u_6.2.2.2.1 c_m_kind c_m_one c_m_its c_m_other c_m_others c_m_price c_m_oneOf c_m_itsOption c_m_otherOf c_m_otherOption c_m_amount c_m_wish c_m_wished c_m_order u_6.2.2.2.2 c_m_allowed c_m_pick c_m_now c_m_next u_5.2.2.2.2.2 else some (0 : Int32) else none) = some 1 := by
  obtain ⟨N, op, nr, kd, sa, sb, ns, su, sv, am, nw, w, os, ch, hi1, hi2, hi3, hi4, hi5, hi6⟩ := hI
  obtain ⟨hF, hFm, rfl, rfl, ha⟩ := hi1
  obtain ⟨hRN, hMb, hXB, rfl, rfl, rfl⟩ := hi2
  generalize xs (x4 + (1 : Int32)).toNatClampNeg = z1
  have hN := hF.1
  by_cases q0 : z1 < 2
  · have h9 : m_X9_addFeature (nI N) f_x_product_all c_x_product_options z1 = some (some "java/lang/IllegalArgumentException", 0, nI N, f_x_product_all, c_x_product_options) := by
      unfold m_X9_addFeature
      rw [if_pos q0]
    have hM : m_X10_addFeature f_m_thrown (nI N) c_m_options c_m_chosen z1 = some (0, 1, nI N, c_m_options, c_m_chosen) := by
      unfold m_X10_addFeature
      rw [in_lo q0, Option.bind_some, if_pos rfl]
    rw [w_addFeature_x1 h9, Option.bind_some, if_pos rfl, hM, Option.bind_some]
    unfold m_X10_thrown
    rw [Option.bind_some, if_pos rfl, if_neg (show ¬ (1 : Int32) = 0 by decide)]
    apply hk
    exact ⟨N, op, nr, kd, sa, sb, ns, su, sv, am, nw, w, os, ch, ⟨hF, hFm, rfl, rfl, ha⟩, ⟨hRN, hMb, hXB, rfl, rfl, rfl⟩, hi3, hi4, hi5, hi6⟩
  · by_cases q1 : z1 ≤ 5
    · obtain ⟨v, hv, rfl⟩ := nI_of (x := z1) (fun h => q0 (lt02 h))
      have hv2 : 2 ≤ v := Nat.le_of_not_lt (fun h => q0 ((nI_ltI (b := 2) hv (by omega)).mpr h))
      have hv5 : v ≤ 5 := (nI_leI (b := 5) hv (by omega)).mp q1
      by_cases hN6 : N < 6
      · have h9 : m_X9_addFeature (nI N) f_x_product_all c_x_product_options (nI v) = some (none, nI N, nI (N + 1), f_x_product_all ||| ((((1 : Int32) <<< (nI v &&& 31)) - (1 : Int32)) <<< (nI (5 * N) &&& 31)), upd c_x_product_options N (nI v)) := by
          unfold m_X9_addFeature m_X4_add
          rw [if_neg q0, if_pos q1, if_pos (show nI N < (6 : Int32) from (nlt (b := 6) (by omega) (by omega)).mpr hN6), if_neg (nI_in2 (by omega) (by omega)), nI_cl (by omega), n1, n5, Option.bind_some, if_neg (show ¬ (1 : Int32) = 0 by decide)]
          show some (none, nI (N + 1) - (1 : Int32), _) = _
          rw [nS]
        have hM : m_X10_addFeature f_m_thrown (nI N) c_m_options c_m_chosen (nI v) = some (nI N, 0, nI (N + 1), upd c_m_options N (nI v), upd c_m_chosen N (-1)) := by
          unfold m_X10_addFeature
          rw [in_ok q0 q1, Option.bind_some, if_neg (show ¬ (1 : Int32) = 0 by decide), if_neg (show ¬ nI N = (6 : Int32) from fun h => by have := (neq (b := 6) (by omega) (by omega)).mp h; omega), if_neg (nI_in2 (by omega) (by omega)), nI_cl (by omega), n1, nS]
        have hI3 : I3 (N + 1) ns su sv am f_x_prices_surcharges c_x_prices_ofSlots c_x_prices_both c_x_prices_amounts f_m_surcharges c_m_price c_m_oneOf c_m_itsOption c_m_otherOf c_m_otherOption c_m_amount := by
          obtain ⟨h1, h2⟩ := hi3
          exact ⟨⟨⟨h1.1.1, fun k hk => by have := h1.1.2 k hk; exact ⟨by omega, by omega, this.2.2⟩⟩, h1.2⟩, h2⟩
        have hI4 : I4 (N + 1) (pt op N v) nw w f_x_wishes_size c_x_wishes_slots f_m_wishes c_m_wish c_m_wished := by
          obtain ⟨h1, h2⟩ := hi4
          exact ⟨⟨h1.1, fun k hk => by have := h1.2 k hk; exact ⟨by omega, by rw [pt_n (by omega)]; exact this.2⟩⟩, h2⟩
        rw [w_addFeature_ok h9, Option.bind_some, if_pos rfl, hM, Option.bind_some]
        unfold m_X10_thrown
        rw [Option.bind_some, if_pos rfl, if_pos rfl]
        refine (if_pos (?_ : lg_cmp _ _ = 0)).trans ?_
        · exact lgS _
        apply hk
        exact ⟨N + 1, pt op N v, nr, kd, sa, sb, ns, su, sv, am, nw, w, os, ch, ⟨Fo_up hF hN6 hv2 hv5, Fo_up hFm hN6 hv2 hv5, rfl, rfl, Xm_up hN6 hv5 ha⟩, ⟨fun r hr => by have := hRN r hr; omega, hMb, hXB, rfl, rfl, rfl⟩, hI3, hI4, MM_up hi5, ⟨hi6.1, Ps_up (by omega : 40 ≤ fu) hi5.1 hi5.2.2 hFm ha hN6 hv2 hRN hi6.2⟩⟩
      · have h9 : m_X9_addFeature (nI N) f_x_product_all c_x_product_options (nI v) = some (some "java/lang/IllegalStateException", 0, nI N, f_x_product_all, c_x_product_options) := by
          unfold m_X9_addFeature
          rw [if_neg q0, if_pos q1, w_add4 hN6, Option.bind_some, if_pos rfl]
        have hM : m_X10_addFeature f_m_thrown (nI N) c_m_options c_m_chosen (nI v) = some (0, 2, nI N, c_m_options, c_m_chosen) := by
          unfold m_X10_addFeature
          rw [in_ok q0 q1, Option.bind_some, if_neg (show ¬ (1 : Int32) = 0 by decide), if_pos (show nI N = (6 : Int32) by rw [show N = 6 by omega]; rfl)]
        rw [w_addFeature_x2 h9, Option.bind_some, if_pos rfl, hM, Option.bind_some]
        unfold m_X10_thrown
        rw [Option.bind_some, if_pos rfl, if_neg (show ¬ (2 : Int32) = 0 by decide)]
        apply hk
        exact ⟨N, op, nr, kd, sa, sb, ns, su, sv, am, nw, w, os, ch, ⟨hF, hFm, rfl, rfl, ha⟩, ⟨hRN, hMb, hXB, rfl, rfl, rfl⟩, hi3, hi4, hi5, hi6⟩
    · have h9 : m_X9_addFeature (nI N) f_x_product_all c_x_product_options z1 = some (some "java/lang/IllegalArgumentException", 0, nI N, f_x_product_all, c_x_product_options) := by
        unfold m_X9_addFeature
        rw [if_neg q0, if_neg q1]
      have hM : m_X10_addFeature f_m_thrown (nI N) c_m_options c_m_chosen z1 = some (0, 1, nI N, c_m_options, c_m_chosen) := by
        unfold m_X10_addFeature
        rw [in_hi q0 q1, Option.bind_some, if_pos rfl]
      rw [w_addFeature_x1 h9, Option.bind_some, if_pos rfl, hM, Option.bind_some]
      unfold m_X10_thrown
      rw [Option.bind_some, if_pos rfl, if_neg (show ¬ (1 : Int32) = 0 by decide)]
      apply hk
      exact ⟨N, op, nr, kd, sa, sb, ns, su, sv, am, nw, w, os, ch, ⟨hF, hFm, rfl, rfl, ha⟩, ⟨hRN, hMb, hXB, rfl, rfl, rfl⟩, hi3, hi4, hi5, hi6⟩
