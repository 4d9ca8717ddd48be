/-! prices set, surcharges, defaults: cases -/
theorem in_lo {x a b : Int32} (h : x < a) : m_X10_in x a b = some 0 := by
  unfold m_X10_in
  rw [if_pos h]
theorem in_hi {x a b : Int32} (h0 : ¬ x < a) (h : ¬ x ≤ b) : m_X10_in x a b = some 0 := by
  unfold m_X10_in
  rw [if_neg h0, if_pos (Int32.not_le.mp h)]
theorem in_ok {x a b : Int32} (h0 : ¬ x < a) (h : x ≤ b) : m_X10_in x a b = some 1 := by
  unfold m_X10_in
  rw [if_neg h0, if_neg (fun h2 => absurd h (Int32.not_le.mpr h2))]
theorem Ar_up {c : Nat → Int32} {a a' : Nat → Nat} {n : Nat} {x : Int32} (h : Ar c a n) (hx : x = nI (a' n)) (ha : ∀ k, k < n → a' k = a k) : Ar (upd c n x) a' (n + 1) := fun k hk => by
  by_cases q : k = n
  · rw [q, upd_s, hx]
  · rw [upd_n q, h k (by omega), ha k (by omega)]
theorem pt_s {ch : Nat → Nat} {f a : Nat} : pt ch f a f = a := by unfold pt; rw [if_pos rfl]
theorem pt_n {ch : Nat → Nat} {f a j : Nat} (h : ¬ j = f) : pt ch f a j = ch j := by unfold pt; rw [if_neg h]
theorem w_add7 {ns : Nat} (h : ns = 10) {cb ca : Nat → Int32} {x y : Int32} : m_X7_add (nI ns) cb ca x y = some (0, nI ns, cb, ca) := by
  unfold m_X7_add
  rw [if_neg (show ¬ nI ns < (10 : Int32) by rw [h]; decide)]
theorem k_3 {fu : Nat} (hfu : 200000 ≤ fu) {xs : Nat → Int32} {x4 : Int32} {k23 : Int32 → Int32 → Int32 → (Nat → Int32) → Int32 → Int32 → (Nat → Int32) → (Nat → Int32) → (Nat → Int32) → Int32 → (Nat → Int32) → (Nat → Int32) → (Nat → Int32) → Int32 → (Nat → Int32) → Int32 → Int32 → (Nat → Int32) → (Nat → Int32) → (Nat → Int32) → (Nat → Int32) → Int32 → Int32 → Int32 → (Nat → Int32) → (Nat → Int32) → (Nat → Int32) → (Nat → Int32) → Int32 → Int32 → (Nat → Int32) → Int32 → Int32 → Int32 → Int32 → Int32 → Int32 → Int32 → Int32 → Int32 → Int32 → Int32 → Int32 → Int32 → (Nat → Int32) → (Nat → Int32) → (Nat → Int32) → (Nat → Int32) → (Nat → Int32) → (Nat → Int32) → (Nat → Int32) → (Nat → Int32) → (Nat → Int32) → (Nat → Int32) → (Nat → Int32) → (Nat → Int32) → (Nat → Int32) → (Nat → Int32) → (Nat → Int32) → (Nat → Int32) → (Nat → Int32) → (Nat → Int32) → (Nat → Int32) → (Nat → Int32) → (Nat → Int64) → Option Int32} (hk : KH x4 k23) {f_x_product_size : Int32} {f_x_product_all : Int32} {c_x_product_options : Nat → Int32} {f_x_ruleBook_size : Int32} {f_x_ruleBook_on : Int32} {c_x_ruleBook_kinds : Nat → Int32} {c_x_ruleBook_slots : Nat → Int32} {c_x_ruleBook_others : Nat → Int32} {f_x_prices_surcharges : Int32} {c_x_prices_ofSlots : Nat → Int32} {c_x_prices_both : Nat → Int32} {c_x_prices_amounts : Nat → Int32} {f_x_wishes_size : Int32} {c_x_wishes_slots : Nat → Int32} {f_x_made_size : Int32} {f_x_made_features : Int32} {c_x_made_order : Nat → Int32} {c_x_made_options : Nat → Int32} {c_x_pairs_partners : Nat → Int32} {c_x_trial_partners : Nat → Int32} {f_x_diagram_total : Int32} {f_x_diagram_size : Int32} {f_x_diagram_nextSize : Int32} {c_x_diagram_sets : Nat → Int32} {c_x_diagram_ways : Nat → Int32} {c_x_diagram_nextSets : Nat → Int32} {c_x_diagram_nextWays : Nat → Int32} {f_x_explanation_rules : Int32} {f_x_explanation_choosers : Int32} {c_x_explanation_kept_partners : Nat → Int32} {f_x_search_configuration : Int32} {f_x_search_isFound : Int32} {f_x_search_best : Int32} {f_x_search_sign : Int32} {f_m_thrown : Int32} {f_m_features : Int32} {f_m_rules : Int32} {f_m_on : Int32} {f_m_surcharges : Int32} {f_m_wishes : Int32} {f_m_choices : Int32} {f_m_whyRules : Int32} {f_m_whyChoices : Int32} {c_m_options : Nat → Int32} {c_m_kind : Nat → Int32} {c_m_one : Nat → Int32} {c_m_its : Nat → Int32} {c_m_other : Nat → Int32} {c_m_others : Nat → Int32} {c_m_price : Nat → Int32} {c_m_oneOf : Nat → Int32} {c_m_itsOption : Nat → Int32} {c_m_otherOf : Nat → Int32} {c_m_otherOption : Nat → Int32} {c_m_amount : Nat → Int32} {c_m_wish : Nat → Int32} {c_m_wished : Nat → Int32} {c_m_order : Nat → Int32} {c_m_chosen : Nat → Int32} {c_m_allowed : Nat → Int32} {c_m_pick : Nat → Int32} {c_m_now : Nat → Int32} {c_m_next : Nat → Int32} {c_o : Nat → Int64} (hI : IV f_x_product_size f_x_product_all c_x_product_options f_x_ruleBook_size f_x_ruleBook_on c_x_ruleBook_kinds c_x_ruleBook_slots c_x_ruleBook_others f_x_prices_surcharges c_x_prices_ofSlots c_x_prices_both c_x_prices_amounts f_x_wishes_size c_x_wishes_slots f_x_made_size f_x_made_features c_x_made_order c_x_made_options c_x_pairs_partners f_m_features f_m_rules f_m_on f_m_surcharges f_m_wishes f_m_choices c_m_options c_m_kind c_m_one c_m_its c_m_other c_m_others c_m_price c_m_oneOf c_m_itsOption c_m_otherOf c_m_otherOption c_m_amount c_m_wish c_m_wished c_m_order c_m_chosen) : ((m_L_setPrice f_x_product_size c_x_product_options c_x_prices_ofSlots c_o (xs (x4 + (1 : Int32)).toNatClampNeg) (xs (x4 + (2 : Int32)).toNatClampNeg) (xs (x4 + (3 : Int32)).toNatClampNeg)).bind fun u_50 => if u_50.1 = none then (m_X10_setPrice f_m_thrown f_m_features c_m_options c_m_price (xs (x4 + (1 : Int32)).toNatClampNeg) (xs (x4 + (2 : Int32)).toNatClampNeg) (xs (x4 + (3 : Int32)).toNatClampNeg)).bind fun u_51 => (m_X10_thrown u_51.2.1).bind fun u_52 => if u_52 = u_50.2.1 then if u_50.2.1 = (0 : Int32) then if lg_cmp (u_50.2.2.2 ((0 : Int32)).toNatClampNeg) u_51.1.toInt64 = (0 : Int32) then k23 (x4 + 6) f_x_product_size f_x_product_all c_x_product_options f_x_ruleBook_size f_x_ruleBook_on c_x_ruleBook_kinds c_x_ruleBook_slots c_x_ruleBook_others f_x_prices_surcharges u_50.2.2.1 c_x_prices_both c_x_prices_amounts f_x_wishes_size c_x_wishes_slots f_x_made_size f_x_made_features c_x_made_order c_x_made_options c_x_pairs_partners c_x_trial_partners f_x_diagram_total f_x_diagram_size f_x_diagram_nextSize c_x_diagram_sets c_x_diagram_ways c_x_diagram_nextSets c_x_diagram_nextWays f_x_explanation_rules f_x_explanation_choosers c_x_explanation_kept_partners f_x_search_configuration f_x_search_isFound f_x_search_best f_x_search_sign u_51.2.1 f_m_features f_m_rules f_m_on f_m_surcharges f_m_wishes f_m_choices f_m_whyRules f_m_whyChoices c_m_options c_m_kind c_m_one c_m_its c_m_other c_m_others u_51.2.2 c_m_oneOf c_m_itsOption c_m_otherOf c_m_otherOption c_m_amount c_m_wish c_m_wished c_m_order c_m_chosen c_m_allowed c_m_pick c_m_now c_m_next u_50.2.2.2 else some (0 : Int32) else k23 (x4 + 6) f_x_product_size f_x_product_all c_x_product_options f_x_ruleBook_size f_x_ruleBook_on c_x_ruleBook_kinds c_x_ruleBook_slots c_x_ruleBook_others f_x_prices_surcharges u_50.2.2.1 c_x_prices_both c_x_prices_amounts f_x_wishes_size c_x_wishes_slots f_x_made_size f_x_made_features c_x_made_order c_x_made_options c_x_pairs_partners c_x_trial_partners f_x_diagram_total f_x_diagram_size f_x_diagram_nextSize c_x_diagram_sets c_x_diagram_ways c_x_diagram_nextSets c_x_diagram_nextWays f_x_explanation_rules f_x_explanation_choosers c_x_explanation_kept_partners f_x_search_configuration f_x_search_isFound f_x_search_best f_x_search_sign u_51.2.1 f_m_features f_m_rules f_m_on f_m_surcharges f_m_wishes f_m_choices f_m_whyRules f_m_whyChoices c_m_options c_m_kind c_m_one c_m_its c_m_other c_m_others u_51.2.2 c_m_oneOf c_m_itsOption c_m_otherOf c_m_otherOption c_m_amount c_m_wish c_m_wished c_m_order c_m_chosen c_m_allowed c_m_pick c_m_now c_m_next u_50.2.2.2 else some (0 : Int32) else none) = some 1 := by
  obtain ⟨N, op, nr, kd, sa, sb, ns, su, sv, am, nw, w, os, ch, hi1, hi2, hi3, hi4, hi5, hi6⟩ := hI
  obtain ⟨hF, hFm, rfl, rfl, ha⟩ := hi1
  obtain ⟨hRN, hMb, hXB, rfl, rfl, rfl⟩ := hi2
  obtain ⟨hPc, hSX, hSM, rfl, rfl, hpr⟩ := hi3
  generalize xs (x4 + (1 : Int32)).toNatClampNeg = z1
  generalize xs (x4 + (2 : Int32)).toNatClampNeg = z2
  generalize xs (x4 + (3 : Int32)).toNatClampNeg = z3
  rcases chk_o hFm hF z1 z2 with ⟨f, a, hf, hao, rfl, rfl, e1, e2⟩ | ⟨e1, e2⟩
  · have hN := hF.1
    have h5 := hFm.le5 f hf
    by_cases q0 : z3 < 0
    · have h9 : m_X9_setPrice (nI N) c_x_product_options c_x_prices_ofSlots (nI f) (nI a) z3 = some (some "java/lang/IllegalArgumentException", 0, c_x_prices_ofSlots) := by
        unfold m_X9_setPrice
        rw [e1, Option.bind_some, if_pos rfl, if_pos q0]
      have hM : m_X10_setPrice f_m_thrown (nI N) c_m_options c_m_price (nI f) (nI a) z3 = some (0, 2, c_m_price) := by
        unfold m_X10_setPrice
        rw [e2, Option.bind_some, if_neg (show ¬ (1 : Int32) = 0 by decide), in_lo q0, Option.bind_some, if_pos rfl]
      rw [w_setPrice_x2 h9, Option.bind_some, if_pos rfl, hM, Option.bind_some]
      unfold m_X10_thrown
      rw [Option.bind_some, if_pos rfl, if_neg (show ¬ (2 : Int32) = 0 by decide)]
      apply hk
      exact ⟨N, op, nr, kd, sa, sb, ns, su, sv, am, nw, w, os, ch, ⟨hF, hFm, rfl, rfl, ha⟩, ⟨hRN, hMb, hXB, rfl, rfl, rfl⟩, ⟨hPc, hSX, hSM, rfl, rfl, hpr⟩, hi4, hi5, hi6⟩
    · by_cases q1 : z3 ≤ 1000
      · have h9 : m_X9_setPrice (nI N) c_x_product_options c_x_prices_ofSlots (nI f) (nI a) z3 = some (none, c_m_price (5 * f + a), upd c_x_prices_ofSlots (5 * f + a) z3) := by
          unfold m_X9_setPrice
          rw [e1, Option.bind_some, if_pos rfl, if_neg q0, if_pos q1, q_slotOf, Option.bind_some, if_neg (nI_in2 (by omega) (by omega)), nI_cl (by omega), hpr _ (by omega)]
        have hM : m_X10_setPrice f_m_thrown (nI N) c_m_options c_m_price (nI f) (nI a) z3 = some (c_m_price (5 * f + a), 0, upd c_m_price (5 * f + a) z3) := by
          unfold m_X10_setPrice
          rw [e2, Option.bind_some, if_neg (show ¬ (1 : Int32) = 0 by decide), in_ok q0 q1, Option.bind_some, if_neg (show ¬ (1 : Int32) = 0 by decide), n5c, nI_add, if_neg (nI_in2 (by omega) (by omega)), nI_cl (by omega)]
        have hI3 : I3 N ns su sv am (nI ns) (upd c_x_prices_ofSlots (5 * f + a) z3) c_x_prices_both c_x_prices_amounts (nI ns) (upd c_m_price (5 * f + a) z3) c_m_oneOf c_m_itsOption c_m_otherOf c_m_otherOption c_m_amount := by
          refine ⟨⟨hPc.1, fun i hi => ?_⟩, hSX, hSM, rfl, rfl, fun i hi => ?_⟩
          · by_cases qi : i = 5 * f + a
            · rw [qi, upd_s]; exact ⟨Int32.not_lt.mp q0, q1⟩
            · rw [upd_n qi]; exact hPc.2 i hi
          · by_cases qi : i = 5 * f + a
            · rw [qi, upd_s, upd_s]
            · rw [upd_n qi, upd_n qi]; exact hpr i hi
        rw [w_setPrice_ok h9, Option.bind_some, if_pos rfl, hM, Option.bind_some]
        unfold m_X10_thrown
        rw [Option.bind_some, if_pos rfl, if_pos rfl]
        refine (if_pos (?_ : lg_cmp _ _ = 0)).trans ?_
        · exact lgS _
        apply hk
        exact ⟨N, op, nr, kd, sa, sb, ns, su, sv, am, nw, w, os, ch, ⟨hF, hFm, rfl, rfl, ha⟩, ⟨hRN, hMb, hXB, rfl, rfl, rfl⟩, hI3, hi4, hi5, hi6⟩
      · have h9 : m_X9_setPrice (nI N) c_x_product_options c_x_prices_ofSlots (nI f) (nI a) z3 = some (some "java/lang/IllegalArgumentException", 0, c_x_prices_ofSlots) := by
          unfold m_X9_setPrice
          rw [e1, Option.bind_some, if_pos rfl, if_neg q0, if_neg q1]
        have hM : m_X10_setPrice f_m_thrown (nI N) c_m_options c_m_price (nI f) (nI a) z3 = some (0, 2, c_m_price) := by
          unfold m_X10_setPrice
          rw [e2, Option.bind_some, if_neg (show ¬ (1 : Int32) = 0 by decide), in_hi q0 q1, Option.bind_some, if_pos rfl]
        rw [w_setPrice_x2 h9, Option.bind_some, if_pos rfl, hM, Option.bind_some]
        unfold m_X10_thrown
        rw [Option.bind_some, if_pos rfl, if_neg (show ¬ (2 : Int32) = 0 by decide)]
        apply hk
        exact ⟨N, op, nr, kd, sa, sb, ns, su, sv, am, nw, w, os, ch, ⟨hF, hFm, rfl, rfl, ha⟩, ⟨hRN, hMb, hXB, rfl, rfl, rfl⟩, ⟨hPc, hSX, hSM, rfl, rfl, hpr⟩, hi4, hi5, hi6⟩
  · have h9 : m_X9_setPrice (nI N) c_x_product_options c_x_prices_ofSlots z1 z2 z3 = some (some "java/lang/IndexOutOfBoundsException", 0, c_x_prices_ofSlots) := by
      unfold m_X9_setPrice
      rw [e1, Option.bind_some, if_neg (by simp)]
    have hM : m_X10_setPrice f_m_thrown (nI N) c_m_options c_m_price z1 z2 z3 = some (0, 1, c_m_price) := by
      unfold m_X10_setPrice
      rw [e2, Option.bind_some, if_pos rfl]
    rw [w_setPrice_x1 h9, Option.bind_some, if_pos rfl, hM, Option.bind_some]
    unfold m_X10_thrown
    rw [Option.bind_some, if_pos rfl, if_neg (show ¬ (1 : Int32) = 0 by decide)]
    apply hk
    exact ⟨N, op, nr, kd, sa, sb, ns, su, sv, am, nw, w, os, ch, ⟨hF, hFm, rfl, rfl, ha⟩, ⟨hRN, hMb, hXB, rfl, rfl, rfl⟩, ⟨hPc, hSX, hSM, rfl, rfl, hpr⟩, hi4, hi5, hi6⟩
theorem k_5 {fu : Nat} (hfu : 200000 ≤ fu) {xs : Nat → Int32} {x4 : Int32} {k23 : Int32 → Int32 → Int32 → (Nat → Int32) → Int32 → Int32 → (Nat → Int32) → (Nat → Int32) → (Nat → Int32) → Int32 → (Nat → Int32) → (Nat → Int32) → (Nat → Int32) → Int32 → (Nat → Int32) → Int32 → Int32 → (Nat → Int32) → (Nat → Int32) → (Nat → Int32) → (Nat → Int32) → Int32 → Int32 → Int32 → (Nat → Int32) → (Nat → Int32) → (Nat → Int32) → (Nat → Int32) → Int32 → Int32 → (Nat → Int32) → Int32 → Int32 → Int32 → Int32 → Int32 → Int32 → Int32 → Int32 → Int32 → Int32 → Int32 → Int32 → Int32 → (Nat → Int32) → (Nat → Int32) → (Nat → Int32) → (Nat → Int32) → (Nat → Int32) → (Nat → Int32) → (Nat → Int32) → (Nat → Int32) → (Nat → Int32) → (Nat → Int32) → (Nat → Int32) → (Nat → Int32) → (Nat → Int32) → (Nat → Int32) → (Nat → Int32) → (Nat → Int32) → (Nat → Int32) → (Nat → Int32) → (Nat → Int32) → (Nat → Int32) → (Nat → Int64) → Option Int32} (hk : KH x4 k23) {f_x_product_size : Int32} {f_x_product_all : Int32} {c_x_product_options : Nat → Int32} {f_x_ruleBook_size : Int32} {f_x_ruleBook_on : Int32} {c_x_ruleBook_kinds : Nat → Int32} {c_x_ruleBook_slots : Nat → Int32} {c_x_ruleBook_others : Nat → Int32} {f_x_prices_surcharges : Int32} {c_x_prices_ofSlots : Nat → Int32} {c_x_prices_both : Nat → Int32} {c_x_prices_amounts : Nat → Int32} {f_x_wishes_size : Int32} {c_x_wishes_slots : Nat → Int32} {f_x_made_size : Int32} {f_x_made_features : Int32} {c_x_made_order : Nat → Int32} {c_x_made_options : Nat → Int32} {c_x_pairs_partners : Nat → Int32} {c_x_trial_partners : Nat → Int32} {f_x_diagram_total : Int32} {f_x_diagram_size : Int32} {f_x_diagram_nextSize : Int32} {c_x_diagram_sets : Nat → Int32} {c_x_diagram_ways : Nat → Int32} {c_x_diagram_nextSets : Nat → Int32} {c_x_diagram_nextWays : Nat → Int32} {f_x_explanation_rules : Int32} {f_x_explanation_choosers : Int32} {c_x_explanation_kept_partners : Nat → Int32} {f_x_search_configuration : Int32} {f_x_search_isFound : Int32} {f_x_search_best : Int32} {f_x_search_sign : Int32} {f_m_thrown : Int32} {f_m_features : Int32} {f_m_rules : Int32} {f_m_on : Int32} {f_m_surcharges : Int32} {f_m_wishes : Int32} {f_m_choices : Int32} {f_m_whyRules : Int32} {f_m_whyChoices : Int32} {c_m_options : Nat → Int32} {c_m_kind : Nat → Int32} {c_m_one : Nat → Int32} {c_m_its : Nat → Int32} {c_m_other : Nat → Int32} {c_m_others : Nat → Int32} {c_m_price : Nat → Int32} {c_m_oneOf : Nat → Int32} {c_m_itsOption : Nat → Int32} {c_m_otherOf : Nat → Int32} {c_m_otherOption : Nat → Int32} {c_m_amount : Nat → Int32} {c_m_wish : Nat → Int32} {c_m_wished : Nat → Int32} {c_m_order : Nat → Int32} {c_m_chosen : Nat → Int32} {c_m_allowed : Nat → Int32} {c_m_pick : Nat → Int32} {c_m_now : Nat → Int32} {c_m_next : Nat → Int32} {c_o : Nat → Int64} (hI : IV f_x_product_size f_x_product_all c_x_product_options f_x_ruleBook_size f_x_ruleBook_on c_x_ruleBook_kinds c_x_ruleBook_slots c_x_ruleBook_others f_x_prices_surcharges c_x_prices_ofSlots c_x_prices_both c_x_prices_amounts f_x_wishes_size c_x_wishes_slots f_x_made_size f_x_made_features c_x_made_order c_x_made_options c_x_pairs_partners f_m_features f_m_rules f_m_on f_m_surcharges f_m_wishes f_m_choices c_m_options c_m_kind c_m_one c_m_its c_m_other c_m_others c_m_price c_m_oneOf c_m_itsOption c_m_otherOf c_m_otherOption c_m_amount c_m_wish c_m_wished c_m_order c_m_chosen) : ((m_L_addDefault f_x_product_size c_x_product_options f_x_wishes_size c_x_wishes_slots c_o (xs (x4 + (1 : Int32)).toNatClampNeg) (xs (x4 + (2 : Int32)).toNatClampNeg)).bind fun u_62 => if u_62.1 = none then (m_X10_addDefault f_m_thrown f_m_features f_m_wishes c_m_options c_m_wish c_m_wished (xs (x4 + (1 : Int32)).toNatClampNeg) (xs (x4 + (2 : Int32)).toNatClampNeg)).bind fun u_63 => (m_X10_thrown u_63.2.1).bind fun u_64 => if u_64 = u_62.2.1 then if u_62.2.1 = (0 : Int32) then if lg_cmp (u_62.2.2.2.2 ((0 : Int32)).toNatClampNeg) u_63.1.toInt64 = (0 : Int32) then k23 (x4 + 6) f_x_product_size f_x_product_all c_x_product_options f_x_ruleBook_size f_x_ruleBook_on c_x_ruleBook_kinds c_x_ruleBook_slots c_x_ruleBook_others f_x_prices_surcharges c_x_prices_ofSlots c_x_prices_both c_x_prices_amounts u_62.2.2.1 u_62.2.2.2.1 f_x_made_size f_x_made_features c_x_made_order c_x_made_options c_x_pairs_partners c_x_trial_partners f_x_diagram_total f_x_diagram_size f_x_diagram_nextSize c_x_diagram_sets c_x_diagram_ways c_x_diagram_nextSets c_x_diagram_nextWays f_x_explanation_rules f_x_explanation_choosers c_x_explanation_kept_partners f_x_search_configuration f_x_search_isFound f_x_search_best f_x_search_sign u_63.2.1 f_m_features f_m_rules f_m_on f_m_surcharges u_63.2.2.1 f_m_choices f_m_whyRules f_m_whyChoices c_m_options c_m_kind c_m_one c_m_its c_m_other c_m_others c_m_price c_m_oneOf c_m_itsOption c_m_otherOf c_m_otherOption c_m_amount u_63.2.2.2.1 u_63.2.2.2.2 c_m_order c_m_chosen c_m_allowed c_m_pick c_m_now c_m_next u_62.2.2.2.2 else some (0 : Int32) else k23 (x4 + 6) f_x_product_size f_x_product_all c_x_product_options f_x_ruleBook_size f_x_ruleBook_on c_x_ruleBook_kinds c_x_ruleBook_slots c_x_ruleBook_others f_x_prices_surcharges c_x_prices_ofSlots c_x_prices_both c_x_prices_amounts u_62.2.2.1 u_62.2.2.2.1 f_x_made_size f_x_made_features c_x_made_order c_x_made_options c_x_pairs_partners c_x_trial_partners f_x_diagram_total f_x_diagram_size f_x_diagram_nextSize c_x_diagram_sets c_x_diagram_ways c_x_diagram_nextSets c_x_diagram_nextWays f_x_explanation_rules f_x_explanation_choosers c_x_explanation_kept_partners f_x_search_configuration f_x_search_isFound f_x_search_best f_x_search_sign u_63.2.1 f_m_features f_m_rules f_m_on f_m_surcharges u_63.2.2.1 f_m_choices f_m_whyRules f_m_whyChoices c_m_options c_m_kind c_m_one c_m_its c_m_other c_m_others c_m_price c_m_oneOf c_m_itsOption c_m_otherOf c_m_otherOption c_m_amount u_63.2.2.2.1 u_63.2.2.2.2 c_m_order c_m_chosen c_m_allowed c_m_pick c_m_now c_m_next u_62.2.2.2.2 else some (0 : Int32) else none) = some 1 := by
  obtain ⟨N, op, nr, kd, sa, sb, ns, su, sv, am, nw, w, os, ch, hi1, hi2, hi3, hi4, hi5, hi6⟩ := hI
  obtain ⟨hF, hFm, rfl, rfl, ha⟩ := hi1
  obtain ⟨hRN, hMb, hXB, rfl, rfl, rfl⟩ := hi2
  obtain ⟨hW, hWX, rfl, rfl⟩ := hi4
  generalize xs (x4 + (1 : Int32)).toNatClampNeg = z1
  generalize xs (x4 + (2 : Int32)).toNatClampNeg = z2
  have hnw := hW.1
  rcases chk_o hFm hF z1 z2 with ⟨f, a, hf, hao, rfl, rfl, e1, e2⟩ | ⟨e1, e2⟩
  · have hN := hF.1
    have h5 := hFm.le5 f hf
    by_cases q : nw < 12
    · have h9 : m_X9_addDefault (nI N) c_x_product_options (nI nw) c_x_wishes_slots (nI f) (nI a) = some (none, nI (nw + 1), nI (nw + 1), upd c_x_wishes_slots nw (nI (5 * f + a))) := by
        unfold m_X9_addDefault m_X1_add
        rw [e1, Option.bind_some, if_pos rfl, q_slotOf, Option.bind_some, if_pos (show nI nw < (12 : Int32) from (nlt (b := 12) (by omega) (by omega)).mpr q), if_neg (nI_in2 (by omega) (by omega)), nI_cl (by omega), n1, Option.bind_some, if_neg (show ¬ (1 : Int32) = 0 by decide)]
      have hM : m_X10_addDefault f_m_thrown (nI N) (nI nw) c_m_options c_m_wish c_m_wished (nI f) (nI a) = some (nI (nw + 1), 0, nI (nw + 1), upd c_m_wish nw (nI f), upd c_m_wished nw (nI a)) := by
        unfold m_X10_addDefault
        rw [e2, Option.bind_some, if_neg (show ¬ (1 : Int32) = 0 by decide), if_neg (show ¬ nI nw = (12 : Int32) from fun h => by have := (neq (b := 12) (by omega) (by omega)).mp h; omega), if_neg (nI_in2 (by omega) (by omega)), nI_cl (by omega), n1]
      have hI4 : I4 N op (nw + 1) (pt w nw (5 * f + a)) (nI (nw + 1)) (upd c_x_wishes_slots nw (nI (5 * f + a))) (nI (nw + 1)) (upd c_m_wish nw (nI f)) (upd c_m_wished nw (nI a)) := by
        refine ⟨⟨by omega, fun k hk => ?_⟩, ⟨Ar_up hWX.1 (by rw [pt_s]) (fun k hk => pt_n (by omega)), Ar_up hWX.2.1 (by rw [pt_s, show (5 * f + a) / 5 = f by omega]) (fun k hk => by rw [pt_n (by omega)]), Ar_up hWX.2.2 (by rw [pt_s, show (5 * f + a) % 5 = a by omega]) (fun k hk => by rw [pt_n (by omega)])⟩, rfl, rfl⟩
        by_cases qk : k = nw
        · rw [qk, pt_s, show (5 * f + a) / 5 = f by omega, show (5 * f + a) % 5 = a by omega]; exact ⟨hf, hao⟩
        · rw [pt_n qk]; exact hW.2 k (by omega)
      rw [w_addDefault_ok h9, Option.bind_some, if_pos rfl, hM, Option.bind_some]
      unfold m_X10_thrown
      rw [Option.bind_some, if_pos rfl, if_pos rfl]
      refine (if_pos (?_ : lg_cmp _ _ = 0)).trans ?_
      · exact lgS _
      apply hk
      exact ⟨N, op, nr, kd, sa, sb, ns, su, sv, am, nw + 1, pt w nw (5 * f + a), os, ch, ⟨hF, hFm, rfl, rfl, ha⟩, ⟨hRN, hMb, hXB, rfl, rfl, rfl⟩, hi3, hI4, hi5, hi6⟩
    · have h12 : nw = 12 := by omega
      have h9 : m_X9_addDefault (nI N) c_x_product_options (nI nw) c_x_wishes_slots (nI f) (nI a) = some (some "java/lang/IllegalStateException", 0, nI nw, c_x_wishes_slots) := by
        unfold m_X9_addDefault m_X1_add
        rw [e1, Option.bind_some, if_pos rfl, q_slotOf, Option.bind_some, if_neg (show ¬ nI nw < (12 : Int32) from fun h => q ((nlt (b := 12) (by omega) (by omega)).mp h)), Option.bind_some, if_pos rfl]
      have hM : m_X10_addDefault f_m_thrown (nI N) (nI nw) c_m_options c_m_wish c_m_wished (nI f) (nI a) = some (0, 2, nI nw, c_m_wish, c_m_wished) := by
        unfold m_X10_addDefault
        rw [e2, Option.bind_some, if_neg (show ¬ (1 : Int32) = 0 by decide), if_pos (show nI nw = (12 : Int32) by rw [h12]; rfl)]
      rw [w_addDefault_x2 h9, Option.bind_some, if_pos rfl, hM, Option.bind_some]
      unfold m_X10_thrown
      rw [Option.bind_some, if_pos rfl, if_neg (show ¬ (2 : Int32) = 0 by decide)]
      apply hk
      exact ⟨N, op, nr, kd, sa, sb, ns, su, sv, am, nw, w, os, ch, ⟨hF, hFm, rfl, rfl, ha⟩, ⟨hRN, hMb, hXB, rfl, rfl, rfl⟩, hi3, ⟨hW, hWX, rfl, rfl⟩, hi5, hi6⟩
  · have h9 : m_X9_addDefault (nI N) c_x_product_options (nI nw) c_x_wishes_slots z1 z2 = some (some "java/lang/IndexOutOfBoundsException", 0, nI nw, c_x_wishes_slots) := by
      unfold m_X9_addDefault
      rw [e1, Option.bind_some, if_neg (by simp)]
    have hM : m_X10_addDefault f_m_thrown (nI N) (nI nw) c_m_options c_m_wish c_m_wished z1 z2 = some (0, 1, nI nw, c_m_wish, c_m_wished) := by
      unfold m_X10_addDefault
      rw [e2, Option.bind_some, if_pos rfl]
    rw [w_addDefault_x1 h9, Option.bind_some, if_pos rfl, hM, Option.bind_some]
    unfold m_X10_thrown
    rw [Option.bind_some, if_pos rfl, if_neg (show ¬ (1 : Int32) = 0 by decide)]
    apply hk
    exact ⟨N, op, nr, kd, sa, sb, ns, su, sv, am, nw, w, os, ch, ⟨hF, hFm, rfl, rfl, ha⟩, ⟨hRN, hMb, hXB, rfl, rfl, rfl⟩, hi3, ⟨hW, hWX, rfl, rfl⟩, hi5, hi6⟩
theorem chk_d {a b : Nat} (ha : a < 2000) (hb : b < 2000) : m_X9_checkDifferent (nI a) (nI b) = some (if a = b then some "java/lang/IllegalArgumentException" else none, 0) := by
  unfold m_X9_checkDifferent
  by_cases q : a = b
  · rw [if_pos (by rw [q]), if_pos q]
  · rw [if_neg (fun h => q ((neq ha hb).mp h)), if_neg q]
theorem k_4 {fu : Nat} (hfu : 200000 ≤ fu) {xs : Nat → Int32} {x4 : Int32} {k23 : Int32 → Int32 → Int32 → (Nat → Int32) → Int32 → Int32 → (Nat → Int32) → (Nat → Int32) → (Nat → Int32) → Int32 → (Nat → Int32) → (Nat → Int32) → (Nat → Int32) → Int32 → (Nat → Int32) → Int32 → Int32 → (Nat → Int32) → (Nat → Int32) → (Nat → Int32) → (Nat → Int32) → Int32 → Int32 → Int32 → (Nat → Int32) → (Nat → Int32) → (Nat → Int32) → (Nat → Int32) → Int32 → Int32 → (Nat → Int32) → Int32 → Int32 → Int32 → Int32 → Int32 → Int32 → Int32 → Int32 → Int32 → Int32 → Int32 → Int32 → Int32 → (Nat → Int32) → (Nat → Int32) → (Nat → Int32) → (Nat → Int32) → (Nat → Int32) → (Nat → Int32) → (Nat → Int32) → (Nat → Int32) → (Nat → Int32) → (Nat → Int32) → (Nat → Int32) → (Nat → Int32) → (Nat → Int32) → (Nat → Int32) → (Nat → Int32) → (Nat → Int32) → (Nat → Int32) → (Nat → Int32) → (Nat → Int32) → (Nat → Int32) → (Nat → Int64) → Option Int32} (hk : KH x4 k23) {f_x_product_size : Int32} {f_x_product_all : Int32} {c_x_product_options : Nat → Int32} {f_x_ruleBook_size : Int32} {f_x_ruleBook_on : Int32} {c_x_ruleBook_kinds : Nat → Int32} {c_x_ruleBook_slots : Nat → Int32} {c_x_ruleBook_others : Nat → Int32} {f_x_prices_surcharges : Int32} {c_x_prices_ofSlots : Nat → Int32} {c_x_prices_both : Nat → Int32} {c_x_prices_amounts : Nat → Int32} {f_x_wishes_size : Int32} {c_x_wishes_slots : Nat → Int32} {f_x_made_size : Int32} {f_x_made_features : Int32} {c_x_made_order : Nat → Int32} {c_x_made_options : Nat → Int32} {c_x_pairs_partners : Nat → Int32} {c_x_trial_partners : Nat → Int32} {f_x_diagram_total : Int32} {f_x_diagram_size : Int32} {f_x_diagram_nextSize : Int32} {c_x_diagram_sets : Nat → Int32} {c_x_diagram_ways : Nat → Int32} {c_x_diagram_nextSets : Nat → Int32} {c_x_diagram_nextWays : Nat → Int32} {f_x_explanation_rules : Int32} {f_x_explanation_choosers : Int32} {c_x_explanation_kept_partners : Nat → Int32} {f_x_search_configuration : Int32} {f_x_search_isFound : Int32} {f_x_search_best : Int32} {f_x_search_sign : Int32} {f_m_thrown : Int32} {f_m_features : Int32} {f_m_rules : Int32} {f_m_on : Int32} {f_m_surcharges : Int32} {f_m_wishes : Int32} {f_m_choices : Int32} {f_m_whyRules : Int32} {f_m_whyChoices : Int32} {c_m_options : Nat → Int32} {c_m_kind : Nat → Int32} {c_m_one : Nat → Int32} {c_m_its : Nat → Int32} {c_m_other : Nat → Int32} {c_m_others : Nat → Int32} {c_m_price : Nat → Int32} {c_m_oneOf : Nat → Int32} {c_m_itsOption : Nat → Int32} {c_m_otherOf : Nat → Int32} {c_m_otherOption : Nat → Int32} {c_m_amount : Nat → Int32} {c_m_wish : Nat → Int32} {c_m_wished : Nat → Int32} {c_m_order : Nat → Int32} {c_m_chosen : Nat → Int32} {c_m_allowed : Nat → Int32} {c_m_pick : Nat → Int32} {c_m_now : Nat → Int32} {c_m_next : Nat → Int32} {c_o : Nat → Int64} (hI : IV f_x_product_size f_x_product_all c_x_product_options f_x_ruleBook_size f_x_ruleBook_on c_x_ruleBook_kinds c_x_ruleBook_slots c_x_ruleBook_others f_x_prices_surcharges c_x_prices_ofSlots c_x_prices_both c_x_prices_amounts f_x_wishes_size c_x_wishes_slots f_x_made_size f_x_made_features c_x_made_order c_x_made_options c_x_pairs_partners f_m_features f_m_rules f_m_on f_m_surcharges f_m_wishes f_m_choices c_m_options c_m_kind c_m_one c_m_its c_m_other c_m_others c_m_price c_m_oneOf c_m_itsOption c_m_otherOf c_m_otherOption c_m_amount c_m_wish c_m_wished c_m_order c_m_chosen) : ((m_L_addSurcharge f_x_product_size c_x_product_options f_x_prices_surcharges c_x_prices_both c_x_prices_amounts c_o (xs (x4 + (1 : Int32)).toNatClampNeg) (xs (x4 + (2 : Int32)).toNatClampNeg) (xs (x4 + (3 : Int32)).toNatClampNeg) (xs (x4 + (4 : Int32)).toNatClampNeg) (xs (x4 + (5 : Int32)).toNatClampNeg)).bind fun u_56 => if u_56.1 = none then (m_X10_addSurcharge f_m_thrown f_m_features f_m_surcharges c_m_options c_m_oneOf c_m_itsOption c_m_otherOf c_m_otherOption c_m_amount (xs (x4 + (1 : Int32)).toNatClampNeg) (xs (x4 + (2 : Int32)).toNatClampNeg) (xs (x4 + (3 : Int32)).toNatClampNeg) (xs (x4 + (4 : Int32)).toNatClampNeg) (xs (x4 + (5 : Int32)).toNatClampNeg)).bind fun u_57 => (m_X10_thrown u_57.2.1).bind fun u_58 => if u_58 = u_56.2.1 then if u_56.2.1 = (0 : Int32) then if lg_cmp (u_56.2.2.2.2.2 ((0 : Int32)).toNatClampNeg) u_57.1.toInt64 = (0 : Int32) then k23 (x4 + 6) f_x_product_size f_x_product_all c_x_product_options f_x_ruleBook_size f_x_ruleBook_on c_x_ruleBook_kinds c_x_ruleBook_slots c_x_ruleBook_others u_56.2.2.1 c_x_prices_ofSlots u_56.2.2.2.1 u_56.2.2.2.2.1 f_x_wishes_size c_x_wishes_slots f_x_made_size f_x_made_features c_x_made_order c_x_made_options c_x_pairs_partners c_x_trial_partners f_x_diagram_total f_x_diagram_size f_x_diagram_nextSize c_x_diagram_sets c_x_diagram_ways c_x_diagram_nextSets c_x_diagram_nextWays f_x_explanation_rules f_x_explanation_choosers c_x_explanation_kept_partners f_x_search_configuration f_x_search_isFound f_x_search_best f_x_search_sign u_57.2.1 f_m_features f_m_rules f_m_on u_57.2.2.1 f_m_wishes f_m_choices f_m_whyRules f_m_whyChoices c_m_options c_m_kind c_m_one c_m_its c_m_other c_m_others c_m_price u_57.2.2.2.1 u_57.2.2.2.2.1 u_57.2.2.2.2.2.1 u_57.2.2.2.2.2.2.1 u_57.2.2.2.2.2.2.2 c_m_wish c_m_wished c_m_order c_m_chosen c_m_allowed c_m_pick c_m_now c_m_next u_56.2.2.2.2.2 else some (0 : Int32) else k23 (x4 + 6) f_x_product_size f_x_product_all c_x_product_options f_x_ruleBook_size f_x_ruleBook_on c_x_ruleBook_kinds c_x_ruleBook_slots c_x_ruleBook_others u_56.2.2.1 c_x_prices_ofSlots u_56.2.2.2.1 u_56.2.2.2.2.1 f_x_wishes_size c_x_wishes_slots f_x_made_size f_x_made_features c_x_made_order c_x_made_options c_x_pairs_partners c_x_trial_partners f_x_diagram_total f_x_diagram_size f_x_diagram_nextSize c_x_diagram_sets c_x_diagram_ways c_x_diagram_nextSets c_x_diagram_nextWays f_x_explanation_rules f_x_explanation_choosers c_x_explanation_kept_partners f_x_search_configuration f_x_search_isFound f_x_search_best f_x_search_sign u_57.2.1 f_m_features f_m_rules f_m_on u_57.2.2.1 f_m_wishes f_m_choices f_m_whyRules f_m_whyChoices c_m_options c_m_kind c_m_one c_m_its c_m_other c_m_others c_m_price u_57.2.2.2.1 u_57.2.2.2.2.1 u_57.2.2.2.2.2.1 u_57.2.2.2.2.2.2.1 u_57.2.2.2.2.2.2.2 c_m_wish c_m_wished c_m_order c_m_chosen c_m_allowed c_m_pick c_m_now c_m_next u_56.2.2.2.2.2 else some (0 : Int32) else none) = some 1 := by
  obtain ⟨N, op, nr, kd, sa, sb, ns, su, sv, am, nw, w, os, ch, hi1, hi2, hi3, hi4, hi5, hi6⟩ := hI
  obtain ⟨hF, hFm, rfl, rfl, ha⟩ := hi1
  obtain ⟨hRN, hMb, hXB, rfl, rfl, rfl⟩ := hi2
  obtain ⟨hPc, hSX, hSM, rfl, rfl, hpr⟩ := hi3
  generalize xs (x4 + (1 : Int32)).toNatClampNeg = z1
  generalize xs (x4 + (2 : Int32)).toNatClampNeg = z2
  generalize xs (x4 + (3 : Int32)).toNatClampNeg = z3
  generalize xs (x4 + (4 : Int32)).toNatClampNeg = z4
  generalize xs (x4 + (5 : Int32)).toNatClampNeg = z5
  have hns := hPc.1.1
  rcases chk_o hFm hF z1 z2 with ⟨f, a, hf, hao, rfl, rfl, e1, e2⟩ | ⟨e1, e2⟩
  · have hN := hF.1
    have h5 := hFm.le5 f hf
    rcases chk_o hFm hF z3 z4 with ⟨g, b, hg, hbo, rfl, rfl, g1, g2⟩ | ⟨g1, g2⟩
    · have h5g := hFm.le5 g hg
      by_cases qfg : f = g
      · have h9 : m_X9_addSurcharge (nI N) c_x_product_options (nI ns) c_x_prices_both c_x_prices_amounts (nI f) (nI a) (nI g) (nI b) z5 = some (some "java/lang/IllegalArgumentException", 0, nI ns, c_x_prices_both, c_x_prices_amounts) := by
          unfold m_X9_addSurcharge
          rw [e1, Option.bind_some, if_pos rfl, g1, Option.bind_some, if_pos rfl, chk_d (by omega) (by omega), if_pos qfg, Option.bind_some, if_neg (by simp)]
        have hM : m_X10_addSurcharge f_m_thrown (nI N) (nI ns) c_m_options c_m_oneOf c_m_itsOption c_m_otherOf c_m_otherOption c_m_amount (nI f) (nI a) (nI g) (nI b) z5 = some (0, 2, nI ns, c_m_oneOf, c_m_itsOption, c_m_otherOf, c_m_otherOption, c_m_amount) := by
          unfold m_X10_addSurcharge
          rw [e2, Option.bind_some, if_neg (show ¬ (1 : Int32) = 0 by decide), g2, Option.bind_some, if_neg (show ¬ (1 : Int32) = 0 by decide), if_pos (by rw [qfg])]
        rw [w_addSurcharge_x2 h9, Option.bind_some, if_pos rfl, hM, Option.bind_some]
        unfold m_X10_thrown
        rw [Option.bind_some, if_pos rfl, if_neg (show ¬ (2 : Int32) = 0 by decide)]
        apply hk
        exact ⟨N, op, nr, kd, sa, sb, ns, su, sv, am, nw, w, os, ch, ⟨hF, hFm, rfl, rfl, ha⟩, ⟨hRN, hMb, hXB, rfl, rfl, rfl⟩, ⟨hPc, hSX, hSM, rfl, rfl, hpr⟩, hi4, hi5, hi6⟩
      · have hfg : ¬ nI f = nI g := fun h => qfg ((neq (by omega) (by omega)).mp h)
        by_cases q0 : z5 < -500
        · have h9 : m_X9_addSurcharge (nI N) c_x_product_options (nI ns) c_x_prices_both c_x_prices_amounts (nI f) (nI a) (nI g) (nI b) z5 = some (some "java/lang/IllegalArgumentException", 0, nI ns, c_x_prices_both, c_x_prices_amounts) := by
            unfold m_X9_addSurcharge
            rw [e1, Option.bind_some, if_pos rfl, g1, Option.bind_some, if_pos rfl, chk_d (by omega) (by omega), if_neg qfg, Option.bind_some, if_pos rfl, if_pos q0]
          have hM : m_X10_addSurcharge f_m_thrown (nI N) (nI ns) c_m_options c_m_oneOf c_m_itsOption c_m_otherOf c_m_otherOption c_m_amount (nI f) (nI a) (nI g) (nI b) z5 = some (0, 2, nI ns, c_m_oneOf, c_m_itsOption, c_m_otherOf, c_m_otherOption, c_m_amount) := by
            unfold m_X10_addSurcharge
            rw [e2, Option.bind_some, if_neg (show ¬ (1 : Int32) = 0 by decide), g2, Option.bind_some, if_neg (show ¬ (1 : Int32) = 0 by decide), if_neg hfg, in_lo q0, Option.bind_some, if_pos rfl]
          rw [w_addSurcharge_x2 h9, Option.bind_some, if_pos rfl, hM, Option.bind_some]
          unfold m_X10_thrown
          rw [Option.bind_some, if_pos rfl, if_neg (show ¬ (2 : Int32) = 0 by decide)]
          apply hk
          exact ⟨N, op, nr, kd, sa, sb, ns, su, sv, am, nw, w, os, ch, ⟨hF, hFm, rfl, rfl, ha⟩, ⟨hRN, hMb, hXB, rfl, rfl, rfl⟩, ⟨hPc, hSX, hSM, rfl, rfl, hpr⟩, hi4, hi5, hi6⟩
        · by_cases q1 : z5 ≤ 500
          · by_cases q : ns < 10
            · have h9 : m_X9_addSurcharge (nI N) c_x_product_options (nI ns) c_x_prices_both c_x_prices_amounts (nI f) (nI a) (nI g) (nI b) z5 = some (none, nI (ns + 1), nI (ns + 1), upd c_x_prices_both ns (((1 : Int32) <<< (nI (5 * f + a) &&& 31)) ||| ((1 : Int32) <<< (nI (5 * g + b) &&& 31))), upd c_x_prices_amounts ns z5) := by
                unfold m_X9_addSurcharge m_X7_add
                rw [e1, Option.bind_some, if_pos rfl, g1, Option.bind_some, if_pos rfl, chk_d (by omega) (by omega), if_neg qfg, Option.bind_some, if_pos rfl, if_neg q0, if_pos q1, q_slotOf, Option.bind_some, q_slotOf, Option.bind_some, if_pos (show nI ns < (10 : Int32) from (nlt (b := 10) (by omega) (by omega)).mpr q), if_neg (nI_in2 (by omega) (by omega)), nI_cl (n := ns) (by omega), n1, Option.bind_some, if_neg (show ¬ (1 : Int32) = 0 by decide)]
              have hM : m_X10_addSurcharge f_m_thrown (nI N) (nI ns) c_m_options c_m_oneOf c_m_itsOption c_m_otherOf c_m_otherOption c_m_amount (nI f) (nI a) (nI g) (nI b) z5 = some (nI (ns + 1), 0, nI (ns + 1), upd c_m_oneOf ns (nI f), upd c_m_itsOption ns (nI a), upd c_m_otherOf ns (nI g), upd c_m_otherOption ns (nI b), upd c_m_amount ns z5) := by
                unfold m_X10_addSurcharge
                rw [e2, Option.bind_some, if_neg (show ¬ (1 : Int32) = 0 by decide), g2, Option.bind_some, if_neg (show ¬ (1 : Int32) = 0 by decide), if_neg hfg, in_ok q0 q1, Option.bind_some, if_neg (show ¬ (1 : Int32) = 0 by decide), if_neg (show ¬ nI ns = (10 : Int32) from fun h => by have := (neq (b := 10) (by omega) (by omega)).mp h; omega), if_neg (nI_in2 (by omega) (by omega)), nI_cl (by omega), n1]
              have hI3 : I3 N (ns + 1) (pt su ns (5 * f + a)) (pt sv ns (5 * g + b)) (upd am ns z5) (nI (ns + 1)) c_x_prices_ofSlots (upd c_x_prices_both ns (((1 : Int32) <<< (nI (5 * f + a) &&& 31)) ||| ((1 : Int32) <<< (nI (5 * g + b) &&& 31)))) (upd c_x_prices_amounts ns z5) (nI (ns + 1)) c_m_price (upd c_m_oneOf ns (nI f)) (upd c_m_itsOption ns (nI a)) (upd c_m_otherOf ns (nI g)) (upd c_m_otherOption ns (nI b)) (upd c_m_amount ns z5) := by
                refine ⟨⟨⟨by omega, fun k hk => ?_⟩, hPc.2⟩, fun k hk => ?_, ⟨Ar_up hSM.1 (by rw [pt_s, show (5 * f + a) / 5 = f by omega]) (fun k hk => by rw [pt_n (by omega)]), Ar_up hSM.2.1 (by rw [pt_s, show (5 * f + a) % 5 = a by omega]) (fun k hk => by rw [pt_n (by omega)]), Ar_up hSM.2.2.1 (by rw [pt_s, show (5 * g + b) / 5 = g by omega]) (fun k hk => by rw [pt_n (by omega)]), Ar_up hSM.2.2.2.1 (by rw [pt_s, show (5 * g + b) % 5 = b by omega]) (fun k hk => by rw [pt_n (by omega)]), fun k hk => ?_⟩, rfl, rfl, hpr⟩
                · by_cases qk : k = ns
                  · rw [qk, pt_s, pt_s, upd_s, show (5 * f + a) / 5 = f by omega, show (5 * g + b) / 5 = g by omega]; exact ⟨hf, hg, Int32.not_lt.mp q0, q1⟩
                  · rw [pt_n qk, pt_n qk, upd_n qk]; exact hPc.1.2 k (by omega)
                · by_cases qk : k = ns
                  · rw [qk, pt_s, pt_s, upd_s, upd_s, upd_s]
                    exact ⟨fun i hi => by rw [b_or, b_p (by omega) hi, b_p (by omega) hi], rfl⟩
                  · rw [pt_n qk, pt_n qk, upd_n qk, upd_n qk, upd_n qk]; exact hSX k (by omega)
                · by_cases qk : k = ns
                  · rw [qk, upd_s, upd_s]
                  · rw [upd_n qk, upd_n qk]; exact hSM.2.2.2.2 k (by omega)
              rw [w_addSurcharge_ok h9, Option.bind_some, if_pos rfl, hM, Option.bind_some]
              unfold m_X10_thrown
              rw [Option.bind_some, if_pos rfl, if_pos rfl]
              refine (if_pos (?_ : lg_cmp _ _ = 0)).trans ?_
              · exact lgS _
              apply hk
              exact ⟨N, op, nr, kd, sa, sb, ns + 1, pt su ns (5 * f + a), pt sv ns (5 * g + b), upd am ns z5, nw, w, os, ch, ⟨hF, hFm, rfl, rfl, ha⟩, ⟨hRN, hMb, hXB, rfl, rfl, rfl⟩, hI3, hi4, hi5, hi6⟩
            · have h10 : ns = 10 := by omega
              have h9 : m_X9_addSurcharge (nI N) c_x_product_options (nI ns) c_x_prices_both c_x_prices_amounts (nI f) (nI a) (nI g) (nI b) z5 = some (some "java/lang/IllegalStateException", 0, nI ns, c_x_prices_both, c_x_prices_amounts) := by
                unfold m_X9_addSurcharge
                rw [e1, Option.bind_some, if_pos rfl, g1, Option.bind_some, if_pos rfl, chk_d (by omega) (by omega), if_neg qfg, Option.bind_some, if_pos rfl, if_neg q0, if_pos q1, q_slotOf, Option.bind_some, q_slotOf, Option.bind_some, w_add7 h10, Option.bind_some, if_pos rfl]
              have hM : m_X10_addSurcharge f_m_thrown (nI N) (nI ns) c_m_options c_m_oneOf c_m_itsOption c_m_otherOf c_m_otherOption c_m_amount (nI f) (nI a) (nI g) (nI b) z5 = some (0, 3, nI ns, c_m_oneOf, c_m_itsOption, c_m_otherOf, c_m_otherOption, c_m_amount) := by
                unfold m_X10_addSurcharge
                rw [e2, Option.bind_some, if_neg (show ¬ (1 : Int32) = 0 by decide), g2, Option.bind_some, if_neg (show ¬ (1 : Int32) = 0 by decide), if_neg hfg, in_ok q0 q1, Option.bind_some, if_neg (show ¬ (1 : Int32) = 0 by decide), if_pos (show nI ns = (10 : Int32) by rw [h10]; rfl)]
              rw [w_addSurcharge_x3 h9, Option.bind_some, if_pos rfl, hM, Option.bind_some]
              unfold m_X10_thrown
              rw [Option.bind_some, if_pos rfl, if_neg (show ¬ (3 : Int32) = 0 by decide)]
              apply hk
              exact ⟨N, op, nr, kd, sa, sb, ns, su, sv, am, nw, w, os, ch, ⟨hF, hFm, rfl, rfl, ha⟩, ⟨hRN, hMb, hXB, rfl, rfl, rfl⟩, ⟨hPc, hSX, hSM, rfl, rfl, hpr⟩, hi4, hi5, hi6⟩
          · have h9 : m_X9_addSurcharge (nI N) c_x_product_options (nI ns) c_x_prices_both c_x_prices_amounts (nI f) (nI a) (nI g) (nI b) z5 = some (some "java/lang/IllegalArgumentException", 0, nI ns, c_x_prices_both, c_x_prices_amounts) := by
              unfold m_X9_addSurcharge
              rw [e1, Option.bind_some, if_pos rfl, g1, Option.bind_some, if_pos rfl, chk_d (by omega) (by omega), if_neg qfg, Option.bind_some, if_pos rfl, if_neg q0, if_neg q1]
            have hM : m_X10_addSurcharge f_m_thrown (nI N) (nI ns) c_m_options c_m_oneOf c_m_itsOption c_m_otherOf c_m_otherOption c_m_amount (nI f) (nI a) (nI g) (nI b) z5 = some (0, 2, nI ns, c_m_oneOf, c_m_itsOption, c_m_otherOf, c_m_otherOption, c_m_amount) := by
              unfold m_X10_addSurcharge
              rw [e2, Option.bind_some, if_neg (show ¬ (1 : Int32) = 0 by decide), g2, Option.bind_some, if_neg (show ¬ (1 : Int32) = 0 by decide), if_neg hfg, in_hi q0 q1, Option.bind_some, if_pos rfl]
            rw [w_addSurcharge_x2 h9, Option.bind_some, if_pos rfl, hM, Option.bind_some]
            unfold m_X10_thrown
            rw [Option.bind_some, if_pos rfl, if_neg (show ¬ (2 : Int32) = 0 by decide)]
            apply hk
            exact ⟨N, op, nr, kd, sa, sb, ns, su, sv, am, nw, w, os, ch, ⟨hF, hFm, rfl, rfl, ha⟩, ⟨hRN, hMb, hXB, rfl, rfl, rfl⟩, ⟨hPc, hSX, hSM, rfl, rfl, hpr⟩, hi4, hi5, hi6⟩
    · have h9 : m_X9_addSurcharge (nI N) c_x_product_options (nI ns) c_x_prices_both c_x_prices_amounts (nI f) (nI a) z3 z4 z5 = some (some "java/lang/IndexOutOfBoundsException", 0, nI ns, c_x_prices_both, c_x_prices_amounts) := by
        unfold m_X9_addSurcharge
        rw [e1, Option.bind_some, if_pos rfl, g1, Option.bind_some, if_neg (by simp)]
      have hM : m_X10_addSurcharge f_m_thrown (nI N) (nI ns) c_m_options c_m_oneOf c_m_itsOption c_m_otherOf c_m_otherOption c_m_amount (nI f) (nI a) z3 z4 z5 = some (0, 1, nI ns, c_m_oneOf, c_m_itsOption, c_m_otherOf, c_m_otherOption, c_m_amount) := by
        unfold m_X10_addSurcharge
        rw [e2, Option.bind_some, if_neg (show ¬ (1 : Int32) = 0 by decide), g2, Option.bind_some, if_pos rfl]
      rw [w_addSurcharge_x1 h9, Option.bind_some, if_pos rfl, hM, Option.bind_some]
      unfold m_X10_thrown
      rw [Option.bind_some, if_pos rfl, if_neg (show ¬ (1 : Int32) = 0 by decide)]
      apply hk
      exact ⟨N, op, nr, kd, sa, sb, ns, su, sv, am, nw, w, os, ch, ⟨hF, hFm, rfl, rfl, ha⟩, ⟨hRN, hMb, hXB, rfl, rfl, rfl⟩, ⟨hPc, hSX, hSM, rfl, rfl, hpr⟩, hi4, hi5, hi6⟩
  · have h9 : m_X9_addSurcharge (nI N) c_x_product_options (nI ns) c_x_prices_both c_x_prices_amounts z1 z2 z3 z4 z5 = some (some "java/lang/IndexOutOfBoundsException", 0, nI ns, c_x_prices_both, c_x_prices_amounts) := by
      unfold m_X9_addSurcharge
      rw [e1, Option.bind_some, if_neg (by simp)]
    have hM : m_X10_addSurcharge f_m_thrown (nI N) (nI ns) c_m_options c_m_oneOf c_m_itsOption c_m_otherOf c_m_otherOption c_m_amount z1 z2 z3 z4 z5 = some (0, 1, nI ns, c_m_oneOf, c_m_itsOption, c_m_otherOf, c_m_otherOption, c_m_amount) := by
      unfold m_X10_addSurcharge
      rw [e2, Option.bind_some, if_pos rfl]
    rw [w_addSurcharge_x1 h9, Option.bind_some, if_pos rfl, hM, Option.bind_some]
    unfold m_X10_thrown
    rw [Option.bind_some, if_pos rfl, if_neg (show ¬ (1 : Int32) = 0 by decide)]
    apply hk
    exact ⟨N, op, nr, kd, sa, sb, ns, su, sv, am, nw, w, os, ch, ⟨hF, hFm, rfl, rfl, ha⟩, ⟨hRN, hMb, hXB, rfl, rfl, rfl⟩, ⟨hPc, hSX, hSM, rfl, rfl, hpr⟩, hi4, hi5, hi6⟩
