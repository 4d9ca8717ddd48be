/-! the law, turn by turn -/
theorem its {c : Prop} [Decidable c] {a b : Option Int32} (ha : c → a = some 1) (hb : ¬ c → b = some 1) : (if c then a else b) = some 1 := by
  by_cases h : c
  · rw [if_pos h]; exact ha h
  · rw [if_neg h]; exact hb h
theorem stop_at {L t : Nat} (hL : L ≤ 3072) (h : L < 6 * t + 6) (ht : 6 * t < 100000) : (Int32.ofNat L) - (6 : Int32) < nI (6 * t) := by
  have e : Int32.ofNat L = nI L := rfl
  have e6 : (6 : Int32).toInt = 6 := by decide
  rw [e, Int32.lt_iff_toInt_lt, Int32.toInt_sub, nI_toInt (by omega), nI_toInt (by omega), e6, bm (by omega) (by omega)]
  omega
theorem law_loop {fu : Nat} (hfu : 200000 ≤ fu) {L : Nat} (hL : L ≤ 3072) (xs : Nat → Int32) : ∀ (m t n : Nat) (f_x_product_size : Int32) (f_x_product_all : Int32) (c_x_product_options : Nat → Int32) (f_x_ruleBook_size : Int32) (f_x_ruleBook_on : Int32) (c_x_ruleBook_kinds : Nat → Int32) (c_x_ruleBook_slots : Nat → Int32) (c_x_ruleBook_others : Nat → Int32) (f_x_prices_surcharges : Int32) (c_x_prices_ofSlots : Nat → Int32) (c_x_prices_both : Nat → Int32) (c_x_prices_amounts : Nat → Int32) (f_x_wishes_size : Int32) (c_x_wishes_slots : Nat → Int32) (f_x_made_size : Int32) (f_x_made_features : Int32) (c_x_made_order : Nat → Int32) (c_x_made_options : Nat → Int32) (c_x_pairs_partners : Nat → Int32) (c_x_trial_partners : Nat → Int32) (f_x_diagram_total : Int32) (f_x_diagram_size : Int32) (f_x_diagram_nextSize : Int32) (c_x_diagram_sets : Nat → Int32) (c_x_diagram_ways : Nat → Int32) (c_x_diagram_nextSets : Nat → Int32) (c_x_diagram_nextWays : Nat → Int32) (f_x_explanation_rules : Int32) (f_x_explanation_choosers : Int32) (c_x_explanation_kept_partners : Nat → Int32) (f_x_search_configuration : Int32) (f_x_search_isFound : Int32) (f_x_search_best : Int32) (f_x_search_sign : Int32) (f_m_thrown : Int32) (f_m_features : Int32) (f_m_rules : Int32) (f_m_on : Int32) (f_m_surcharges : Int32) (f_m_wishes : Int32) (f_m_choices : Int32) (f_m_whyRules : Int32) (f_m_whyChoices : Int32) (c_m_options : Nat → Int32) (c_m_kind : Nat → Int32) (c_m_one : Nat → Int32) (c_m_its : Nat → Int32) (c_m_other : Nat → Int32) (c_m_others : Nat → Int32) (c_m_price : Nat → Int32) (c_m_oneOf : Nat → Int32) (c_m_itsOption : Nat → Int32) (c_m_otherOf : Nat → Int32) (c_m_otherOption : Nat → Int32) (c_m_amount : Nat → Int32) (c_m_wish : Nat → Int32) (c_m_wished : Nat → Int32) (c_m_order : Nat → Int32) (c_m_chosen : Nat → Int32) (c_m_allowed : Nat → Int32) (c_m_pick : Nat → Int32) (c_m_now : Nat → Int32) (c_m_next : Nat → Int32) (c_o : Nat → Int64), t + m ≤ 600 → L < 6 * (t + m) + 6 → m < n → IV f_x_product_size f_x_product_all c_x_product_options f_x_ruleBook_size f_x_ruleBook_on c_x_ruleBook_kinds c_x_ruleBook_slots c_x_ruleBook_others f_x_prices_surcharges c_x_prices_ofSlots c_x_prices_both c_x_prices_amounts f_x_wishes_size c_x_wishes_slots f_x_made_size f_x_made_features c_x_made_order c_x_made_options c_x_pairs_partners f_m_features f_m_rules f_m_on f_m_surcharges f_m_wishes f_m_choices c_m_options c_m_kind c_m_one c_m_its c_m_other c_m_others c_m_price c_m_oneOf c_m_itsOption c_m_otherOf c_m_otherOption c_m_amount c_m_wish c_m_wished c_m_order c_m_chosen →
    m_L_law_L23 fu L xs n (nI (6 * t)) f_x_product_size f_x_product_all c_x_product_options f_x_ruleBook_size f_x_ruleBook_on c_x_ruleBook_kinds c_x_ruleBook_slots c_x_ruleBook_others f_x_prices_surcharges c_x_prices_ofSlots c_x_prices_both c_x_prices_amounts f_x_wishes_size c_x_wishes_slots f_x_made_size f_x_made_features c_x_made_order c_x_made_options c_x_pairs_partners c_x_trial_partners f_x_diagram_total f_x_diagram_size f_x_diagram_nextSize c_x_diagram_sets c_x_diagram_ways c_x_diagram_nextSets c_x_diagram_nextWays f_x_explanation_rules f_x_explanation_choosers c_x_explanation_kept_partners f_x_search_configuration f_x_search_isFound f_x_search_best f_x_search_sign f_m_thrown f_m_features f_m_rules f_m_on f_m_surcharges f_m_wishes f_m_choices f_m_whyRules f_m_whyChoices c_m_options c_m_kind c_m_one c_m_its c_m_other c_m_others c_m_price c_m_oneOf c_m_itsOption c_m_otherOf c_m_otherOption c_m_amount c_m_wish c_m_wished c_m_order c_m_chosen c_m_allowed c_m_pick c_m_now c_m_next c_o = some 1 := by
  intro m
  induction m with
  | zero =>
    intro t n f_x_product_size f_x_product_all c_x_product_options f_x_ruleBook_size f_x_ruleBook_on c_x_ruleBook_kinds c_x_ruleBook_slots c_x_ruleBook_others f_x_prices_surcharges c_x_prices_ofSlots c_x_prices_both c_x_prices_amounts f_x_wishes_size c_x_wishes_slots f_x_made_size f_x_made_features c_x_made_order c_x_made_options c_x_pairs_partners c_x_trial_partners f_x_diagram_total f_x_diagram_size f_x_diagram_nextSize c_x_diagram_sets c_x_diagram_ways c_x_diagram_nextSets c_x_diagram_nextWays f_x_explanation_rules f_x_explanation_choosers c_x_explanation_kept_partners f_x_search_configuration f_x_search_isFound f_x_search_best f_x_search_sign f_m_thrown f_m_features f_m_rules f_m_on f_m_surcharges f_m_wishes f_m_choices f_m_whyRules f_m_whyChoices c_m_options c_m_kind c_m_one c_m_its c_m_other c_m_others c_m_price c_m_oneOf c_m_itsOption c_m_otherOf c_m_otherOption c_m_amount c_m_wish c_m_wished c_m_order c_m_chosen c_m_allowed c_m_pick c_m_now c_m_next c_o ht hlt hn hI
    obtain ⟨n, rfl⟩ : ∃ k, n = k + 1 := ⟨n - 1, by omega⟩
    show m_L_law_L23_b fu L xs (m_L_law_L23 fu L xs n) (nI (6 * t)) f_x_product_size f_x_product_all c_x_product_options f_x_ruleBook_size f_x_ruleBook_on c_x_ruleBook_kinds c_x_ruleBook_slots c_x_ruleBook_others f_x_prices_surcharges c_x_prices_ofSlots c_x_prices_both c_x_prices_amounts f_x_wishes_size c_x_wishes_slots f_x_made_size f_x_made_features c_x_made_order c_x_made_options c_x_pairs_partners c_x_trial_partners f_x_diagram_total f_x_diagram_size f_x_diagram_nextSize c_x_diagram_sets c_x_diagram_ways c_x_diagram_nextSets c_x_diagram_nextWays f_x_explanation_rules f_x_explanation_choosers c_x_explanation_kept_partners f_x_search_configuration f_x_search_isFound f_x_search_best f_x_search_sign f_m_thrown f_m_features f_m_rules f_m_on f_m_surcharges f_m_wishes f_m_choices f_m_whyRules f_m_whyChoices c_m_options c_m_kind c_m_one c_m_its c_m_other c_m_others c_m_price c_m_oneOf c_m_itsOption c_m_otherOf c_m_otherOption c_m_amount c_m_wish c_m_wished c_m_order c_m_chosen c_m_allowed c_m_pick c_m_now c_m_next c_o = some 1
    unfold m_L_law_L23_b
    rw [if_pos (stop_at hL (by omega) (by omega))]
  | succ m ih =>
    intro t n f_x_product_size f_x_product_all c_x_product_options f_x_ruleBook_size f_x_ruleBook_on c_x_ruleBook_kinds c_x_ruleBook_slots c_x_ruleBook_others f_x_prices_surcharges c_x_prices_ofSlots c_x_prices_both c_x_prices_amounts f_x_wishes_size c_x_wishes_slots f_x_made_size f_x_made_features c_x_made_order c_x_made_options c_x_pairs_partners c_x_trial_partners f_x_diagram_total f_x_diagram_size f_x_diagram_nextSize c_x_diagram_sets c_x_diagram_ways c_x_diagram_nextSets c_x_diagram_nextWays f_x_explanation_rules f_x_explanation_choosers c_x_explanation_kept_partners f_x_search_configuration f_x_search_isFound f_x_search_best f_x_search_sign f_m_thrown f_m_features f_m_rules f_m_on f_m_surcharges f_m_wishes f_m_choices f_m_whyRules f_m_whyChoices c_m_options c_m_kind c_m_one c_m_its c_m_other c_m_others c_m_price c_m_oneOf c_m_itsOption c_m_otherOf c_m_otherOption c_m_amount c_m_wish c_m_wished c_m_order c_m_chosen c_m_allowed c_m_pick c_m_now c_m_next c_o ht hlt hn hI
    obtain ⟨n, rfl⟩ : ∃ k, n = k + 1 := ⟨n - 1, by omega⟩
    have hk : KH (nI (6 * t)) (m_L_law_L23 fu L xs n) := by
      intro f_x_product_size f_x_product_all c_x_product_options f_x_ruleBook_size f_x_ruleBook_on c_x_ruleBook_kinds c_x_ruleBook_slots c_x_ruleBook_others f_x_prices_surcharges c_x_prices_ofSlots c_x_prices_both c_x_prices_amounts f_x_wishes_size c_x_wishes_slots f_x_made_size f_x_made_features c_x_made_order c_x_made_options c_x_pairs_partners c_x_trial_partners f_x_diagram_total f_x_diagram_size f_x_diagram_nextSize c_x_diagram_sets c_x_diagram_ways c_x_diagram_nextSets c_x_diagram_nextWays f_x_explanation_rules f_x_explanation_choosers c_x_explanation_kept_partners f_x_search_configuration f_x_search_isFound f_x_search_best f_x_search_sign f_m_thrown f_m_features f_m_rules f_m_on f_m_surcharges f_m_wishes f_m_choices f_m_whyRules f_m_whyChoices c_m_options c_m_kind c_m_one c_m_its c_m_other c_m_others c_m_price c_m_oneOf c_m_itsOption c_m_otherOf c_m_otherOption c_m_amount c_m_wish c_m_wished c_m_order c_m_chosen c_m_allowed c_m_pick c_m_now c_m_next c_o hI2
      rw [show nI (6 * t) + (6 : Int32) = nI (6 * (t + 1)) from nI_add (6 * t) 6]
      exact ih (t + 1) n f_x_product_size f_x_product_all c_x_product_options f_x_ruleBook_size f_x_ruleBook_on c_x_ruleBook_kinds c_x_ruleBook_slots c_x_ruleBook_others f_x_prices_surcharges c_x_prices_ofSlots c_x_prices_both c_x_prices_amounts f_x_wishes_size c_x_wishes_slots f_x_made_size f_x_made_features c_x_made_order c_x_made_options c_x_pairs_partners c_x_trial_partners f_x_diagram_total f_x_diagram_size f_x_diagram_nextSize c_x_diagram_sets c_x_diagram_ways c_x_diagram_nextSets c_x_diagram_nextWays f_x_explanation_rules f_x_explanation_choosers c_x_explanation_kept_partners f_x_search_configuration f_x_search_isFound f_x_search_best f_x_search_sign f_m_thrown f_m_features f_m_rules f_m_on f_m_surcharges f_m_wishes f_m_choices f_m_whyRules f_m_whyChoices c_m_options c_m_kind c_m_one c_m_its c_m_other c_m_others c_m_price c_m_oneOf c_m_itsOption c_m_otherOf c_m_otherOption c_m_amount c_m_wish c_m_wished c_m_order c_m_chosen c_m_allowed c_m_pick c_m_now c_m_next c_o (by omega) (by omega) (by omega) hI2
    show m_L_law_L23_b fu L xs (m_L_law_L23 fu L xs n) (nI (6 * t)) f_x_product_size f_x_product_all c_x_product_options f_x_ruleBook_size f_x_ruleBook_on c_x_ruleBook_kinds c_x_ruleBook_slots c_x_ruleBook_others f_x_prices_surcharges c_x_prices_ofSlots c_x_prices_both c_x_prices_amounts f_x_wishes_size c_x_wishes_slots f_x_made_size f_x_made_features c_x_made_order c_x_made_options c_x_pairs_partners c_x_trial_partners f_x_diagram_total f_x_diagram_size f_x_diagram_nextSize c_x_diagram_sets c_x_diagram_ways c_x_diagram_nextSets c_x_diagram_nextWays f_x_explanation_rules f_x_explanation_choosers c_x_explanation_kept_partners f_x_search_configuration f_x_search_isFound f_x_search_best f_x_search_sign f_m_thrown f_m_features f_m_rules f_m_on f_m_surcharges f_m_wishes f_m_choices f_m_whyRules f_m_whyChoices c_m_options c_m_kind c_m_one c_m_its c_m_other c_m_others c_m_price c_m_oneOf c_m_itsOption c_m_otherOf c_m_otherOption c_m_amount c_m_wish c_m_wished c_m_order c_m_chosen c_m_allowed c_m_pick c_m_now c_m_next c_o = some 1
    unfold m_L_law_L23_b
    refine its (fun _ => rfl) (fun _ => ?_)
    refine its (fun _ => k_0 (xs := xs) hfu hk hI) (fun n0 => ?_)
    refine its (fun _ => k_1 (xs := xs) hfu hk hI) (fun n1 => ?_)
    refine its (fun _ => k_2 (xs := xs) hfu hk hI) (fun n2 => ?_)
    refine its (fun _ => k_3 (xs := xs) hfu hk hI) (fun n3 => ?_)
    refine its (fun _ => k_4 (xs := xs) hfu hk hI) (fun n4 => ?_)
    refine its (fun _ => k_5 (xs := xs) hfu hk hI) (fun n5 => ?_)
    refine its (fun _ => k_6 (xs := xs) hfu hk hI) (fun n6 => ?_)
    refine its (fun _ => k_7 (xs := xs) hfu hk hI) (fun n7 => ?_)
    refine its (fun _ => k_8 (xs := xs) hfu hk hI) (fun n8 => ?_)
    refine its (fun _ => k_9 (xs := xs) hfu hk hI) (fun n9 => ?_)
    refine its (fun _ => k_10 (xs := xs) hfu hk hI) (fun n10 => ?_)
    refine its (fun _ => k_11 (xs := xs) hfu hk hI) (fun n11 => ?_)
    refine its (fun _ => k_12 (xs := xs) hfu hk hI) (fun n12 => ?_)
    refine its (fun _ => k_13 (xs := xs) hfu hk hI) (fun n13 => ?_)
    refine its (fun _ => k_14 (xs := xs) hfu hk hI) (fun n14 => ?_)
    refine its (fun _ => k_15 (xs := xs) hfu hk hI) (fun n15 => ?_)
    refine its (fun _ => k_16 (xs := xs) hfu hk hI) (fun n16 => ?_)
    refine its (fun _ => k_17 (xs := xs) hfu hk hI) (fun n17 => ?_)
    refine its (fun _ => k_18 (xs := xs) hfu hk hI) (fun n18 => ?_)
    refine its (fun _ => k_19 (xs := xs) hfu hk hI) (fun n19 => ?_)
    refine its (fun _ => k_20 (xs := xs) hfu hk hI) (fun n20 => ?_)
    refine its (fun _ => k_21 (xs := xs) hfu hk hI) (fun n21 => ?_)
    refine its (fun _ => k_22 (xs := xs) hfu hk hI) (fun n22 => ?_)
    refine its (fun _ => k_23 (xs := xs) hfu hk hI) (fun n23 => ?_)
    refine its (fun _ => k_24 (xs := xs) hfu hk hI) (fun n24 => ?_)
    refine its (fun _ => k_25 (xs := xs) hfu hk hI) (fun n25 => ?_)
    refine its (fun _ => k_26 (xs := xs) hfu hk hI) (fun n26 => ?_)
    refine its (fun _ => k_27 (xs := xs) hfu hk hI) (fun n27 => ?_)
    refine its (fun _ => k_28 (xs := xs) hfu hk hI) (fun n28 => ?_)
    refine its (fun _ => k_29 (xs := xs) hfu hk hI) (fun n29 => ?_)
    refine its (fun _ => k_30 (xs := xs) hfu hk hI) (fun n30 => ?_)
    refine its (fun _ => k_31 (xs := xs) hfu hk hI) (fun n31 => ?_)
    exfalso
    obtain ⟨j, hj, e⟩ := pk_andE (xs (nI (6 * t)).toNatClampNeg) (m := 31) 5 (by decide)
    rcases (show j = 0 ∨ j = 1 ∨ j = 2 ∨ j = 3 ∨ j = 4 ∨ j = 5 ∨ j = 6 ∨ j = 7 ∨ j = 8 ∨ j = 9 ∨ j = 10 ∨ j = 11 ∨ j = 12 ∨ j = 13 ∨ j = 14 ∨ j = 15 ∨ j = 16 ∨ j = 17 ∨ j = 18 ∨ j = 19 ∨ j = 20 ∨ j = 21 ∨ j = 22 ∨ j = 23 ∨ j = 24 ∨ j = 25 ∨ j = 26 ∨ j = 27 ∨ j = 28 ∨ j = 29 ∨ j = 30 ∨ j = 31 by omega) with rfl | rfl | rfl | rfl | rfl | rfl | rfl | rfl | rfl | rfl | rfl | rfl | rfl | rfl | rfl | rfl | rfl | rfl | rfl | rfl | rfl | rfl | rfl | rfl | rfl | rfl | rfl | rfl | rfl | rfl | rfl | rfl
    · exact n0 e
    · exact n1 e
    · exact n2 e
    · exact n3 e
    · exact n4 e
    · exact n5 e
    · exact n6 e
    · exact n7 e
    · exact n8 e
    · exact n9 e
    · exact n10 e
    · exact n11 e
    · exact n12 e
    · exact n13 e
    · exact n14 e
    · exact n15 e
    · exact n16 e
    · exact n17 e
    · exact n18 e
    · exact n19 e
    · exact n20 e
    · exact n21 e
    · exact n22 e
    · exact n23 e
    · exact n24 e
    · exact n25 e
    · exact n26 e
    · exact n27 e
    · exact n28 e
    · exact n29 e
    · exact n30 e
    · exact n31 e
