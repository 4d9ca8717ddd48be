/-! cases that may throw: reading -/
theorem lgS (x : Int64) : lg_cmp x x = 0 := by
  unfold lg_cmp
  rw [if_neg (show ¬ x > x from fun h => by rw [gt_iff_lt, Int64.lt_iff_toInt_lt] at h; omega), if_pos rfl]
theorem of1_L {fu n : Nat} {x1 a b c s : Int32} {o k e1 e2 e3 e4 cc al pk : Nat → Int32} {z : Int32} : m_X10_offered_L21 fu x1 a b c o k e1 e2 e3 e4 cc (n + 1) s z 1 al pk = some (s, 1, al, pk) := by
  show m_X10_offered_L21_b fu x1 a b c o k e1 e2 e3 e4 cc (m_X10_offered_L21 fu x1 a b c o k e1 e2 e3 e4 cc n) s z 1 al pk = _
  unfold m_X10_offered_L21_b
  rw [if_neg (show ¬ (1 : Int32) = 0 by decide)]
theorem of1 {fu m n : Nat} (h : m = n + 1) {x1 a b c s : Int32} {o k e1 e2 e3 e4 cc al pk : Nat → Int32} {z : Int32} : m_X10_offered_L21 fu x1 a b c o k e1 e2 e3 e4 cc m s z 1 al pk = some (s, 1, al, pk) := by
  rw [h]; exact of1_L
theorem k_14 {fu : Nat} (hfu : 200000 ≤ fu) {xs : Nat → Int32} {x4 : Int32} {k23 : Int32 → Int32 → Int32 → (Nat → Int32) → Int32 → Int32 → (Nat → Int32) → (Nat → Int32) → (Nat → Int32) → Int32 → (Nat → Int32) → (Nat → Int32) → (Nat → Int32) → Int32 → (Nat → Int32) → Int32 → Int32 → (Nat → Int32) → (Nat → Int32) → (Nat → Int32) → (Nat → Int32) → Int32 → Int32 → Int32 → (Nat → Int32) → (Nat → Int32) → (Nat → Int32) → (Nat → Int32) → Int32 → Int32 → (Nat → Int32) → Int32 → Int32 → Int32 → Int32 → Int32 → Int32 → Int32 → Int32 → Int32 → Int32 → Int32 → Int32 → Int32 → (Nat → Int32) → (Nat → Int32) → (Nat → Int32) → (Nat → Int32) → (Nat → Int32) → (Nat → Int32) → (Nat → Int32) → (Nat → Int32) → (Nat → Int32) → (Nat → Int32) → (Nat → Int32) → (Nat → Int32) → (Nat → Int32) → (Nat → Int32) → (Nat → Int32) → (Nat → Int32) → (Nat → Int32) → (Nat → Int32) → (Nat → Int32) → (Nat → Int32) → (Nat → Int64) → Option Int32} (hk : KH x4 k23) {f_x_product_size : Int32} {f_x_product_all : Int32} {c_x_product_options : Nat → Int32} {f_x_ruleBook_size : Int32} {f_x_ruleBook_on : Int32} {c_x_ruleBook_kinds : Nat → Int32} {c_x_ruleBook_slots : Nat → Int32} {c_x_ruleBook_others : Nat → Int32} {f_x_prices_surcharges : Int32} {c_x_prices_ofSlots : Nat → Int32} {c_x_prices_both : Nat → Int32} {c_x_prices_amounts : Nat → Int32} {f_x_wishes_size : Int32} {c_x_wishes_slots : Nat → Int32} {f_x_made_size : Int32} {f_x_made_features : Int32} {c_x_made_order : Nat → Int32} {c_x_made_options : Nat → Int32} {c_x_pairs_partners : Nat → Int32} {c_x_trial_partners : Nat → Int32} {f_x_diagram_total : Int32} {f_x_diagram_size : Int32} {f_x_diagram_nextSize : Int32} {c_x_diagram_sets : Nat → Int32} {c_x_diagram_ways : Nat → Int32} {c_x_diagram_nextSets : Nat → Int32} {c_x_diagram_nextWays : Nat → Int32} {f_x_explanation_rules : Int32} {f_x_explanation_choosers : Int32} {c_x_explanation_kept_partners : Nat → Int32} {f_x_search_configuration : Int32} {f_x_search_isFound : Int32} {f_x_search_best : Int32} {f_x_search_sign : Int32} {f_m_thrown : Int32} {f_m_features : Int32} {f_m_rules : Int32} {f_m_on : Int32} {f_m_surcharges : Int32} {f_m_wishes : Int32} {f_m_choices : Int32} {f_m_whyRules : Int32} {f_m_whyChoices : Int32} {c_m_options : Nat → Int32} {c_m_kind : Nat → Int32} {c_m_one : Nat → Int32} {c_m_its : Nat → Int32} {c_m_other : Nat → Int32} {c_m_others : Nat → Int32} {c_m_price : Nat → Int32} {c_m_oneOf : Nat → Int32} {c_m_itsOption : Nat → Int32} {c_m_otherOf : Nat → Int32} {c_m_otherOption : Nat → Int32} {c_m_amount : Nat → Int32} {c_m_wish : Nat → Int32} {c_m_wished : Nat → Int32} {c_m_order : Nat → Int32} {c_m_chosen : Nat → Int32} {c_m_allowed : Nat → Int32} {c_m_pick : Nat → Int32} {c_m_now : Nat → Int32} {c_m_next : Nat → Int32} {c_o : Nat → Int64} (hI : IV f_x_product_size f_x_product_all c_x_product_options f_x_ruleBook_size f_x_ruleBook_on c_x_ruleBook_kinds c_x_ruleBook_slots c_x_ruleBook_others f_x_prices_surcharges c_x_prices_ofSlots c_x_prices_both c_x_prices_amounts f_x_wishes_size c_x_wishes_slots f_x_made_size f_x_made_features c_x_made_order c_x_made_options c_x_pairs_partners f_m_features f_m_rules f_m_on f_m_surcharges f_m_wishes f_m_choices c_m_options c_m_kind c_m_one c_m_its c_m_other c_m_others c_m_price c_m_oneOf c_m_itsOption c_m_otherOf c_m_otherOption c_m_amount c_m_wish c_m_wished c_m_order c_m_chosen) : ((m_L_options f_x_product_size c_x_product_options c_o (xs (x4 + (1 : Int32)).toNatClampNeg)).bind fun u_101 => if u_101.1 = none then (m_X10_options f_m_thrown f_m_features c_m_options (xs (x4 + (1 : Int32)).toNatClampNeg)).bind fun u_102 => (m_X10_thrown u_102.2).bind fun u_103 => if u_103 = u_101.2.1 then if u_101.2.1 = (0 : Int32) then if lg_cmp (u_101.2.2 ((0 : Int32)).toNatClampNeg) u_102.1.toInt64 = (0 : Int32) then k23 (x4 + 6) f_x_product_size f_x_product_all c_x_product_options f_x_ruleBook_size f_x_ruleBook_on c_x_ruleBook_kinds c_x_ruleBook_slots c_x_ruleBook_others f_x_prices_surcharges c_x_prices_ofSlots c_x_prices_both c_x_prices_amounts f_x_wishes_size c_x_wishes_slots f_x_made_size f_x_made_features c_x_made_order c_x_made_options c_x_pairs_partners c_x_trial_partners f_x_diagram_total f_x_diagram_size f_x_diagram_nextSize c_x_diagram_sets c_x_diagram_ways c_x_diagram_nextSets c_x_diagram_nextWays f_x_explanation_rules f_x_explanation_choosers c_x_explanation_kept_partners f_x_search_configuration f_x_search_isFound f_x_search_best f_x_search_sign u_102.2 f_m_features f_m_rules f_m_on f_m_surcharges f_m_wishes f_m_choices f_m_whyRules f_m_whyChoices c_m_options c_m_kind c_m_one c_m_its c_m_other c_m_others c_m_price c_m_oneOf c_m_itsOption c_m_otherOf c_m_otherOption c_m_amount c_m_wish c_m_wished c_m_order c_m_chosen c_m_allowed c_m_pick c_m_now c_m_next u_101.2.2 else some (0 : Int32) else k23 (x4 + 6) f_x_product_size f_x_product_all c_x_product_options f_x_ruleBook_size f_x_ruleBook_on c_x_ruleBook_kinds c_x_ruleBook_slots c_x_ruleBook_others f_x_prices_surcharges c_x_prices_ofSlots c_x_prices_both c_x_prices_amounts f_x_wishes_size c_x_wishes_slots f_x_made_size f_x_made_features c_x_made_order c_x_made_options c_x_pairs_partners c_x_trial_partners f_x_diagram_total f_x_diagram_size f_x_diagram_nextSize c_x_diagram_sets c_x_diagram_ways c_x_diagram_nextSets c_x_diagram_nextWays f_x_explanation_rules f_x_explanation_choosers c_x_explanation_kept_partners f_x_search_configuration f_x_search_isFound f_x_search_best f_x_search_sign u_102.2 f_m_features f_m_rules f_m_on f_m_surcharges f_m_wishes f_m_choices f_m_whyRules f_m_whyChoices c_m_options c_m_kind c_m_one c_m_its c_m_other c_m_others c_m_price c_m_oneOf c_m_itsOption c_m_otherOf c_m_otherOption c_m_amount c_m_wish c_m_wished c_m_order c_m_chosen c_m_allowed c_m_pick c_m_now c_m_next u_101.2.2 else some (0 : Int32) else none) = some 1 := by
  obtain ⟨N, op, nr, kd, sa, sb, ns, su, sv, am, nw, w, os, ch, hi1, hi2, hi3, hi4, hi5, hi6⟩ := hI
  obtain ⟨hF, hFm, rfl, rfl, ha⟩ := hi1
  obtain ⟨hRN, hMb, hXB, rfl, rfl, rfl⟩ := hi2
  generalize xs (x4 + (1 : Int32)).toNatClampNeg = z1
  rcases chk_f hFm z1 with ⟨f, hf, rfl, e1, e2⟩ | ⟨e1, e2⟩
  · have hN := hF.1
    have h9 : m_X9_options (nI N) c_x_product_options (nI f) = some (none, nI (op f)) := by
      unfold m_X9_options
      rw [e1, Option.bind_some, if_pos rfl, if_neg (nI_in2 (by omega) (by omega)), nI_cl (by omega), (hF.2 f hf).2.2]
    have hM : m_X10_options f_m_thrown (nI N) c_m_options (nI f) = some (nI (op f), 0) := by
      unfold m_X10_options
      rw [e2, Option.bind_some, if_neg (show ¬ (1 : Int32) = 0 by decide), if_neg (nI_in2 (by omega) (by omega)), nI_cl (by omega), (hFm.2 f hf).2.2]
    have hL : m_L_options (nI N) c_x_product_options c_o (nI f) = some (none, 0, vp_updL c_o ((0 : Int32)).toNatClampNeg (nI (op f)).toInt64) := by
      unfold m_L_options
      rw [h9, Option.bind_some]
      simp
    rw [hL, Option.bind_some, if_pos rfl, hM, Option.bind_some]
    unfold m_X10_thrown
    rw [Option.bind_some, if_pos rfl, if_pos rfl]
    refine (if_pos (?_ : lg_cmp _ _ = 0)).trans ?_
    · exact lgS _
    apply hk
    exact ⟨N, op, nr, kd, sa, sb, ns, su, sv, am, nw, w, os, ch, ⟨hF, hFm, rfl, rfl, ha⟩, ⟨hRN, hMb, hXB, rfl, rfl, rfl⟩, hi3, hi4, hi5, hi6⟩
  · have h9 : m_X9_options (nI N) c_x_product_options z1 = some (some "java/lang/IndexOutOfBoundsException", 0) := by
      unfold m_X9_options
      rw [e1, Option.bind_some, if_neg (by simp)]
    have hM : m_X10_options f_m_thrown (nI N) c_m_options z1 = some (0, 1) := by
      unfold m_X10_options
      rw [e2, Option.bind_some, if_pos rfl]
    have hL : m_L_options (nI N) c_x_product_options c_o z1 = some (none, 1, c_o) := by
      unfold m_L_options
      rw [h9, Option.bind_some]
      simp
    rw [hL, Option.bind_some, if_pos rfl, hM, Option.bind_some]
    unfold m_X10_thrown
    rw [Option.bind_some, if_pos rfl, if_neg (show ¬ (1 : Int32) = 0 by decide)]
    apply hk
    exact ⟨N, op, nr, kd, sa, sb, ns, su, sv, am, nw, w, os, ch, ⟨hF, hFm, rfl, rfl, ha⟩, ⟨hRN, hMb, hXB, rfl, rfl, rfl⟩, hi3, hi4, hi5, hi6⟩
theorem k_19 {fu : Nat} (hfu : 200000 ≤ fu) {xs : Nat → Int32} {x4 : Int32} {k23 : Int32 → Int32 → Int32 → (Nat → Int32) → Int32 → Int32 → (Nat → Int32) → (Nat → Int32) → (Nat → Int32) → Int32 → (Nat → Int32) → (Nat → Int32) → (Nat → Int32) → Int32 → (Nat → Int32) → Int32 → Int32 → (Nat → Int32) → (Nat → Int32) → (Nat → Int32) → (Nat → Int32) → Int32 → Int32 → Int32 → (Nat → Int32) → (Nat → Int32) → (Nat → Int32) → (Nat → Int32) → Int32 → Int32 → (Nat → Int32) → Int32 → Int32 → Int32 → Int32 → Int32 → Int32 → Int32 → Int32 → Int32 → Int32 → Int32 → Int32 → Int32 → (Nat → Int32) → (Nat → Int32) → (Nat → Int32) → (Nat → Int32) → (Nat → Int32) → (Nat → Int32) → (Nat → Int32) → (Nat → Int32) → (Nat → Int32) → (Nat → Int32) → (Nat → Int32) → (Nat → Int32) → (Nat → Int32) → (Nat → Int32) → (Nat → Int32) → (Nat → Int32) → (Nat → Int32) → (Nat → Int32) → (Nat → Int32) → (Nat → Int32) → (Nat → Int64) → Option Int32} (hk : KH x4 k23) {f_x_product_size : Int32} {f_x_product_all : Int32} {c_x_product_options : Nat → Int32} {f_x_ruleBook_size : Int32} {f_x_ruleBook_on : Int32} {c_x_ruleBook_kinds : Nat → Int32} {c_x_ruleBook_slots : Nat → Int32} {c_x_ruleBook_others : Nat → Int32} {f_x_prices_surcharges : Int32} {c_x_prices_ofSlots : Nat → Int32} {c_x_prices_both : Nat → Int32} {c_x_prices_amounts : Nat → Int32} {f_x_wishes_size : Int32} {c_x_wishes_slots : Nat → Int32} {f_x_made_size : Int32} {f_x_made_features : Int32} {c_x_made_order : Nat → Int32} {c_x_made_options : Nat → Int32} {c_x_pairs_partners : Nat → Int32} {c_x_trial_partners : Nat → Int32} {f_x_diagram_total : Int32} {f_x_diagram_size : Int32} {f_x_diagram_nextSize : Int32} {c_x_diagram_sets : Nat → Int32} {c_x_diagram_ways : Nat → Int32} {c_x_diagram_nextSets : Nat → Int32} {c_x_diagram_nextWays : Nat → Int32} {f_x_explanation_rules : Int32} {f_x_explanation_choosers : Int32} {c_x_explanation_kept_partners : Nat → Int32} {f_x_search_configuration : Int32} {f_x_search_isFound : Int32} {f_x_search_best : Int32} {f_x_search_sign : Int32} {f_m_thrown : Int32} {f_m_features : Int32} {f_m_rules : Int32} {f_m_on : Int32} {f_m_surcharges : Int32} {f_m_wishes : Int32} {f_m_choices : Int32} {f_m_whyRules : Int32} {f_m_whyChoices : Int32} {c_m_options : Nat → Int32} {c_m_kind : Nat → Int32} {c_m_one : Nat → Int32} {c_m_its : Nat → Int32} {c_m_other : Nat → Int32} {c_m_others : Nat → Int32} {c_m_price : Nat → Int32} {c_m_oneOf : Nat → Int32} {c_m_itsOption : Nat → Int32} {c_m_otherOf : Nat → Int32} {c_m_otherOption : Nat → Int32} {c_m_amount : Nat → Int32} {c_m_wish : Nat → Int32} {c_m_wished : Nat → Int32} {c_m_order : Nat → Int32} {c_m_chosen : Nat → Int32} {c_m_allowed : Nat → Int32} {c_m_pick : Nat → Int32} {c_m_now : Nat → Int32} {c_m_next : Nat → Int32} {c_o : Nat → Int64} (hI : IV f_x_product_size f_x_product_all c_x_product_options f_x_ruleBook_size f_x_ruleBook_on c_x_ruleBook_kinds c_x_ruleBook_slots c_x_ruleBook_others f_x_prices_surcharges c_x_prices_ofSlots c_x_prices_both c_x_prices_amounts f_x_wishes_size c_x_wishes_slots f_x_made_size f_x_made_features c_x_made_order c_x_made_options c_x_pairs_partners f_m_features f_m_rules f_m_on f_m_surcharges f_m_wishes f_m_choices c_m_options c_m_kind c_m_one c_m_its c_m_other c_m_others c_m_price c_m_oneOf c_m_itsOption c_m_otherOf c_m_otherOption c_m_amount c_m_wish c_m_wished c_m_order c_m_chosen) : ((m_L_chosen f_x_product_size f_x_made_features c_x_made_options c_o (xs (x4 + (1 : Int32)).toNatClampNeg)).bind fun u_127 => if u_127.1 = none then (m_X10_chosen f_m_thrown f_m_features c_m_chosen (xs (x4 + (1 : Int32)).toNatClampNeg)).bind fun u_128 => (m_X10_thrown u_128.2).bind fun u_129 => if u_129 = u_127.2.1 then if u_127.2.1 = (0 : Int32) then if lg_cmp (u_127.2.2 ((0 : Int32)).toNatClampNeg) u_128.1.toInt64 = (0 : Int32) then k23 (x4 + 6) f_x_product_size f_x_product_all c_x_product_options f_x_ruleBook_size f_x_ruleBook_on c_x_ruleBook_kinds c_x_ruleBook_slots c_x_ruleBook_others f_x_prices_surcharges c_x_prices_ofSlots c_x_prices_both c_x_prices_amounts f_x_wishes_size c_x_wishes_slots f_x_made_size f_x_made_features c_x_made_order c_x_made_options c_x_pairs_partners c_x_trial_partners f_x_diagram_total f_x_diagram_size f_x_diagram_nextSize c_x_diagram_sets c_x_diagram_ways c_x_diagram_nextSets c_x_diagram_nextWays f_x_explanation_rules f_x_explanation_choosers c_x_explanation_kept_partners f_x_search_configuration f_x_search_isFound f_x_search_best f_x_search_sign u_128.2 f_m_features f_m_rules f_m_on f_m_surcharges f_m_wishes f_m_choices f_m_whyRules f_m_whyChoices c_m_options c_m_kind c_m_one c_m_its c_m_other c_m_others c_m_price c_m_oneOf c_m_itsOption c_m_otherOf c_m_otherOption c_m_amount c_m_wish c_m_wished c_m_order c_m_chosen c_m_allowed c_m_pick c_m_now c_m_next u_127.2.2 else some (0 : Int32) else k23 (x4 + 6) f_x_product_size f_x_product_all c_x_product_options f_x_ruleBook_size f_x_ruleBook_on c_x_ruleBook_kinds c_x_ruleBook_slots c_x_ruleBook_others f_x_prices_surcharges c_x_prices_ofSlots c_x_prices_both c_x_prices_amounts f_x_wishes_size c_x_wishes_slots f_x_made_size f_x_made_features c_x_made_order c_x_made_options c_x_pairs_partners c_x_trial_partners f_x_diagram_total f_x_diagram_size f_x_diagram_nextSize c_x_diagram_sets c_x_diagram_ways c_x_diagram_nextSets c_x_diagram_nextWays f_x_explanation_rules f_x_explanation_choosers c_x_explanation_kept_partners f_x_search_configuration f_x_search_isFound f_x_search_best f_x_search_sign u_128.2 f_m_features f_m_rules f_m_on f_m_surcharges f_m_wishes f_m_choices f_m_whyRules f_m_whyChoices c_m_options c_m_kind c_m_one c_m_its c_m_other c_m_others c_m_price c_m_oneOf c_m_itsOption c_m_otherOf c_m_otherOption c_m_amount c_m_wish c_m_wished c_m_order c_m_chosen c_m_allowed c_m_pick c_m_now c_m_next u_127.2.2 else some (0 : Int32) else none) = some 1 := by
  obtain ⟨N, op, nr, kd, sa, sb, ns, su, sv, am, nw, w, os, ch, hi1, hi2, hi3, hi4, hi5, hi6⟩ := hI
  obtain ⟨hF, hFm, rfl, rfl, ha⟩ := hi1
  obtain ⟨hRN, hMb, hXB, rfl, rfl, rfl⟩ := hi2
  generalize xs (x4 + (1 : Int32)).toNatClampNeg = z1
  rcases chk_f hFm z1 with ⟨f, hf, rfl, e1, e2⟩ | ⟨e1, e2⟩
  · have hN := hF.1
    have h9 : m_X9_chosen (nI N) f_x_made_features c_x_made_options (nI f) = some (none, if f ∈ os then nI (ch f) else (-1 : Int32)) := by
      unfold m_X9_chosen
      rw [e1, Option.bind_some, if_pos rfl, q_optOf hi5.1 (by omega), Option.bind_some]
    have hM : m_X10_chosen f_m_thrown (nI N) c_m_chosen (nI f) = some (if f ∈ os then nI (ch f) else (-1 : Int32), 0) := by
      unfold m_X10_chosen
      rw [e2, Option.bind_some, if_neg (show ¬ (1 : Int32) = 0 by decide), if_neg (nI_in2 (by omega) (by omega)), nI_cl (by omega), hi5.2.1.2.2 f hf]
    generalize (if f ∈ os then nI (ch f) else (-1 : Int32)) = v at h9 hM
    have hL : m_L_chosen (nI N) f_x_made_features c_x_made_options c_o (nI f) = some (none, 0, vp_updL c_o ((0 : Int32)).toNatClampNeg v.toInt64) := by
      unfold m_L_chosen
      rw [h9, Option.bind_some]
      simp
    rw [hL, Option.bind_some, if_pos rfl, hM, Option.bind_some]
    unfold m_X10_thrown
    rw [Option.bind_some, if_pos rfl, if_pos rfl]
    refine (if_pos (?_ : lg_cmp _ _ = 0)).trans ?_
    · exact lgS _
    apply hk
    exact ⟨N, op, nr, kd, sa, sb, ns, su, sv, am, nw, w, os, ch, ⟨hF, hFm, rfl, rfl, ha⟩, ⟨hRN, hMb, hXB, rfl, rfl, rfl⟩, hi3, hi4, hi5, hi6⟩
  · have h9 : m_X9_chosen (nI N) f_x_made_features c_x_made_options z1 = some (some "java/lang/IndexOutOfBoundsException", 0) := by
      unfold m_X9_chosen
      rw [e1, Option.bind_some, if_neg (by simp)]
    have hM : m_X10_chosen f_m_thrown (nI N) c_m_chosen z1 = some (0, 1) := by
      unfold m_X10_chosen
      rw [e2, Option.bind_some, if_pos rfl]
    have hL : m_L_chosen (nI N) f_x_made_features c_x_made_options c_o z1 = some (none, 1, c_o) := by
      unfold m_L_chosen
      rw [h9, Option.bind_some]
      simp
    rw [hL, Option.bind_some, if_pos rfl, hM, Option.bind_some]
    unfold m_X10_thrown
    rw [Option.bind_some, if_pos rfl, if_neg (show ¬ (1 : Int32) = 0 by decide)]
    apply hk
    exact ⟨N, op, nr, kd, sa, sb, ns, su, sv, am, nw, w, os, ch, ⟨hF, hFm, rfl, rfl, ha⟩, ⟨hRN, hMb, hXB, rfl, rfl, rfl⟩, hi3, hi4, hi5, hi6⟩
theorem k_18 {fu : Nat} (hfu : 200000 ≤ fu) {xs : Nat → Int32} {x4 : Int32} {k23 : Int32 → Int32 → Int32 → (Nat → Int32) → Int32 → Int32 → (Nat → Int32) → (Nat → Int32) → (Nat → Int32) → Int32 → (Nat → Int32) → (Nat → Int32) → (Nat → Int32) → Int32 → (Nat → Int32) → Int32 → Int32 → (Nat → Int32) → (Nat → Int32) → (Nat → Int32) → (Nat → Int32) → Int32 → Int32 → Int32 → (Nat → Int32) → (Nat → Int32) → (Nat → Int32) → (Nat → Int32) → Int32 → Int32 → (Nat → Int32) → Int32 → Int32 → Int32 → Int32 → Int32 → Int32 → Int32 → Int32 → Int32 → Int32 → Int32 → Int32 → Int32 → (Nat → Int32) → (Nat → Int32) → (Nat → Int32) → (Nat → Int32) → (Nat → Int32) → (Nat → Int32) → (Nat → Int32) → (Nat → Int32) → (Nat → Int32) → (Nat → Int32) → (Nat → Int32) → (Nat → Int32) → (Nat → Int32) → (Nat → Int32) → (Nat → Int32) → (Nat → Int32) → (Nat → Int32) → (Nat → Int32) → (Nat → Int32) → (Nat → Int32) → (Nat → Int64) → Option Int32} (hk : KH x4 k23) {f_x_product_size : Int32} {f_x_product_all : Int32} {c_x_product_options : Nat → Int32} {f_x_ruleBook_size : Int32} {f_x_ruleBook_on : Int32} {c_x_ruleBook_kinds : Nat → Int32} {c_x_ruleBook_slots : Nat → Int32} {c_x_ruleBook_others : Nat → Int32} {f_x_prices_surcharges : Int32} {c_x_prices_ofSlots : Nat → Int32} {c_x_prices_both : Nat → Int32} {c_x_prices_amounts : Nat → Int32} {f_x_wishes_size : Int32} {c_x_wishes_slots : Nat → Int32} {f_x_made_size : Int32} {f_x_made_features : Int32} {c_x_made_order : Nat → Int32} {c_x_made_options : Nat → Int32} {c_x_pairs_partners : Nat → Int32} {c_x_trial_partners : Nat → Int32} {f_x_diagram_total : Int32} {f_x_diagram_size : Int32} {f_x_diagram_nextSize : Int32} {c_x_diagram_sets : Nat → Int32} {c_x_diagram_ways : Nat → Int32} {c_x_diagram_nextSets : Nat → Int32} {c_x_diagram_nextWays : Nat → Int32} {f_x_explanation_rules : Int32} {f_x_explanation_choosers : Int32} {c_x_explanation_kept_partners : Nat → Int32} {f_x_search_configuration : Int32} {f_x_search_isFound : Int32} {f_x_search_best : Int32} {f_x_search_sign : Int32} {f_m_thrown : Int32} {f_m_features : Int32} {f_m_rules : Int32} {f_m_on : Int32} {f_m_surcharges : Int32} {f_m_wishes : Int32} {f_m_choices : Int32} {f_m_whyRules : Int32} {f_m_whyChoices : Int32} {c_m_options : Nat → Int32} {c_m_kind : Nat → Int32} {c_m_one : Nat → Int32} {c_m_its : Nat → Int32} {c_m_other : Nat → Int32} {c_m_others : Nat → Int32} {c_m_price : Nat → Int32} {c_m_oneOf : Nat → Int32} {c_m_itsOption : Nat → Int32} {c_m_otherOf : Nat → Int32} {c_m_otherOption : Nat → Int32} {c_m_amount : Nat → Int32} {c_m_wish : Nat → Int32} {c_m_wished : Nat → Int32} {c_m_order : Nat → Int32} {c_m_chosen : Nat → Int32} {c_m_allowed : Nat → Int32} {c_m_pick : Nat → Int32} {c_m_now : Nat → Int32} {c_m_next : Nat → Int32} {c_o : Nat → Int64} (hI : IV f_x_product_size f_x_product_all c_x_product_options f_x_ruleBook_size f_x_ruleBook_on c_x_ruleBook_kinds c_x_ruleBook_slots c_x_ruleBook_others f_x_prices_surcharges c_x_prices_ofSlots c_x_prices_both c_x_prices_amounts f_x_wishes_size c_x_wishes_slots f_x_made_size f_x_made_features c_x_made_order c_x_made_options c_x_pairs_partners f_m_features f_m_rules f_m_on f_m_surcharges f_m_wishes f_m_choices c_m_options c_m_kind c_m_one c_m_its c_m_other c_m_others c_m_price c_m_oneOf c_m_itsOption c_m_otherOf c_m_otherOption c_m_amount c_m_wish c_m_wished c_m_order c_m_chosen) : ((m_L_choiceAt f_x_made_size c_x_made_order c_o (xs (x4 + (1 : Int32)).toNatClampNeg)).bind fun u_121 => if u_121.1 = none then (m_X10_choiceAt f_m_thrown f_m_choices c_m_order (xs (x4 + (1 : Int32)).toNatClampNeg)).bind fun u_122 => (m_X10_thrown u_122.2).bind fun u_123 => if u_123 = u_121.2.1 then if u_121.2.1 = (0 : Int32) then if lg_cmp (u_121.2.2 ((0 : Int32)).toNatClampNeg) u_122.1.toInt64 = (0 : Int32) then k23 (x4 + 6) f_x_product_size f_x_product_all c_x_product_options f_x_ruleBook_size f_x_ruleBook_on c_x_ruleBook_kinds c_x_ruleBook_slots c_x_ruleBook_others f_x_prices_surcharges c_x_prices_ofSlots c_x_prices_both c_x_prices_amounts f_x_wishes_size c_x_wishes_slots f_x_made_size f_x_made_features c_x_made_order c_x_made_options c_x_pairs_partners c_x_trial_partners f_x_diagram_total f_x_diagram_size f_x_diagram_nextSize c_x_diagram_sets c_x_diagram_ways c_x_diagram_nextSets c_x_diagram_nextWays f_x_explanation_rules f_x_explanation_choosers c_x_explanation_kept_partners f_x_search_configuration f_x_search_isFound f_x_search_best f_x_search_sign u_122.2 f_m_features f_m_rules f_m_on f_m_surcharges f_m_wishes f_m_choices f_m_whyRules f_m_whyChoices c_m_options c_m_kind c_m_one c_m_its c_m_other c_m_others c_m_price c_m_oneOf c_m_itsOption c_m_otherOf c_m_otherOption c_m_amount c_m_wish c_m_wished c_m_order c_m_chosen c_m_allowed c_m_pick c_m_now c_m_next u_121.2.2 else some (0 : Int32) else k23 (x4 + 6) f_x_product_size f_x_product_all c_x_product_options f_x_ruleBook_size f_x_ruleBook_on c_x_ruleBook_kinds c_x_ruleBook_slots c_x_ruleBook_others f_x_prices_surcharges c_x_prices_ofSlots c_x_prices_both c_x_prices_amounts f_x_wishes_size c_x_wishes_slots f_x_made_size f_x_made_features c_x_made_order c_x_made_options c_x_pairs_partners c_x_trial_partners f_x_diagram_total f_x_diagram_size f_x_diagram_nextSize c_x_diagram_sets c_x_diagram_ways c_x_diagram_nextSets c_x_diagram_nextWays f_x_explanation_rules f_x_explanation_choosers c_x_explanation_kept_partners f_x_search_configuration f_x_search_isFound f_x_search_best f_x_search_sign u_122.2 f_m_features f_m_rules f_m_on f_m_surcharges f_m_wishes f_m_choices f_m_whyRules f_m_whyChoices c_m_options c_m_kind c_m_one c_m_its c_m_other c_m_others c_m_price c_m_oneOf c_m_itsOption c_m_otherOf c_m_otherOption c_m_amount c_m_wish c_m_wished c_m_order c_m_chosen c_m_allowed c_m_pick c_m_now c_m_next u_121.2.2 else some (0 : Int32) else none) = some 1 := by
  obtain ⟨N, op, nr, kd, sa, sb, ns, su, sv, am, nw, w, os, ch, hi1, hi2, hi3, hi4, hi5, hi6⟩ := hI
  obtain ⟨hF, hFm, rfl, rfl, ha⟩ := hi1
  obtain ⟨hRN, hMb, hXB, rfl, rfl, rfl⟩ := hi2
  generalize xs (x4 + (1 : Int32)).toNatClampNeg = z1
  have hl6 := hi5.2.2.len
  have hN := hF.1
  have hz : f_m_choices = nI os.length := hi5.2.1.1
  have hz2 : f_x_made_size = nI os.length := hi5.1.1
  by_cases h0 : z1 < 0
  · have h9 : m_X9_choiceAt f_x_made_size c_x_made_order z1 = some (some "java/lang/IndexOutOfBoundsException", 0) := by
      unfold m_X9_choiceAt
      rw [if_pos h0]
    have hM : m_X10_choiceAt f_m_thrown f_m_choices c_m_order z1 = some (0, 1) := by
      unfold m_X10_choiceAt
      rw [q_in0 h0, Option.bind_some, if_pos rfl]
    have hL : m_L_choiceAt f_x_made_size c_x_made_order c_o z1 = some (none, 1, c_o) := by
      unfold m_L_choiceAt
      rw [h9, Option.bind_some]
      simp
    rw [hL, Option.bind_some, if_pos rfl, hM, Option.bind_some]
    unfold m_X10_thrown
    rw [Option.bind_some, if_pos rfl, if_neg (show ¬ (1 : Int32) = 0 by decide)]
    apply hk
    exact ⟨N, op, nr, kd, sa, sb, ns, su, sv, am, nw, w, os, ch, ⟨hF, hFm, rfl, rfl, ha⟩, ⟨hRN, hMb, hXB, rfl, rfl, rfl⟩, hi3, hi4, hi5, hi6⟩
  · rcases pk_ix z1 (n := os.length) (by omega) with h | h | ⟨j, hj, rfl⟩
    · exact absurd h h0
    · have h9 : m_X9_choiceAt f_x_made_size c_x_made_order z1 = some (some "java/lang/IndexOutOfBoundsException", 0) := by
        unfold m_X9_choiceAt
        rw [if_neg h0, hz2, if_neg (fun h3 => by
          obtain ⟨j, hj, rfl⟩ := nI_of h0
          have h4 := (nI_ltI hj (by omega)).mp h3
          have h5 := (nI_leI (by omega) hj).mp h
          omega)]
      have hM : m_X10_choiceAt f_m_thrown f_m_choices c_m_order z1 = some (0, 1) := by
        unfold m_X10_choiceAt
        rw [hz, q_in2 h (by omega), Option.bind_some, if_pos rfl]
      have hL : m_L_choiceAt f_x_made_size c_x_made_order c_o z1 = some (none, 1, c_o) := by
        unfold m_L_choiceAt
        rw [h9, Option.bind_some]
        simp
      rw [hL, Option.bind_some, if_pos rfl, hM, Option.bind_some]
      unfold m_X10_thrown
      rw [Option.bind_some, if_pos rfl, if_neg (show ¬ (1 : Int32) = 0 by decide)]
      apply hk
      exact ⟨N, op, nr, kd, sa, sb, ns, su, sv, am, nw, w, os, ch, ⟨hF, hFm, rfl, rfl, ha⟩, ⟨hRN, hMb, hXB, rfl, rfl, rfl⟩, hi3, hi4, hi5, hi6⟩
    · have h9 : m_X9_choiceAt f_x_made_size c_x_made_order (nI j) = some (none, nI (os.getD j 0)) := by
        unfold m_X9_choiceAt
        rw [if_neg h0, hz2, if_pos ((nlt (by omega) (by omega)).mpr hj), if_neg (nI_in2 (by omega) (by omega)), nI_cl (by omega), hi5.1.2.1 j hj]
      have hM : m_X10_choiceAt f_m_thrown f_m_choices c_m_order (nI j) = some (nI (os.getD j 0), 0) := by
        unfold m_X10_choiceAt
        rw [hz, q_in1 hj (by omega), Option.bind_some, if_neg (show ¬ (1 : Int32) = 0 by decide), if_neg (nI_in2 (by omega) (by omega)), nI_cl (by omega), hi5.2.1.2.1 j hj]
      generalize nI (os.getD j 0) = v at h9 hM
      have hL : m_L_choiceAt f_x_made_size c_x_made_order c_o (nI j) = some (none, 0, vp_updL c_o ((0 : Int32)).toNatClampNeg v.toInt64) := by
        unfold m_L_choiceAt
        rw [h9, Option.bind_some]
        simp
      rw [hL, Option.bind_some, if_pos rfl, hM, Option.bind_some]
      unfold m_X10_thrown
      rw [Option.bind_some, if_pos rfl, if_pos rfl]
      refine (if_pos (?_ : lg_cmp _ _ = 0)).trans ?_
      · exact lgS _
      apply hk
      exact ⟨N, op, nr, kd, sa, sb, ns, su, sv, am, nw, w, os, ch, ⟨hF, hFm, rfl, rfl, ha⟩, ⟨hRN, hMb, hXB, rfl, rfl, rfl⟩, hi3, hi4, hi5, hi6⟩
theorem k_20 {fu : Nat} (hfu : 200000 ≤ fu) {xs : Nat → Int32} {x4 : Int32} {k23 : Int32 → Int32 → Int32 → (Nat → Int32) → Int32 → Int32 → (Nat → Int32) → (Nat → Int32) → (Nat → Int32) → Int32 → (Nat → Int32) → (Nat → Int32) → (Nat → Int32) → Int32 → (Nat → Int32) → Int32 → Int32 → (Nat → Int32) → (Nat → Int32) → (Nat → Int32) → (Nat → Int32) → Int32 → Int32 → Int32 → (Nat → Int32) → (Nat → Int32) → (Nat → Int32) → (Nat → Int32) → Int32 → Int32 → (Nat → Int32) → Int32 → Int32 → Int32 → Int32 → Int32 → Int32 → Int32 → Int32 → Int32 → Int32 → Int32 → Int32 → Int32 → (Nat → Int32) → (Nat → Int32) → (Nat → Int32) → (Nat → Int32) → (Nat → Int32) → (Nat → Int32) → (Nat → Int32) → (Nat → Int32) → (Nat → Int32) → (Nat → Int32) → (Nat → Int32) → (Nat → Int32) → (Nat → Int32) → (Nat → Int32) → (Nat → Int32) → (Nat → Int32) → (Nat → Int32) → (Nat → Int32) → (Nat → Int32) → (Nat → Int32) → (Nat → Int64) → Option Int32} (hk : KH x4 k23) {f_x_product_size : Int32} {f_x_product_all : Int32} {c_x_product_options : Nat → Int32} {f_x_ruleBook_size : Int32} {f_x_ruleBook_on : Int32} {c_x_ruleBook_kinds : Nat → Int32} {c_x_ruleBook_slots : Nat → Int32} {c_x_ruleBook_others : Nat → Int32} {f_x_prices_surcharges : Int32} {c_x_prices_ofSlots : Nat → Int32} {c_x_prices_both : Nat → Int32} {c_x_prices_amounts : Nat → Int32} {f_x_wishes_size : Int32} {c_x_wishes_slots : Nat → Int32} {f_x_made_size : Int32} {f_x_made_features : Int32} {c_x_made_order : Nat → Int32} {c_x_made_options : Nat → Int32} {c_x_pairs_partners : Nat → Int32} {c_x_trial_partners : Nat → Int32} {f_x_diagram_total : Int32} {f_x_diagram_size : Int32} {f_x_diagram_nextSize : Int32} {c_x_diagram_sets : Nat → Int32} {c_x_diagram_ways : Nat → Int32} {c_x_diagram_nextSets : Nat → Int32} {c_x_diagram_nextWays : Nat → Int32} {f_x_explanation_rules : Int32} {f_x_explanation_choosers : Int32} {c_x_explanation_kept_partners : Nat → Int32} {f_x_search_configuration : Int32} {f_x_search_isFound : Int32} {f_x_search_best : Int32} {f_x_search_sign : Int32} {f_m_thrown : Int32} {f_m_features : Int32} {f_m_rules : Int32} {f_m_on : Int32} {f_m_surcharges : Int32} {f_m_wishes : Int32} {f_m_choices : Int32} {f_m_whyRules : Int32} {f_m_whyChoices : Int32} {c_m_options : Nat → Int32} {c_m_kind : Nat → Int32} {c_m_one : Nat → Int32} {c_m_its : Nat → Int32} {c_m_other : Nat → Int32} {c_m_others : Nat → Int32} {c_m_price : Nat → Int32} {c_m_oneOf : Nat → Int32} {c_m_itsOption : Nat → Int32} {c_m_otherOf : Nat → Int32} {c_m_otherOption : Nat → Int32} {c_m_amount : Nat → Int32} {c_m_wish : Nat → Int32} {c_m_wished : Nat → Int32} {c_m_order : Nat → Int32} {c_m_chosen : Nat → Int32} {c_m_allowed : Nat → Int32} {c_m_pick : Nat → Int32} {c_m_now : Nat → Int32} {c_m_next : Nat → Int32} {c_o : Nat → Int64} (hI : IV f_x_product_size f_x_product_all c_x_product_options f_x_ruleBook_size f_x_ruleBook_on c_x_ruleBook_kinds c_x_ruleBook_slots c_x_ruleBook_others f_x_prices_surcharges c_x_prices_ofSlots c_x_prices_both c_x_prices_amounts f_x_wishes_size c_x_wishes_slots f_x_made_size f_x_made_features c_x_made_order c_x_made_options c_x_pairs_partners f_m_features f_m_rules f_m_on f_m_surcharges f_m_wishes f_m_choices c_m_options c_m_kind c_m_one c_m_its c_m_other c_m_others c_m_price c_m_oneOf c_m_itsOption c_m_otherOf c_m_otherOption c_m_amount c_m_wish c_m_wished c_m_order c_m_chosen) : ((m_L_remaining fu f_x_product_size f_x_product_all f_x_made_size f_x_made_features c_x_made_order c_x_made_options c_x_pairs_partners c_o (xs (x4 + (1 : Int32)).toNatClampNeg)).bind fun u_133 => if u_133.1 = none then (m_X10_remaining fu f_m_thrown f_m_features f_m_rules f_m_on c_m_options c_m_kind c_m_one c_m_its c_m_other c_m_others c_m_chosen c_m_allowed (xs (x4 + (1 : Int32)).toNatClampNeg)).bind fun u_134 => (m_X10_thrown u_134.2.1).bind fun u_135 => if u_135 = u_133.2.1 then if u_133.2.1 = (0 : Int32) then if lg_cmp (u_133.2.2 ((0 : Int32)).toNatClampNeg) u_134.1.toInt64 = (0 : Int32) then k23 (x4 + 6) f_x_product_size f_x_product_all c_x_product_options f_x_ruleBook_size f_x_ruleBook_on c_x_ruleBook_kinds c_x_ruleBook_slots c_x_ruleBook_others f_x_prices_surcharges c_x_prices_ofSlots c_x_prices_both c_x_prices_amounts f_x_wishes_size c_x_wishes_slots f_x_made_size f_x_made_features c_x_made_order c_x_made_options c_x_pairs_partners c_x_trial_partners f_x_diagram_total f_x_diagram_size f_x_diagram_nextSize c_x_diagram_sets c_x_diagram_ways c_x_diagram_nextSets c_x_diagram_nextWays f_x_explanation_rules f_x_explanation_choosers c_x_explanation_kept_partners f_x_search_configuration f_x_search_isFound f_x_search_best f_x_search_sign u_134.2.1 f_m_features f_m_rules f_m_on f_m_surcharges f_m_wishes f_m_choices f_m_whyRules f_m_whyChoices c_m_options c_m_kind c_m_one c_m_its c_m_other c_m_others c_m_price c_m_oneOf c_m_itsOption c_m_otherOf c_m_otherOption c_m_amount c_m_wish c_m_wished c_m_order c_m_chosen u_134.2.2 c_m_pick c_m_now c_m_next u_133.2.2 else some (0 : Int32) else k23 (x4 + 6) f_x_product_size f_x_product_all c_x_product_options f_x_ruleBook_size f_x_ruleBook_on c_x_ruleBook_kinds c_x_ruleBook_slots c_x_ruleBook_others f_x_prices_surcharges c_x_prices_ofSlots c_x_prices_both c_x_prices_amounts f_x_wishes_size c_x_wishes_slots f_x_made_size f_x_made_features c_x_made_order c_x_made_options c_x_pairs_partners c_x_trial_partners f_x_diagram_total f_x_diagram_size f_x_diagram_nextSize c_x_diagram_sets c_x_diagram_ways c_x_diagram_nextSets c_x_diagram_nextWays f_x_explanation_rules f_x_explanation_choosers c_x_explanation_kept_partners f_x_search_configuration f_x_search_isFound f_x_search_best f_x_search_sign u_134.2.1 f_m_features f_m_rules f_m_on f_m_surcharges f_m_wishes f_m_choices f_m_whyRules f_m_whyChoices c_m_options c_m_kind c_m_one c_m_its c_m_other c_m_others c_m_price c_m_oneOf c_m_itsOption c_m_otherOf c_m_otherOption c_m_amount c_m_wish c_m_wished c_m_order c_m_chosen u_134.2.2 c_m_pick c_m_now c_m_next u_133.2.2 else some (0 : Int32) else none) = some 1 := by
  obtain ⟨N, op, nr, kd, sa, sb, ns, su, sv, am, nw, w, os, ch, hi1, hi2, hi3, hi4, hi5, hi6⟩ := hI
  obtain ⟨hF, hFm, rfl, rfl, ha⟩ := hi1
  obtain ⟨hRN, hMb, hXB, rfl, rfl, rfl⟩ := hi2
  generalize xs (x4 + (1 : Int32)).toNatClampNeg = z1
  rcases chk_f hFm z1 with ⟨f, hf, rfl, e1, e2⟩ | ⟨e1, e2⟩
  · have hN := hF.1
    obtain ⟨y, zz, al1, al', y1, y2, a1, a2⟩ := q_remaining hfu hMb hi6.1 hi5 hFm ha hf 0 c_m_allowed
    have h9 : m_X9_remaining fu (nI N) f_x_product_all f_x_made_size f_x_made_features c_x_made_order c_x_made_options c_x_pairs_partners (nI f) = some (none, s5 zz f) := by
      unfold m_X9_remaining
      rw [e1, Option.bind_some, if_pos rfl, y1, Option.bind_some, y2, Option.bind_some, q_setOf, Option.bind_some]
    have hM : m_X10_remaining fu f_m_thrown (nI N) (nI nr) f_x_ruleBook_on c_m_options c_m_kind c_m_one c_m_its c_m_other c_m_others c_m_chosen c_m_allowed (nI f) = some (s5 zz f, 0, al') := by
      unfold m_X10_remaining
      rw [e2, Option.bind_some, if_neg (show ¬ (1 : Int32) = 0 by decide), a1, Option.bind_some, a2]
    generalize s5 zz f = v at h9 hM
    have hL : m_L_remaining fu (nI N) f_x_product_all f_x_made_size f_x_made_features c_x_made_order c_x_made_options c_x_pairs_partners c_o (nI f) = some (none, 0, vp_updL c_o ((0 : Int32)).toNatClampNeg v.toInt64) := by
      unfold m_L_remaining
      rw [h9, Option.bind_some]
      simp
    rw [hL, Option.bind_some, if_pos rfl, hM, Option.bind_some]
    unfold m_X10_thrown
    rw [Option.bind_some, if_pos rfl, if_pos rfl]
    refine (if_pos (?_ : lg_cmp _ _ = 0)).trans ?_
    · exact lgS _
    apply hk
    exact ⟨N, op, nr, kd, sa, sb, ns, su, sv, am, nw, w, os, ch, ⟨hF, hFm, rfl, rfl, ha⟩, ⟨hRN, hMb, hXB, rfl, rfl, rfl⟩, hi3, hi4, hi5, hi6⟩
  · have h9 : m_X9_remaining fu (nI N) f_x_product_all f_x_made_size f_x_made_features c_x_made_order c_x_made_options c_x_pairs_partners z1 = some (some "java/lang/IndexOutOfBoundsException", 0) := by
      unfold m_X9_remaining
      rw [e1, Option.bind_some, if_neg (by simp)]
    have hM : m_X10_remaining fu f_m_thrown (nI N) (nI nr) f_x_ruleBook_on c_m_options c_m_kind c_m_one c_m_its c_m_other c_m_others c_m_chosen c_m_allowed z1 = some (0, 1, c_m_allowed) := by
      unfold m_X10_remaining
      rw [e2, Option.bind_some, if_pos rfl]
    have hL : m_L_remaining fu (nI N) f_x_product_all f_x_made_size f_x_made_features c_x_made_order c_x_made_options c_x_pairs_partners c_o z1 = some (none, 1, c_o) := by
      unfold m_L_remaining
      rw [h9, Option.bind_some]
      simp
    rw [hL, Option.bind_some, if_pos rfl, hM, Option.bind_some]
    unfold m_X10_thrown
    rw [Option.bind_some, if_pos rfl, if_neg (show ¬ (1 : Int32) = 0 by decide)]
    apply hk
    exact ⟨N, op, nr, kd, sa, sb, ns, su, sv, am, nw, w, os, ch, ⟨hF, hFm, rfl, rfl, ha⟩, ⟨hRN, hMb, hXB, rfl, rfl, rfl⟩, hi3, hi4, hi5, hi6⟩
theorem k_21 {fu : Nat} (hfu : 200000 ≤ fu) {xs : Nat → Int32} {x4 : Int32} {k23 : Int32 → Int32 → Int32 → (Nat → Int32) → Int32 → Int32 → (Nat → Int32) → (Nat → Int32) → (Nat → Int32) → Int32 → (Nat → Int32) → (Nat → Int32) → (Nat → Int32) → Int32 → (Nat → Int32) → Int32 → Int32 → (Nat → Int32) → (Nat → Int32) → (Nat → Int32) → (Nat → Int32) → Int32 → Int32 → Int32 → (Nat → Int32) → (Nat → Int32) → (Nat → Int32) → (Nat → Int32) → Int32 → Int32 → (Nat → Int32) → Int32 → Int32 → Int32 → Int32 → Int32 → Int32 → Int32 → Int32 → Int32 → Int32 → Int32 → Int32 → Int32 → (Nat → Int32) → (Nat → Int32) → (Nat → Int32) → (Nat → Int32) → (Nat → Int32) → (Nat → Int32) → (Nat → Int32) → (Nat → Int32) → (Nat → Int32) → (Nat → Int32) → (Nat → Int32) → (Nat → Int32) → (Nat → Int32) → (Nat → Int32) → (Nat → Int32) → (Nat → Int32) → (Nat → Int32) → (Nat → Int32) → (Nat → Int32) → (Nat → Int32) → (Nat → Int64) → Option Int32} (hk : KH x4 k23) {f_x_product_size : Int32} {f_x_product_all : Int32} {c_x_product_options : Nat → Int32} {f_x_ruleBook_size : Int32} {f_x_ruleBook_on : Int32} {c_x_ruleBook_kinds : Nat → Int32} {c_x_ruleBook_slots : Nat → Int32} {c_x_ruleBook_others : Nat → Int32} {f_x_prices_surcharges : Int32} {c_x_prices_ofSlots : Nat → Int32} {c_x_prices_both : Nat → Int32} {c_x_prices_amounts : Nat → Int32} {f_x_wishes_size : Int32} {c_x_wishes_slots : Nat → Int32} {f_x_made_size : Int32} {f_x_made_features : Int32} {c_x_made_order : Nat → Int32} {c_x_made_options : Nat → Int32} {c_x_pairs_partners : Nat → Int32} {c_x_trial_partners : Nat → Int32} {f_x_diagram_total : Int32} {f_x_diagram_size : Int32} {f_x_diagram_nextSize : Int32} {c_x_diagram_sets : Nat → Int32} {c_x_diagram_ways : Nat → Int32} {c_x_diagram_nextSets : Nat → Int32} {c_x_diagram_nextWays : Nat → Int32} {f_x_explanation_rules : Int32} {f_x_explanation_choosers : Int32} {c_x_explanation_kept_partners : Nat → Int32} {f_x_search_configuration : Int32} {f_x_search_isFound : Int32} {f_x_search_best : Int32} {f_x_search_sign : Int32} {f_m_thrown : Int32} {f_m_features : Int32} {f_m_rules : Int32} {f_m_on : Int32} {f_m_surcharges : Int32} {f_m_wishes : Int32} {f_m_choices : Int32} {f_m_whyRules : Int32} {f_m_whyChoices : Int32} {c_m_options : Nat → Int32} {c_m_kind : Nat → Int32} {c_m_one : Nat → Int32} {c_m_its : Nat → Int32} {c_m_other : Nat → Int32} {c_m_others : Nat → Int32} {c_m_price : Nat → Int32} {c_m_oneOf : Nat → Int32} {c_m_itsOption : Nat → Int32} {c_m_otherOf : Nat → Int32} {c_m_otherOption : Nat → Int32} {c_m_amount : Nat → Int32} {c_m_wish : Nat → Int32} {c_m_wished : Nat → Int32} {c_m_order : Nat → Int32} {c_m_chosen : Nat → Int32} {c_m_allowed : Nat → Int32} {c_m_pick : Nat → Int32} {c_m_now : Nat → Int32} {c_m_next : Nat → Int32} {c_o : Nat → Int64} (hI : IV f_x_product_size f_x_product_all c_x_product_options f_x_ruleBook_size f_x_ruleBook_on c_x_ruleBook_kinds c_x_ruleBook_slots c_x_ruleBook_others f_x_prices_surcharges c_x_prices_ofSlots c_x_prices_both c_x_prices_amounts f_x_wishes_size c_x_wishes_slots f_x_made_size f_x_made_features c_x_made_order c_x_made_options c_x_pairs_partners f_m_features f_m_rules f_m_on f_m_surcharges f_m_wishes f_m_choices c_m_options c_m_kind c_m_one c_m_its c_m_other c_m_others c_m_price c_m_oneOf c_m_itsOption c_m_otherOf c_m_otherOption c_m_amount c_m_wish c_m_wished c_m_order c_m_chosen) : ((m_L_offered fu f_x_product_size f_x_product_all f_x_made_size f_x_made_features c_x_made_order c_x_made_options c_x_pairs_partners c_o (xs (x4 + (1 : Int32)).toNatClampNeg)).bind fun u_139 => if u_139.1 = none then (m_X10_offered fu f_m_thrown f_m_features f_m_rules f_m_on c_m_options c_m_kind c_m_one c_m_its c_m_other c_m_others c_m_chosen c_m_allowed c_m_pick (xs (x4 + (1 : Int32)).toNatClampNeg)).bind fun u_140 => (m_X10_thrown u_140.2.1).bind fun u_141 => if u_141 = u_139.2.1 then if u_139.2.1 = (0 : Int32) then if lg_cmp (u_139.2.2 ((0 : Int32)).toNatClampNeg) u_140.1.toInt64 = (0 : Int32) then k23 (x4 + 6) f_x_product_size f_x_product_all c_x_product_options f_x_ruleBook_size f_x_ruleBook_on c_x_ruleBook_kinds c_x_ruleBook_slots c_x_ruleBook_others f_x_prices_surcharges c_x_prices_ofSlots c_x_prices_both c_x_prices_amounts f_x_wishes_size c_x_wishes_slots f_x_made_size f_x_made_features c_x_made_order c_x_made_options c_x_pairs_partners c_x_trial_partners f_x_diagram_total f_x_diagram_size f_x_diagram_nextSize c_x_diagram_sets c_x_diagram_ways c_x_diagram_nextSets c_x_diagram_nextWays f_x_explanation_rules f_x_explanation_choosers c_x_explanation_kept_partners f_x_search_configuration f_x_search_isFound f_x_search_best f_x_search_sign u_140.2.1 f_m_features f_m_rules f_m_on f_m_surcharges f_m_wishes f_m_choices f_m_whyRules f_m_whyChoices c_m_options c_m_kind c_m_one c_m_its c_m_other c_m_others c_m_price c_m_oneOf c_m_itsOption c_m_otherOf c_m_otherOption c_m_amount c_m_wish c_m_wished c_m_order c_m_chosen u_140.2.2.1 u_140.2.2.2 c_m_now c_m_next u_139.2.2 else some (0 : Int32) else k23 (x4 + 6) f_x_product_size f_x_product_all c_x_product_options f_x_ruleBook_size f_x_ruleBook_on c_x_ruleBook_kinds c_x_ruleBook_slots c_x_ruleBook_others f_x_prices_surcharges c_x_prices_ofSlots c_x_prices_both c_x_prices_amounts f_x_wishes_size c_x_wishes_slots f_x_made_size f_x_made_features c_x_made_order c_x_made_options c_x_pairs_partners c_x_trial_partners f_x_diagram_total f_x_diagram_size f_x_diagram_nextSize c_x_diagram_sets c_x_diagram_ways c_x_diagram_nextSets c_x_diagram_nextWays f_x_explanation_rules f_x_explanation_choosers c_x_explanation_kept_partners f_x_search_configuration f_x_search_isFound f_x_search_best f_x_search_sign u_140.2.1 f_m_features f_m_rules f_m_on f_m_surcharges f_m_wishes f_m_choices f_m_whyRules f_m_whyChoices c_m_options c_m_kind c_m_one c_m_its c_m_other c_m_others c_m_price c_m_oneOf c_m_itsOption c_m_otherOf c_m_otherOption c_m_amount c_m_wish c_m_wished c_m_order c_m_chosen u_140.2.2.1 u_140.2.2.2 c_m_now c_m_next u_139.2.2 else some (0 : Int32) else none) = some 1 := by
  obtain ⟨N, op, nr, kd, sa, sb, ns, su, sv, am, nw, w, os, ch, hi1, hi2, hi3, hi4, hi5, hi6⟩ := hI
  obtain ⟨hF, hFm, rfl, rfl, ha⟩ := hi1
  obtain ⟨hRN, hMb, hXB, rfl, rfl, rfl⟩ := hi2
  generalize xs (x4 + (1 : Int32)).toNatClampNeg = z1
  rcases chk_f hFm z1 with ⟨f, hf, rfl, e1, e2⟩ | ⟨e1, e2⟩
  · have hN := hF.1
    obtain ⟨v, al', c', y1, a1⟩ := q_offered hfu hMb hi6.1 hi5 hFm ha hf c_m_allowed c_m_pick
    have h9 : m_X9_offered fu (nI N) f_x_product_all f_x_made_size f_x_made_features c_x_made_order c_x_made_options c_x_pairs_partners (nI f) = some (none, v) := by
      unfold m_X9_offered
      rw [e1, Option.bind_some, if_pos rfl, y1, Option.bind_some]
    have hM : m_X10_offered fu f_m_thrown (nI N) (nI nr) f_x_ruleBook_on c_m_options c_m_kind c_m_one c_m_its c_m_other c_m_others c_m_chosen c_m_allowed c_m_pick (nI f) = some (v, 0, al', c') := by
      unfold m_X10_offered
      rw [e2, Option.bind_some, if_neg (show ¬ (1 : Int32) = 0 by decide), a1]
    have hL : m_L_offered fu (nI N) f_x_product_all f_x_made_size f_x_made_features c_x_made_order c_x_made_options c_x_pairs_partners c_o (nI f) = some (none, 0, vp_updL c_o ((0 : Int32)).toNatClampNeg v.toInt64) := by
      unfold m_L_offered
      rw [h9, Option.bind_some]
      simp
    rw [hL, Option.bind_some, if_pos rfl, hM, Option.bind_some]
    unfold m_X10_thrown
    rw [Option.bind_some, if_pos rfl, if_pos rfl]
    refine (if_pos (?_ : lg_cmp _ _ = 0)).trans ?_
    · exact lgS _
    apply hk
    exact ⟨N, op, nr, kd, sa, sb, ns, su, sv, am, nw, w, os, ch, ⟨hF, hFm, rfl, rfl, ha⟩, ⟨hRN, hMb, hXB, rfl, rfl, rfl⟩, hi3, hi4, hi5, hi6⟩
  · have h9 : m_X9_offered fu (nI N) f_x_product_all f_x_made_size f_x_made_features c_x_made_order c_x_made_options c_x_pairs_partners z1 = some (some "java/lang/IndexOutOfBoundsException", 0) := by
      unfold m_X9_offered
      rw [e1, Option.bind_some, if_neg (by simp)]
    have hM : m_X10_offered fu f_m_thrown (nI N) (nI nr) f_x_ruleBook_on c_m_options c_m_kind c_m_one c_m_its c_m_other c_m_others c_m_chosen c_m_allowed c_m_pick z1 = some (0, 1, c_m_allowed, c_m_pick) := by
      unfold m_X10_offered
      rw [e2, Option.bind_some, if_pos rfl]
      obtain ⟨n, hn⟩ : ∃ k, fu = k + 1 := ⟨fu - 1, by omega⟩
      exact of1 hn
    have hL : m_L_offered fu (nI N) f_x_product_all f_x_made_size f_x_made_features c_x_made_order c_x_made_options c_x_pairs_partners c_o z1 = some (none, 1, c_o) := by
      unfold m_L_offered
      rw [h9, Option.bind_some]
      simp
    rw [hL, Option.bind_some, if_pos rfl, hM, Option.bind_some]
    unfold m_X10_thrown
    rw [Option.bind_some, if_pos rfl, if_neg (show ¬ (1 : Int32) = 0 by decide)]
    apply hk
    exact ⟨N, op, nr, kd, sa, sb, ns, su, sv, am, nw, w, os, ch, ⟨hF, hFm, rfl, rfl, ha⟩, ⟨hRN, hMb, hXB, rfl, rfl, rfl⟩, hi3, hi4, hi5, hi6⟩
