/-! prices read: cases -/
theorem on1_eq {y : Int32} {f a : Nat} (hf : f < 6) (ha : a < 5) (hb : bt y (5 * f + a) = true) : y &&& on1 y f a = on1 y f a := by
  refine b_ext (fun i hi => ?_)
  rw [b_cut hf ha hi, b_on1 y hf ha hi]
  by_cases q : i / 5 = f
  · rw [if_pos q, if_pos (by omega)]
    by_cases q2 : i = 5 * f + a
    · rw [q2, hb, Bool.true_and]
      exact decide_eq_decide.mpr (by omega)
    · rw [decide_eq_false q2, decide_eq_false (by omega), Bool.and_false]
  · rw [if_neg q, if_neg (by omega)]
theorem sur_g {N ns : Nat} {su sv : Nat → Nat} {am : Nat → Int32} (hS : Sc N ns su sv am) {a b : List Nat} (h : ∀ j, j < N → gd a j = gd b j) : ∀ {n : Nat}, n ≤ ns → sur su sv am a n = sur su sv am b n
  | 0, _ => rfl
  | n + 1, hn => by
    obtain ⟨h1, h2, -, -⟩ := hS.2 n (by omega)
    have e : hit su sv a n = hit su sv b n := by
      unfold hit
      rw [h _ h1, h _ h2]
    rw [sur, sur, e, sur_g hS h (by omega)]
theorem prs_g {pr : Nat → Int32} {a b : List Nat} : ∀ {n : Nat}, (∀ j, j < n → gd a j = gd b j) → prs pr a n = prs pr b n
  | 0, _ => rfl
  | n + 1, h => by rw [prs, prs, prs_g (fun j hj => h j (by omega)), h n (by omega)]
theorem bst_same {κ : List Nat → Int32} {b : Int32} : ∀ {l : List (List Nat)}, (∀ c, c ∈ l → κ c = b) → bst false κ b l = b
  | [], _ => rfl
  | c :: l, h => by
    have e := h c (List.mem_cons_self ..)
    have ih := bst_same (κ := κ) (b := b) (l := l) (fun d hd => h d (List.mem_cons_of_mem _ hd))
    unfold bst at ih ⊢
    rw [List.foldl_cons, e]
    show List.foldl _ (if b ≤ b then b else b) l = b
    rw [ite_self]
    exact ih
theorem q_price_L {fu : Nat} {N ns : Nat} {x3 th r : Int32} {pr d1 di d2 dj da cho : Nat → Int32} (hN : N ≤ 6) {v : Nat → Int32} (hv : ∀ j, j < N → cho j = v j) (hc : ∀ c : Nat → Int32, (∀ j, j < N → c j = v j) → m_X10_costs fu (nI N) (nI ns) pr d1 di d2 dj da c = some r) : ∀ (m f n : Nat) (c : Nat → Int32), f + m = N → m < n → (∀ j, j < f → c j = v j) →
    ∃ c', m_X10_price_L31 fu (nI N) (nI ns) x3 pr d1 di d2 dj da cho n (nI f) th c = some (r, th, c') := by
  intro m
  induction m with
  | zero =>
    intro f n c hf hn h
    obtain ⟨n, rfl⟩ : ∃ k, n = k + 1 := ⟨n - 1, by omega⟩
    refine ⟨c, ?_⟩
    show m_X10_price_L31_b fu (nI N) (nI ns) x3 pr d1 di d2 dj da cho (m_X10_price_L31 fu (nI N) (nI ns) x3 pr d1 di d2 dj da cho n) (nI f) th c = _
    unfold m_X10_price_L31_b
    rw [if_pos ((nle (by omega) (by omega)).mpr (by omega)), hc c (fun j hj => h j (by omega)), Option.bind_some]
  | succ m ih =>
    intro f n c hf hn h
    obtain ⟨n, rfl⟩ : ∃ k, n = k + 1 := ⟨n - 1, by omega⟩
    show ∃ c', m_X10_price_L31_b fu (nI N) (nI ns) x3 pr d1 di d2 dj da cho (m_X10_price_L31 fu (nI N) (nI ns) x3 pr d1 di d2 dj da cho n) (nI f) th c = _
    unfold m_X10_price_L31_b
    rw [if_neg (fun h => by have := (nle (by omega) (by omega)).mp h; omega), if_neg (nI_in2 (by omega) (by omega)), nI_cl (by omega), hv f (by omega), n1]
    refine ih (f + 1) n _ (by omega) (by omega) (fun j hj => ?_)
    by_cases q : j = f
    · rw [q, upd_s]
    · rw [upd_n q]; exact h j (by omega)
theorem k_27 {fu : Nat} (hfu : 200000 ≤ fu) {xs : Nat → Int32} {x4 : Int32} {k23 : Int32 → Int32 → Int32 → (Nat → Int32) → Int32 → Int32 → (Nat → Int32) → (Nat → Int32) → (Nat → Int32) → Int32 → (Nat → Int32) → (Nat → Int32) → (Nat → Int32) → Int32 → (Nat → Int32) → Int32 → Int32 → (Nat → Int32) → (Nat → Int32) → (Nat → Int32) → (Nat → Int32) → Int32 → Int32 → Int32 → (Nat → Int32) → (Nat → Int32) → (Nat → Int32) → (Nat → Int32) → Int32 → Int32 → (Nat → Int32) → Int32 → Int32 → Int32 → Int32 → Int32 → Int32 → Int32 → Int32 → Int32 → Int32 → Int32 → Int32 → Int32 → (Nat → Int32) → (Nat → Int32) → (Nat → Int32) → (Nat → Int32) → (Nat → Int32) → (Nat → Int32) → (Nat → Int32) → (Nat → Int32) → (Nat → Int32) → (Nat → Int32) → (Nat → Int32) → (Nat → Int32) → (Nat → Int32) → (Nat → Int32) → (Nat → Int32) → (Nat → Int32) → (Nat → Int32) → (Nat → Int32) → (Nat → Int32) → (Nat → Int32) → (Nat → Int64) → Option Int32} (hk : KH x4 k23) {f_x_product_size : Int32} {f_x_product_all : Int32} {c_x_product_options : Nat → Int32} {f_x_ruleBook_size : Int32} {f_x_ruleBook_on : Int32} {c_x_ruleBook_kinds : Nat → Int32} {c_x_ruleBook_slots : Nat → Int32} {c_x_ruleBook_others : Nat → Int32} {f_x_prices_surcharges : Int32} {c_x_prices_ofSlots : Nat → Int32} {c_x_prices_both : Nat → Int32} {c_x_prices_amounts : Nat → Int32} {f_x_wishes_size : Int32} {c_x_wishes_slots : Nat → Int32} {f_x_made_size : Int32} {f_x_made_features : Int32} {c_x_made_order : Nat → Int32} {c_x_made_options : Nat → Int32} {c_x_pairs_partners : Nat → Int32} {c_x_trial_partners : Nat → Int32} {f_x_diagram_total : Int32} {f_x_diagram_size : Int32} {f_x_diagram_nextSize : Int32} {c_x_diagram_sets : Nat → Int32} {c_x_diagram_ways : Nat → Int32} {c_x_diagram_nextSets : Nat → Int32} {c_x_diagram_nextWays : Nat → Int32} {f_x_explanation_rules : Int32} {f_x_explanation_choosers : Int32} {c_x_explanation_kept_partners : Nat → Int32} {f_x_search_configuration : Int32} {f_x_search_isFound : Int32} {f_x_search_best : Int32} {f_x_search_sign : Int32} {f_m_thrown : Int32} {f_m_features : Int32} {f_m_rules : Int32} {f_m_on : Int32} {f_m_surcharges : Int32} {f_m_wishes : Int32} {f_m_choices : Int32} {f_m_whyRules : Int32} {f_m_whyChoices : Int32} {c_m_options : Nat → Int32} {c_m_kind : Nat → Int32} {c_m_one : Nat → Int32} {c_m_its : Nat → Int32} {c_m_other : Nat → Int32} {c_m_others : Nat → Int32} {c_m_price : Nat → Int32} {c_m_oneOf : Nat → Int32} {c_m_itsOption : Nat → Int32} {c_m_otherOf : Nat → Int32} {c_m_otherOption : Nat → Int32} {c_m_amount : Nat → Int32} {c_m_wish : Nat → Int32} {c_m_wished : Nat → Int32} {c_m_order : Nat → Int32} {c_m_chosen : Nat → Int32} {c_m_allowed : Nat → Int32} {c_m_pick : Nat → Int32} {c_m_now : Nat → Int32} {c_m_next : Nat → Int32} {c_o : Nat → Int64} (hI : IV f_x_product_size f_x_product_all c_x_product_options f_x_ruleBook_size f_x_ruleBook_on c_x_ruleBook_kinds c_x_ruleBook_slots c_x_ruleBook_others f_x_prices_surcharges c_x_prices_ofSlots c_x_prices_both c_x_prices_amounts f_x_wishes_size c_x_wishes_slots f_x_made_size f_x_made_features c_x_made_order c_x_made_options c_x_pairs_partners f_m_features f_m_rules f_m_on f_m_surcharges f_m_wishes f_m_choices c_m_options c_m_kind c_m_one c_m_its c_m_other c_m_others c_m_price c_m_oneOf c_m_itsOption c_m_otherOf c_m_otherOption c_m_amount c_m_wish c_m_wished c_m_order c_m_chosen) : ((m_L_price fu f_x_product_size f_x_product_all f_x_prices_surcharges c_x_prices_ofSlots c_x_prices_both c_x_prices_amounts f_x_made_size f_x_made_features c_x_made_order c_x_made_options c_x_pairs_partners f_x_search_configuration f_x_search_isFound f_x_search_best f_x_search_sign c_o).bind fun u_166 => if u_166.1 = none then (m_X10_price fu f_m_thrown f_m_features f_m_surcharges f_m_choices c_m_price c_m_oneOf c_m_itsOption c_m_otherOf c_m_otherOption c_m_amount c_m_chosen c_m_pick).bind fun u_167 => (m_X10_thrown u_167.2.1).bind fun u_168 => if u_168 = u_166.2.1 then if u_166.2.1 = (0 : Int32) then if lg_cmp (u_166.2.2.2.2.2.2 ((0 : Int32)).toNatClampNeg) u_167.1.toInt64 = (0 : Int32) then k23 (x4 + 6) f_x_product_size f_x_product_all c_x_product_options f_x_ruleBook_size f_x_ruleBook_on c_x_ruleBook_kinds c_x_ruleBook_slots c_x_ruleBook_others f_x_prices_surcharges c_x_prices_ofSlots c_x_prices_both c_x_prices_amounts f_x_wishes_size c_x_wishes_slots f_x_made_size f_x_made_features c_x_made_order c_x_made_options c_x_pairs_partners c_x_trial_partners f_x_diagram_total f_x_diagram_size f_x_diagram_nextSize c_x_diagram_sets c_x_diagram_ways c_x_diagram_nextSets c_x_diagram_nextWays f_x_explanation_rules f_x_explanation_choosers c_x_explanation_kept_partners u_166.2.2.1 u_166.2.2.2.1 u_166.2.2.2.2.1 u_166.2.2.2.2.2.1 u_167.2.1 f_m_features f_m_rules f_m_on f_m_surcharges f_m_wishes f_m_choices f_m_whyRules f_m_whyChoices c_m_options c_m_kind c_m_one c_m_its c_m_other c_m_others c_m_price c_m_oneOf c_m_itsOption c_m_otherOf c_m_otherOption c_m_amount c_m_wish c_m_wished c_m_order c_m_chosen c_m_allowed u_167.2.2 c_m_now c_m_next u_166.2.2.2.2.2.2 else some (0 : Int32) else k23 (x4 + 6) f_x_product_size f_x_product_all c_x_product_options f_x_ruleBook_size f_x_ruleBook_on c_x_ruleBook_kinds c_x_ruleBook_slots c_x_ruleBook_others f_x_prices_surcharges c_x_prices_ofSlots c_x_prices_both c_x_prices_amounts f_x_wishes_size c_x_wishes_slots f_x_made_size f_x_made_features c_x_made_order c_x_made_options c_x_pairs_partners c_x_trial_partners f_x_diagram_total f_x_diagram_size f_x_diagram_nextSize c_x_diagram_sets c_x_diagram_ways c_x_diagram_nextSets c_x_diagram_nextWays f_x_explanation_rules f_x_explanation_choosers c_x_explanation_kept_partners u_166.2.2.1 u_166.2.2.2.1 u_166.2.2.2.2.1 u_166.2.2.2.2.2.1 u_167.2.1 f_m_features f_m_rules f_m_on f_m_surcharges f_m_wishes f_m_choices f_m_whyRules f_m_whyChoices c_m_options c_m_kind c_m_one c_m_its c_m_other c_m_others c_m_price c_m_oneOf c_m_itsOption c_m_otherOf c_m_otherOption c_m_amount c_m_wish c_m_wished c_m_order c_m_chosen c_m_allowed u_167.2.2 c_m_now c_m_next u_166.2.2.2.2.2.2 else some (0 : Int32) else none) = some 1 := by
  obtain ⟨N, op, nr, kd, sa, sb, ns, su, sv, am, nw, w, os, ch, hi1, hi2, hi3, hi4, hi5, hi6⟩ := hI
  obtain ⟨hF, hFm, rfl, rfl, ha⟩ := hi1
  obtain ⟨hRN, hMb, hXB, rfl, rfl, rfl⟩ := hi2
  obtain ⟨hPc, hSX, hSM, rfl, rfl, hpr⟩ := hi3
  have hN := hF.1
  have hlen := hi5.2.2.len
  have hz : f_m_choices = nI os.length := hi5.2.1.1
  have hz2 : f_x_made_size = nI os.length := hi5.1.1
  by_cases q : N ≤ os.length
  · have hall : ∀ j, j < N → j ∈ os := fun j hj => Classical.byContradiction (fun hn => by have := hi5.lt hj hn; omega)
    obtain ⟨y, y1, hy⟩ := q_allowed (by omega : 40 ≤ fu) hi5.1 hi5.2.2 hFm ha
    obtain ⟨a, l, hl⟩ := cf_cons (hi6.2 c_x_pairs_partners y hi6.1 hy)
    have hch : ∀ c, c ∈ cf c_x_pairs_partners N 0 y → ∀ j, j < N → gd c j = ch j := fun c hc j hj => by
      obtain ⟨-, h2, -⟩ := mem_cf.mp hc
      have h3 := h2 j hj
      rw [Nat.zero_add, hy.at hN hj h3.1, Bool.and_eq_true] at h3
      have h4 := h3.2.2
      unfold Pq at h4
      rw [if_pos ⟨hall j hj, rfl⟩, decide_eq_true_iff] at h4
      exact h4
    have ham : a ∈ cf c_x_pairs_partners N 0 y := by rw [hl]; exact List.mem_cons_self ..
    have hcs : ∀ c, c ∈ l → cst N ns su sv am c_m_price c = cst N ns su sv am c_m_price a := fun c hc => by
      have hcm : c ∈ cf c_x_pairs_partners N 0 y := by rw [hl]; exact List.mem_cons_of_mem _ hc
      have e : ∀ j, j < N → gd c j = gd a j := fun j hj => by rw [hch c hcm j hj, hch a ham j hj]
      unfold cst
      rw [prs_g e, sur_g hPc.1 e (Nat.le_refl ns)]
    obtain ⟨fnd', best', l1, b, m, e1, -, -, -⟩ := q_least (by omega : 40 ≤ fu) hMb.1 hi6.1 hFm.1 hPc hSX hpr hl f_x_search_configuration f_x_search_isFound f_x_search_best f_x_search_sign
    rw [bst_same hcs] at e1
    have h9 : m_X9_price fu (nI N) f_x_product_all (nI ns) c_x_prices_ofSlots c_x_prices_both c_x_prices_amounts f_x_made_size f_x_made_features c_x_made_order c_x_made_options c_x_pairs_partners f_x_search_configuration f_x_search_isFound f_x_search_best f_x_search_sign = some (none, cst N ns su sv am c_m_price a, msk c_x_pairs_partners y 0 b, fnd', best', 1) := by
      unfold m_X9_price
      rw [hz2, if_pos ((nle (by omega) (by omega)).mpr q), ← hz2, y1, Option.bind_some, e1, Option.bind_some]
    obtain ⟨c', g1⟩ := q_price_L (fu := fu) (x3 := f_m_choices) (th := 0) (v := fun j => nI (gd a j)) hN (cho := c_m_chosen) (fun j hj => by rw [hi5.2.1.2.2 j hj, if_pos (hall j hj), hch a ham j hj]) (fun c hc => q_cost (by omega) hN hPc.1 hSM c_m_price (a := a) (fun j hj => ⟨(mem5 ham).2 j hj, hc j hj⟩)) N 0 fu c_m_pick (by omega) (by omega) (fun j hj => absurd hj (Nat.not_lt_zero j))
    rw [nI_0] at g1
    have hM : m_X10_price fu f_m_thrown (nI N) (nI ns) f_m_choices c_m_price c_m_oneOf c_m_itsOption c_m_otherOf c_m_otherOption c_m_amount c_m_chosen c_m_pick = some (cst N ns su sv am c_m_price a, 0, c') := by
      unfold m_X10_price
      rw [if_pos (show nI N ≤ f_m_choices by rw [hz]; exact (nle (by omega) (by omega)).mpr q)]
      exact g1
    rw [w_price_ok h9, Option.bind_some, if_pos rfl, hM, Option.bind_some]
    unfold m_X10_thrown
    rw [Option.bind_some, if_pos rfl, if_pos rfl]
    refine (if_pos (?_ : lg_cmp _ _ = 0)).trans ?_
    · exact lgS _
    apply hk
    exact ⟨N, op, nr, kd, sa, sb, ns, su, sv, am, nw, w, os, ch, ⟨hF, hFm, rfl, rfl, ha⟩, ⟨hRN, hMb, hXB, rfl, rfl, rfl⟩, ⟨hPc, hSX, hSM, rfl, rfl, hpr⟩, hi4, hi5, hi6⟩
  · have h9 : m_X9_price fu (nI N) f_x_product_all (nI ns) c_x_prices_ofSlots c_x_prices_both c_x_prices_amounts f_x_made_size f_x_made_features c_x_made_order c_x_made_options c_x_pairs_partners f_x_search_configuration f_x_search_isFound f_x_search_best f_x_search_sign = some (some "java/lang/IllegalStateException", 0, f_x_search_configuration, f_x_search_isFound, f_x_search_best, f_x_search_sign) := by
      unfold m_X9_price
      rw [hz2, if_neg (fun h => q ((nle (by omega) (by omega)).mp h))]
    have hM : m_X10_price fu f_m_thrown (nI N) (nI ns) f_m_choices c_m_price c_m_oneOf c_m_itsOption c_m_otherOf c_m_otherOption c_m_amount c_m_chosen c_m_pick = some (0, 1, c_m_pick) := by
      unfold m_X10_price
      rw [hz, if_neg (fun h => q ((nle (by omega) (by omega)).mp h))]
    rw [w_price_x1 h9, Option.bind_some, if_pos rfl, hM, Option.bind_some]
    unfold m_X10_thrown
    rw [Option.bind_some, if_pos rfl, if_neg (show ¬ (1 : Int32) = 0 by decide)]
    apply hk
    exact ⟨N, op, nr, kd, sa, sb, ns, su, sv, am, nw, w, os, ch, ⟨hF, hFm, rfl, rfl, ha⟩, ⟨hRN, hMb, hXB, rfl, rfl, rfl⟩, ⟨hPc, hSX, hSM, rfl, rfl, hpr⟩, hi4, hi5, hi6⟩
theorem k_30 {fu : Nat} (hfu : 200000 ≤ fu) {xs : Nat → Int32} {x4 : Int32} {k23 : Int32 → Int32 → Int32 → (Nat → Int32) → Int32 → Int32 → (Nat → Int32) → (Nat → Int32) → (Nat → Int32) → Int32 → (Nat → Int32) → (Nat → Int32) → (Nat → Int32) → Int32 → (Nat → Int32) → Int32 → Int32 → (Nat → Int32) → (Nat → Int32) → (Nat → Int32) → (Nat → Int32) → Int32 → Int32 → Int32 → (Nat → Int32) → (Nat → Int32) → (Nat → Int32) → (Nat → Int32) → Int32 → Int32 → (Nat → Int32) → Int32 → Int32 → Int32 → Int32 → Int32 → Int32 → Int32 → Int32 → Int32 → Int32 → Int32 → Int32 → Int32 → (Nat → Int32) → (Nat → Int32) → (Nat → Int32) → (Nat → Int32) → (Nat → Int32) → (Nat → Int32) → (Nat → Int32) → (Nat → Int32) → (Nat → Int32) → (Nat → Int32) → (Nat → Int32) → (Nat → Int32) → (Nat → Int32) → (Nat → Int32) → (Nat → Int32) → (Nat → Int32) → (Nat → Int32) → (Nat → Int32) → (Nat → Int32) → (Nat → Int32) → (Nat → Int64) → Option Int32} (hk : KH x4 k23) {f_x_product_size : Int32} {f_x_product_all : Int32} {c_x_product_options : Nat → Int32} {f_x_ruleBook_size : Int32} {f_x_ruleBook_on : Int32} {c_x_ruleBook_kinds : Nat → Int32} {c_x_ruleBook_slots : Nat → Int32} {c_x_ruleBook_others : Nat → Int32} {f_x_prices_surcharges : Int32} {c_x_prices_ofSlots : Nat → Int32} {c_x_prices_both : Nat → Int32} {c_x_prices_amounts : Nat → Int32} {f_x_wishes_size : Int32} {c_x_wishes_slots : Nat → Int32} {f_x_made_size : Int32} {f_x_made_features : Int32} {c_x_made_order : Nat → Int32} {c_x_made_options : Nat → Int32} {c_x_pairs_partners : Nat → Int32} {c_x_trial_partners : Nat → Int32} {f_x_diagram_total : Int32} {f_x_diagram_size : Int32} {f_x_diagram_nextSize : Int32} {c_x_diagram_sets : Nat → Int32} {c_x_diagram_ways : Nat → Int32} {c_x_diagram_nextSets : Nat → Int32} {c_x_diagram_nextWays : Nat → Int32} {f_x_explanation_rules : Int32} {f_x_explanation_choosers : Int32} {c_x_explanation_kept_partners : Nat → Int32} {f_x_search_configuration : Int32} {f_x_search_isFound : Int32} {f_x_search_best : Int32} {f_x_search_sign : Int32} {f_m_thrown : Int32} {f_m_features : Int32} {f_m_rules : Int32} {f_m_on : Int32} {f_m_surcharges : Int32} {f_m_wishes : Int32} {f_m_choices : Int32} {f_m_whyRules : Int32} {f_m_whyChoices : Int32} {c_m_options : Nat → Int32} {c_m_kind : Nat → Int32} {c_m_one : Nat → Int32} {c_m_its : Nat → Int32} {c_m_other : Nat → Int32} {c_m_others : Nat → Int32} {c_m_price : Nat → Int32} {c_m_oneOf : Nat → Int32} {c_m_itsOption : Nat → Int32} {c_m_otherOf : Nat → Int32} {c_m_otherOption : Nat → Int32} {c_m_amount : Nat → Int32} {c_m_wish : Nat → Int32} {c_m_wished : Nat → Int32} {c_m_order : Nat → Int32} {c_m_chosen : Nat → Int32} {c_m_allowed : Nat → Int32} {c_m_pick : Nat → Int32} {c_m_now : Nat → Int32} {c_m_next : Nat → Int32} {c_o : Nat → Int64} (hI : IV f_x_product_size f_x_product_all c_x_product_options f_x_ruleBook_size f_x_ruleBook_on c_x_ruleBook_kinds c_x_ruleBook_slots c_x_ruleBook_others f_x_prices_surcharges c_x_prices_ofSlots c_x_prices_both c_x_prices_amounts f_x_wishes_size c_x_wishes_slots f_x_made_size f_x_made_features c_x_made_order c_x_made_options c_x_pairs_partners f_m_features f_m_rules f_m_on f_m_surcharges f_m_wishes f_m_choices c_m_options c_m_kind c_m_one c_m_its c_m_other c_m_others c_m_price c_m_oneOf c_m_itsOption c_m_otherOf c_m_otherOption c_m_amount c_m_wish c_m_wished c_m_order c_m_chosen) : ((m_L_cheapest fu f_x_product_size f_x_product_all f_x_prices_surcharges c_x_prices_ofSlots c_x_prices_both c_x_prices_amounts f_x_made_size f_x_made_features c_x_made_order c_x_made_options c_x_pairs_partners f_x_search_configuration f_x_search_isFound f_x_search_best f_x_search_sign c_o (xs (x4 + (1 : Int32)).toNatClampNeg)).bind fun u_178 => if u_178.1 = none then (m_X10_cheapest fu f_m_thrown f_m_features f_m_rules f_m_on f_m_surcharges c_m_options c_m_kind c_m_one c_m_its c_m_other c_m_others c_m_price c_m_oneOf c_m_itsOption c_m_otherOf c_m_otherOption c_m_amount c_m_chosen c_m_allowed c_m_pick (xs (x4 + (1 : Int32)).toNatClampNeg)).bind fun u_179 => (m_X10_thrown u_179.2.1).bind fun u_180 => if u_180 = u_178.2.1 then if u_178.2.1 = (0 : Int32) then if lg_cmp (u_178.2.2.2.2.2.2 ((0 : Int32)).toNatClampNeg) u_179.1.toInt64 = (0 : Int32) then k23 (x4 + 6) f_x_product_size f_x_product_all c_x_product_options f_x_ruleBook_size f_x_ruleBook_on c_x_ruleBook_kinds c_x_ruleBook_slots c_x_ruleBook_others f_x_prices_surcharges c_x_prices_ofSlots c_x_prices_both c_x_prices_amounts f_x_wishes_size c_x_wishes_slots f_x_made_size f_x_made_features c_x_made_order c_x_made_options c_x_pairs_partners c_x_trial_partners f_x_diagram_total f_x_diagram_size f_x_diagram_nextSize c_x_diagram_sets c_x_diagram_ways c_x_diagram_nextSets c_x_diagram_nextWays f_x_explanation_rules f_x_explanation_choosers c_x_explanation_kept_partners u_178.2.2.1 u_178.2.2.2.1 u_178.2.2.2.2.1 u_178.2.2.2.2.2.1 u_179.2.1 f_m_features f_m_rules f_m_on f_m_surcharges f_m_wishes f_m_choices f_m_whyRules f_m_whyChoices c_m_options c_m_kind c_m_one c_m_its c_m_other c_m_others c_m_price c_m_oneOf c_m_itsOption c_m_otherOf c_m_otherOption c_m_amount c_m_wish c_m_wished c_m_order c_m_chosen u_179.2.2.1 u_179.2.2.2 c_m_now c_m_next u_178.2.2.2.2.2.2 else some (0 : Int32) else k23 (x4 + 6) f_x_product_size f_x_product_all c_x_product_options f_x_ruleBook_size f_x_ruleBook_on c_x_ruleBook_kinds c_x_ruleBook_slots c_x_ruleBook_others f_x_prices_surcharges c_x_prices_ofSlots c_x_prices_both c_x_prices_amounts f_x_wishes_size c_x_wishes_slots f_x_made_size f_x_made_features c_x_made_order c_x_made_options c_x_pairs_partners c_x_trial_partners f_x_diagram_total f_x_diagram_size f_x_diagram_nextSize c_x_diagram_sets c_x_diagram_ways c_x_diagram_nextSets c_x_diagram_nextWays f_x_explanation_rules f_x_explanation_choosers c_x_explanation_kept_partners u_178.2.2.1 u_178.2.2.2.1 u_178.2.2.2.2.1 u_178.2.2.2.2.2.1 u_179.2.1 f_m_features f_m_rules f_m_on f_m_surcharges f_m_wishes f_m_choices f_m_whyRules f_m_whyChoices c_m_options c_m_kind c_m_one c_m_its c_m_other c_m_others c_m_price c_m_oneOf c_m_itsOption c_m_otherOf c_m_otherOption c_m_amount c_m_wish c_m_wished c_m_order c_m_chosen u_179.2.2.1 u_179.2.2.2 c_m_now c_m_next u_178.2.2.2.2.2.2 else some (0 : Int32) else none) = some 1 := by
  obtain ⟨N, op, nr, kd, sa, sb, ns, su, sv, am, nw, w, os, ch, hi1, hi2, hi3, hi4, hi5, hi6⟩ := hI
  obtain ⟨hF, hFm, rfl, rfl, ha⟩ := hi1
  obtain ⟨hRN, hMb, hXB, rfl, rfl, rfl⟩ := hi2
  obtain ⟨hPc, hSX, hSM, rfl, rfl, hpr⟩ := hi3
  generalize xs (x4 + (1 : Int32)).toNatClampNeg = z1
  rcases chk_f hFm z1 with ⟨f, hf, rfl, e1, e2⟩ | ⟨e1, e2⟩
  · have hN := hF.1
    obtain ⟨y, y1, hy⟩ := q_allowed (by omega : 40 ≤ fu) hi5.1 hi5.2.2 hFm ha
    obtain ⟨al1, a1, hFx, -⟩ := al_of (by omega : 40 ≤ fu) hi5.2.1 hi5.2.2 hFm hy c_m_allowed
    obtain ⟨a, l, hl⟩ := cf_cons (hi6.2 c_x_pairs_partners y hi6.1 hy)
    obtain ⟨fnd', best', l1, b, m, g1, g2, g3, g4⟩ := q_least (by omega : 40 ≤ fu) hMb.1 hi6.1 hFm.1 hPc hSX hpr hl f_x_search_configuration f_x_search_isFound f_x_search_best f_x_search_sign
    obtain ⟨c', r1⟩ := q_ref hfu hMb hi6.1 hFx hPc.1 hSM false hl c_m_pick (pr := c_m_price)
    obtain ⟨d, p1, p2⟩ := q_pk0 hfu hMb hi6.1 hFx c'
    have hlen := cf_len6 (p := c_x_pairs_partners) (k := 0) (x := y) hN
    have hbm : b ∈ cf c_x_pairs_partners N 0 y := by rw [g2]; simp
    have hne : (cf c_x_pairs_partners N 0 y).isEmpty = false := by rw [hl]; rfl
    rw [g2] at p2 hlen
    obtain ⟨d2, t1⟩ := q_chp_L hfu hMb hi6.1 hFx hPc.1 hSM c_m_chosen 0 hf l1 fu d (by omega) p2 g4
    have hb5 := (mem5 hbm).2 f hf
    have h9 : m_X9_cheapest fu (nI N) f_x_product_all (nI ns) c_x_prices_ofSlots c_x_prices_both c_x_prices_amounts f_x_made_size f_x_made_features c_x_made_order c_x_made_options c_x_pairs_partners f_x_search_configuration f_x_search_isFound f_x_search_best f_x_search_sign (nI f) = some (none, nI (gd b f), msk c_x_pairs_partners y 0 b, fnd', best', 1) := by
      unfold m_X9_cheapest
      rw [e1, Option.bind_some, if_pos rfl, y1, Option.bind_some, g1, Option.bind_some, q_setOf, Option.bind_some, q_lowest (by omega) _ hb5 (by rw [b_s5 _ (by omega) (by omega), b_cf hMb.1 hi6.1 hN hbm hf hb5, decide_eq_true hb5, decide_eq_true rfl]; rfl) (fun w hw => by rw [b_s5 _ (by omega) (by omega), b_cf hMb.1 hi6.1 hN hbm hf (by omega), decide_eq_false (show ¬ w = gd b f by omega), Bool.and_false]), Option.bind_some]
    have hM : m_X10_cheapest fu f_m_thrown (nI N) (nI nr) f_x_ruleBook_on (nI ns) c_m_options c_m_kind c_m_one c_m_its c_m_other c_m_others c_m_price c_m_oneOf c_m_itsOption c_m_otherOf c_m_otherOption c_m_amount c_m_chosen c_m_allowed c_m_pick (nI f) = some (nI (gd b f), 0, al1, d2) := by
      unfold m_X10_cheapest
      rw [e2, Option.bind_some, if_neg (show ¬ (1 : Int32) = 0 by decide), a1, Option.bind_some, show (0 : Int32) = bI false from rfl, r1, Option.bind_some, show bI false = (0 : Int32) from rfl, p1, Option.bind_some, hne, ← g3]
      exact t1
    rw [w_cheapest_ok h9, Option.bind_some, if_pos rfl, hM, Option.bind_some]
    unfold m_X10_thrown
    rw [Option.bind_some, if_pos rfl, if_pos rfl]
    refine (if_pos (?_ : lg_cmp _ _ = 0)).trans ?_
    · exact lgS _
    apply hk
    exact ⟨N, op, nr, kd, sa, sb, ns, su, sv, am, nw, w, os, ch, ⟨hF, hFm, rfl, rfl, ha⟩, ⟨hRN, hMb, hXB, rfl, rfl, rfl⟩, ⟨hPc, hSX, hSM, rfl, rfl, hpr⟩, hi4, hi5, hi6⟩
  · have h9 : m_X9_cheapest fu (nI N) f_x_product_all (nI ns) c_x_prices_ofSlots c_x_prices_both c_x_prices_amounts f_x_made_size f_x_made_features c_x_made_order c_x_made_options c_x_pairs_partners f_x_search_configuration f_x_search_isFound f_x_search_best f_x_search_sign z1 = some (some "java/lang/IndexOutOfBoundsException", 0, f_x_search_configuration, f_x_search_isFound, f_x_search_best, f_x_search_sign) := by
      unfold m_X9_cheapest
      rw [e1, Option.bind_some, if_neg (by simp)]
    have hM : m_X10_cheapest fu f_m_thrown (nI N) (nI nr) f_x_ruleBook_on (nI ns) c_m_options c_m_kind c_m_one c_m_its c_m_other c_m_others c_m_price c_m_oneOf c_m_itsOption c_m_otherOf c_m_otherOption c_m_amount c_m_chosen c_m_allowed c_m_pick z1 = some (0, 1, c_m_allowed, c_m_pick) := by
      unfold m_X10_cheapest
      rw [e2, Option.bind_some, if_pos rfl]
    rw [w_cheapest_x1 h9, Option.bind_some, if_pos rfl, hM, Option.bind_some]
    unfold m_X10_thrown
    rw [Option.bind_some, if_pos rfl, if_neg (show ¬ (1 : Int32) = 0 by decide)]
    apply hk
    exact ⟨N, op, nr, kd, sa, sb, ns, su, sv, am, nw, w, os, ch, ⟨hF, hFm, rfl, rfl, ha⟩, ⟨hRN, hMb, hXB, rfl, rfl, rfl⟩, ⟨hPc, hSX, hSM, rfl, rfl, hpr⟩, hi4, hi5, hi6⟩
theorem k_31 {fu : Nat} (hfu : 200000 ≤ fu) {xs : Nat → Int32} {x4 : Int32} {k23 : Int32 → Int32 → Int32 → (Nat → Int32) → Int32 → Int32 → (Nat → Int32) → (Nat → Int32) → (Nat → Int32) → Int32 → (Nat → Int32) → (Nat → Int32) → (Nat → Int32) → Int32 → (Nat → Int32) → Int32 → Int32 → (Nat → Int32) → (Nat → Int32) → (Nat → Int32) → (Nat → Int32) → Int32 → Int32 → Int32 → (Nat → Int32) → (Nat → Int32) → (Nat → Int32) → (Nat → Int32) → Int32 → Int32 → (Nat → Int32) → Int32 → Int32 → Int32 → Int32 → Int32 → Int32 → Int32 → Int32 → Int32 → Int32 → Int32 → Int32 → Int32 → (Nat → Int32) → (Nat → Int32) → (Nat → Int32) → (Nat → Int32) → (Nat → Int32) → (Nat → Int32) → (Nat → Int32) → (Nat → Int32) → (Nat → Int32) → (Nat → Int32) → (Nat → Int32) → (Nat → Int32) → (Nat → Int32) → (Nat → Int32) → (Nat → Int32) → (Nat → Int32) → (Nat → Int32) → (Nat → Int32) → (Nat → Int32) → (Nat → Int32) → (Nat → Int64) → Option Int32} (hk : KH x4 k23) {f_x_product_size : Int32} {f_x_product_all : Int32} {c_x_product_options : Nat → Int32} {f_x_ruleBook_size : Int32} {f_x_ruleBook_on : Int32} {c_x_ruleBook_kinds : Nat → Int32} {c_x_ruleBook_slots : Nat → Int32} {c_x_ruleBook_others : Nat → Int32} {f_x_prices_surcharges : Int32} {c_x_prices_ofSlots : Nat → Int32} {c_x_prices_both : Nat → Int32} {c_x_prices_amounts : Nat → Int32} {f_x_wishes_size : Int32} {c_x_wishes_slots : Nat → Int32} {f_x_made_size : Int32} {f_x_made_features : Int32} {c_x_made_order : Nat → Int32} {c_x_made_options : Nat → Int32} {c_x_pairs_partners : Nat → Int32} {c_x_trial_partners : Nat → Int32} {f_x_diagram_total : Int32} {f_x_diagram_size : Int32} {f_x_diagram_nextSize : Int32} {c_x_diagram_sets : Nat → Int32} {c_x_diagram_ways : Nat → Int32} {c_x_diagram_nextSets : Nat → Int32} {c_x_diagram_nextWays : Nat → Int32} {f_x_explanation_rules : Int32} {f_x_explanation_choosers : Int32} {c_x_explanation_kept_partners : Nat → Int32} {f_x_search_configuration : Int32} {f_x_search_isFound : Int32} {f_x_search_best : Int32} {f_x_search_sign : Int32} {f_m_thrown : Int32} {f_m_features : Int32} {f_m_rules : Int32} {f_m_on : Int32} {f_m_surcharges : Int32} {f_m_wishes : Int32} {f_m_choices : Int32} {f_m_whyRules : Int32} {f_m_whyChoices : Int32} {c_m_options : Nat → Int32} {c_m_kind : Nat → Int32} {c_m_one : Nat → Int32} {c_m_its : Nat → Int32} {c_m_other : Nat → Int32} {c_m_others : Nat → Int32} {c_m_price : Nat → Int32} {c_m_oneOf : Nat → Int32} {c_m_itsOption : Nat → Int32} {c_m_otherOf : Nat → Int32} {c_m_otherOption : Nat → Int32} {c_m_amount : Nat → Int32} {c_m_wish : Nat → Int32} {c_m_wished : Nat → Int32} {c_m_order : Nat → Int32} {c_m_chosen : Nat → Int32} {c_m_allowed : Nat → Int32} {c_m_pick : Nat → Int32} {c_m_now : Nat → Int32} {c_m_next : Nat → Int32} {c_o : Nat → Int64} (hI : IV f_x_product_size f_x_product_all c_x_product_options f_x_ruleBook_size f_x_ruleBook_on c_x_ruleBook_kinds c_x_ruleBook_slots c_x_ruleBook_others f_x_prices_surcharges c_x_prices_ofSlots c_x_prices_both c_x_prices_amounts f_x_wishes_size c_x_wishes_slots f_x_made_size f_x_made_features c_x_made_order c_x_made_options c_x_pairs_partners f_m_features f_m_rules f_m_on f_m_surcharges f_m_wishes f_m_choices c_m_options c_m_kind c_m_one c_m_its c_m_other c_m_others c_m_price c_m_oneOf c_m_itsOption c_m_otherOf c_m_otherOption c_m_amount c_m_wish c_m_wished c_m_order c_m_chosen) : ((m_L_leastWith fu f_x_product_size f_x_product_all c_x_product_options f_x_prices_surcharges c_x_prices_ofSlots c_x_prices_both c_x_prices_amounts f_x_made_size f_x_made_features c_x_made_order c_x_made_options c_x_pairs_partners f_x_search_configuration f_x_search_isFound f_x_search_best f_x_search_sign c_o (xs (x4 + (1 : Int32)).toNatClampNeg) (xs (x4 + (2 : Int32)).toNatClampNeg)).bind fun u_184 => if u_184.1 = none then (m_X10_leastWith fu f_m_thrown f_m_features f_m_rules f_m_on f_m_surcharges c_m_options c_m_kind c_m_one c_m_its c_m_other c_m_others c_m_price c_m_oneOf c_m_itsOption c_m_otherOf c_m_otherOption c_m_amount c_m_chosen c_m_allowed c_m_pick (xs (x4 + (1 : Int32)).toNatClampNeg) (xs (x4 + (2 : Int32)).toNatClampNeg)).bind fun u_185 => (m_X10_thrown u_185.2.1).bind fun u_186 => if u_186 = u_184.2.1 then if u_184.2.1 = (0 : Int32) then if lg_cmp (u_184.2.2.2.2.2.2 ((0 : Int32)).toNatClampNeg) u_185.1.toInt64 = (0 : Int32) then k23 (x4 + 6) f_x_product_size f_x_product_all c_x_product_options f_x_ruleBook_size f_x_ruleBook_on c_x_ruleBook_kinds c_x_ruleBook_slots c_x_ruleBook_others f_x_prices_surcharges c_x_prices_ofSlots c_x_prices_both c_x_prices_amounts f_x_wishes_size c_x_wishes_slots f_x_made_size f_x_made_features c_x_made_order c_x_made_options c_x_pairs_partners c_x_trial_partners f_x_diagram_total f_x_diagram_size f_x_diagram_nextSize c_x_diagram_sets c_x_diagram_ways c_x_diagram_nextSets c_x_diagram_nextWays f_x_explanation_rules f_x_explanation_choosers c_x_explanation_kept_partners u_184.2.2.1 u_184.2.2.2.1 u_184.2.2.2.2.1 u_184.2.2.2.2.2.1 u_185.2.1 f_m_features f_m_rules f_m_on f_m_surcharges f_m_wishes f_m_choices f_m_whyRules f_m_whyChoices c_m_options c_m_kind c_m_one c_m_its c_m_other c_m_others c_m_price c_m_oneOf c_m_itsOption c_m_otherOf c_m_otherOption c_m_amount c_m_wish c_m_wished c_m_order c_m_chosen u_185.2.2.1 u_185.2.2.2 c_m_now c_m_next u_184.2.2.2.2.2.2 else some (0 : Int32) else k23 (x4 + 6) f_x_product_size f_x_product_all c_x_product_options f_x_ruleBook_size f_x_ruleBook_on c_x_ruleBook_kinds c_x_ruleBook_slots c_x_ruleBook_others f_x_prices_surcharges c_x_prices_ofSlots c_x_prices_both c_x_prices_amounts f_x_wishes_size c_x_wishes_slots f_x_made_size f_x_made_features c_x_made_order c_x_made_options c_x_pairs_partners c_x_trial_partners f_x_diagram_total f_x_diagram_size f_x_diagram_nextSize c_x_diagram_sets c_x_diagram_ways c_x_diagram_nextSets c_x_diagram_nextWays f_x_explanation_rules f_x_explanation_choosers c_x_explanation_kept_partners u_184.2.2.1 u_184.2.2.2.1 u_184.2.2.2.2.1 u_184.2.2.2.2.2.1 u_185.2.1 f_m_features f_m_rules f_m_on f_m_surcharges f_m_wishes f_m_choices f_m_whyRules f_m_whyChoices c_m_options c_m_kind c_m_one c_m_its c_m_other c_m_others c_m_price c_m_oneOf c_m_itsOption c_m_otherOf c_m_otherOption c_m_amount c_m_wish c_m_wished c_m_order c_m_chosen u_185.2.2.1 u_185.2.2.2 c_m_now c_m_next u_184.2.2.2.2.2.2 else some (0 : Int32) else none) = some 1 := by
  obtain ⟨N, op, nr, kd, sa, sb, ns, su, sv, am, nw, w, os, ch, hi1, hi2, hi3, hi4, hi5, hi6⟩ := hI
  obtain ⟨hF, hFm, rfl, rfl, ha⟩ := hi1
  obtain ⟨hRN, hMb, hXB, rfl, rfl, rfl⟩ := hi2
  obtain ⟨hPc, hSX, hSM, rfl, rfl, hpr⟩ := hi3
  generalize xs (x4 + (1 : Int32)).toNatClampNeg = z1
  generalize xs (x4 + (2 : Int32)).toNatClampNeg = z2
  rcases chk_o hFm hF z1 z2 with ⟨f, v, hf, hao, rfl, rfl, e1, e2⟩ | ⟨e1, e2⟩
  · have hN := hF.1
    have h5 := hFm.le5 f hf
    obtain ⟨y, y1, y2, y3⟩ := q_isOffX (p := c_x_pairs_partners) hfu hi5.1 hi5.2.2 hFm ha hf (show v < 5 by omega)
    obtain ⟨al1, d1, zz1, hFx⟩ := q_isOffR hfu hMb hi6.1 hi5.2.1 hi5.2.2 hFm y2 hf (show v < 5 by omega) c_m_allowed c_m_pick
    cases he : ex c_x_pairs_partners N 0 (y &&& on1 y f v) with
    | false =>
      rw [he] at y3 zz1
      have h9 : m_X9_leastWith fu (nI N) f_x_product_all c_x_product_options (nI ns) c_x_prices_ofSlots c_x_prices_both c_x_prices_amounts f_x_made_size f_x_made_features c_x_made_order c_x_made_options c_x_pairs_partners f_x_search_configuration f_x_search_isFound f_x_search_best f_x_search_sign (nI f) (nI v) = some (some "java/lang/IllegalStateException", 0, f_x_search_configuration, f_x_search_isFound, f_x_search_best, f_x_search_sign) := by
        unfold m_X9_leastWith m_X9_checkOffered
        rw [e1, Option.bind_some, if_pos rfl, y3, Option.bind_some, if_pos bI_f, Option.bind_some, if_neg (by simp)]
      have hM : m_X10_leastWith fu f_m_thrown (nI N) (nI nr) f_x_ruleBook_on (nI ns) c_m_options c_m_kind c_m_one c_m_its c_m_other c_m_others c_m_price c_m_oneOf c_m_itsOption c_m_otherOf c_m_otherOption c_m_amount c_m_chosen c_m_allowed c_m_pick (nI f) (nI v) = some (0, 2, al1, d1) := by
        unfold m_X10_leastWith
        rw [e2, Option.bind_some, if_neg (show ¬ (1 : Int32) = 0 by decide), zz1, Option.bind_some, if_pos bI_f]
      rw [w_leastWith_x2 h9, Option.bind_some, if_pos rfl, hM, Option.bind_some]
      unfold m_X10_thrown
      rw [Option.bind_some, if_pos rfl, if_neg (show ¬ (2 : Int32) = 0 by decide)]
      apply hk
      exact ⟨N, op, nr, kd, sa, sb, ns, su, sv, am, nw, w, os, ch, ⟨hF, hFm, rfl, rfl, ha⟩, ⟨hRN, hMb, hXB, rfl, rfl, rfl⟩, ⟨hPc, hSX, hSM, rfl, rfl, hpr⟩, hi4, hi5, hi6⟩
    | true =>
      rw [he] at y3 zz1
      have hby : bt y (5 * f + v) = true := by
        have := ex_cut (p := c_x_pairs_partners) (y := y) hf hN (show v < 5 by omega)
        rw [he] at this
        cases hb : bt y (5 * f + v) with
        | true => rfl
        | false => rw [hb] at this; cases this
      have hme := on1_eq (show f < 6 by omega) (show v < 5 by omega) hby
      rw [hme] at he hFx
      obtain ⟨a, l, hl⟩ := cf_cons he
      obtain ⟨fnd', best', l1, b, m, g1, -, -, -⟩ := q_least (by omega : 40 ≤ fu) hMb.1 hi6.1 hFm.1 hPc hSX hpr hl f_x_search_configuration f_x_search_isFound f_x_search_best f_x_search_sign
      obtain ⟨c', r1⟩ := q_ref hfu hMb hi6.1 hFx hPc.1 hSM false hl d1 (pr := c_m_price)
      generalize bst false (cst N ns su sv am c_m_price) (cst N ns su sv am c_m_price a) l = r at g1 r1
      have h9 : m_X9_leastWith fu (nI N) f_x_product_all c_x_product_options (nI ns) c_x_prices_ofSlots c_x_prices_both c_x_prices_amounts f_x_made_size f_x_made_features c_x_made_order c_x_made_options c_x_pairs_partners f_x_search_configuration f_x_search_isFound f_x_search_best f_x_search_sign (nI f) (nI v) = some (none, r, msk c_x_pairs_partners (on1 y f v) 0 b, fnd', best', 1) := by
        unfold m_X9_leastWith m_X9_checkOffered
        rw [e1, Option.bind_some, if_pos rfl, y3, Option.bind_some, if_neg (show ¬ bI true = 0 by decide), Option.bind_some, if_pos rfl, y1, Option.bind_some, q_only, Option.bind_some, g1, Option.bind_some]
      have hM : m_X10_leastWith fu f_m_thrown (nI N) (nI nr) f_x_ruleBook_on (nI ns) c_m_options c_m_kind c_m_one c_m_its c_m_other c_m_others c_m_price c_m_oneOf c_m_itsOption c_m_otherOf c_m_otherOption c_m_amount c_m_chosen c_m_allowed c_m_pick (nI f) (nI v) = some (r, 0, al1, c') := by
        unfold m_X10_leastWith
        rw [e2, Option.bind_some, if_neg (show ¬ (1 : Int32) = 0 by decide), zz1, Option.bind_some, if_neg (show ¬ bI true = 0 by decide)]
        show (m_X10_least fu (nI N) (nI nr) f_x_ruleBook_on (nI ns) c_m_options c_m_kind c_m_one c_m_its c_m_other c_m_others c_m_price c_m_oneOf c_m_itsOption c_m_otherOf c_m_otherOption c_m_amount al1 d1 (bI false)).bind _ = _
        rw [r1, Option.bind_some]
      rw [w_leastWith_ok h9, Option.bind_some, if_pos rfl, hM, Option.bind_some]
      unfold m_X10_thrown
      rw [Option.bind_some, if_pos rfl, if_pos rfl]
      refine (if_pos (?_ : lg_cmp _ _ = 0)).trans ?_
      · exact lgS _
      apply hk
      exact ⟨N, op, nr, kd, sa, sb, ns, su, sv, am, nw, w, os, ch, ⟨hF, hFm, rfl, rfl, ha⟩, ⟨hRN, hMb, hXB, rfl, rfl, rfl⟩, ⟨hPc, hSX, hSM, rfl, rfl, hpr⟩, hi4, hi5, hi6⟩
  · have h9 : m_X9_leastWith fu (nI N) f_x_product_all c_x_product_options (nI ns) c_x_prices_ofSlots c_x_prices_both c_x_prices_amounts f_x_made_size f_x_made_features c_x_made_order c_x_made_options c_x_pairs_partners f_x_search_configuration f_x_search_isFound f_x_search_best f_x_search_sign z1 z2 = some (some "java/lang/IndexOutOfBoundsException", 0, f_x_search_configuration, f_x_search_isFound, f_x_search_best, f_x_search_sign) := by
      unfold m_X9_leastWith
      rw [e1, Option.bind_some, if_neg (by simp)]
    have hM : m_X10_leastWith fu f_m_thrown (nI N) (nI nr) f_x_ruleBook_on (nI ns) c_m_options c_m_kind c_m_one c_m_its c_m_other c_m_others c_m_price c_m_oneOf c_m_itsOption c_m_otherOf c_m_otherOption c_m_amount c_m_chosen c_m_allowed c_m_pick z1 z2 = some (0, 1, c_m_allowed, c_m_pick) := by
      unfold m_X10_leastWith
      rw [e2, Option.bind_some, if_pos rfl]
    rw [w_leastWith_x1 h9, Option.bind_some, if_pos rfl, hM, Option.bind_some]
    unfold m_X10_thrown
    rw [Option.bind_some, if_pos rfl, if_neg (show ¬ (1 : Int32) = 0 by decide)]
    apply hk
    exact ⟨N, op, nr, kd, sa, sb, ns, su, sv, am, nw, w, os, ch, ⟨hF, hFm, rfl, rfl, ha⟩, ⟨hRN, hMb, hXB, rfl, rfl, rfl⟩, ⟨hPc, hSX, hSM, rfl, rfl, hpr⟩, hi4, hi5, hi6⟩
