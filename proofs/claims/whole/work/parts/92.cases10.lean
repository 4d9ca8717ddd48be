/-! a rule more: case -/
theorem cuts_ext {kd sa sb kd' sa' sb' : Nat → Nat} {S S' : Int32} {i j : Nat} : ∀ {n : Nat}, (∀ r, r < n → kd' r = kd r ∧ sa' r = sa r ∧ sb' r = sb r ∧ bt S' r = bt S r) → cuts kd' sa' sb' S' n i j = cuts kd sa sb S n i j
  | 0, _ => rfl
  | n + 1, h => by
    obtain ⟨h1, h2, h3, h4⟩ := h n (by omega)
    rw [cuts, cuts, cuts_ext (fun r hr => h r (by omega)), h1, h2, h3, h4]
theorem Ar_kp {c : Nat → Int32} {a : Nat → Nat} {n : Nat} {x : Int32} (h : Ar c a n) : Ar (upd c n x) a n := fun k hk => by
  rw [upd_n (by omega)]; exact h k hk
theorem Mb_kp {ck c1 ci c2 co : Nat → Int32} {kd sa sb : Nat → Nat} {nr : Nat} {x1 x2 x3 x4 x5 : Int32} (h : Mb ck c1 ci c2 co kd sa sb nr) : Mb (upd ck nr x1) (upd c1 nr x2) (upd ci nr x3) (upd c2 nr x4) (upd co nr x5) kd sa sb nr := ⟨h.1, Ar_kp h.2.1, Ar_kp h.2.2.1, Ar_kp h.2.2.2.1, Ar_kp h.2.2.2.2.1, Ar_kp h.2.2.2.2.2⟩
theorem Mb_up {ck c1 ci c2 co : Nat → Int32} {kd sa sb : Nat → Nat} {nr k f a g b : Nat} (h : Mb ck c1 ci c2 co kd sa sb nr) (hn : nr < 20) (hk : k < 3) (hf : f < 6) (ha : a < 5) (hg : g < 6) (hb : b < 5) (hfg : ¬ f = g) : Mb (upd ck nr (nI k)) (upd c1 nr (nI f)) (upd ci nr (nI a)) (upd c2 nr (nI g)) (upd co nr (nI b)) (pt kd nr k) (pt sa nr (5 * f + a)) (pt sb nr (5 * g + b)) (nr + 1) := by
  refine ⟨⟨by omega, fun r hr => ?_⟩, Ar_up h.2.1 (by rw [pt_s]) (fun r hr => by rw [pt_n (by omega)]), Ar_up h.2.2.1 (by rw [pt_s, show (5 * f + a) / 5 = f by omega]) (fun r hr => by rw [pt_n (by omega)]), Ar_up h.2.2.2.1 (by rw [pt_s, show (5 * f + a) % 5 = a by omega]) (fun r hr => by rw [pt_n (by omega)]), Ar_up h.2.2.2.2.1 (by rw [pt_s, show (5 * g + b) / 5 = g by omega]) (fun r hr => by rw [pt_n (by omega)]), Ar_up h.2.2.2.2.2 (by rw [pt_s, show (5 * g + b) % 5 = b by omega]) (fun r hr => by rw [pt_n (by omega)])⟩
  by_cases q : r = nr
  · rw [q, pt_s, pt_s, pt_s]; exact ⟨hk, by omega, by omega, by omega⟩
  · rw [pt_n q, pt_n q, pt_n q]; exact h.1.2 r (by omega)
theorem XB_up {xk xs xo : Nat → Int32} {kd sa sb : Nat → Nat} {nr k s o : Nat} (h : XB kd sa sb nr xk xs xo) : XB (pt kd nr k) (pt sa nr s) (pt sb nr o) (nr + 1) (upd xk nr (nI k)) (upd xs nr (nI s)) (upd xo nr (nI o)) := ⟨Ar_up h.1 (by rw [pt_s]) (fun r hr => by rw [pt_n (by omega)]), Ar_up h.2.1 (by rw [pt_s]) (fun r hr => by rw [pt_n (by omega)]), Ar_up h.2.2 (by rw [pt_s]) (fun r hr => by rw [pt_n (by omega)])⟩
theorem Pg_up {p : Nat → Int32} {kd sa sb : Nat → Nat} {nr k s o : Nat} {on : Int32} (hn : nr < 20) (h : Pb p (fun i j => cuts kd sa sb on nr i j || cut k s o i j)) : Pg p (pt kd nr k) (pt sa nr s) (pt sb nr o) (nr + 1) (on ||| ((1 : Int32) <<< (nI nr &&& 31))) := h.to (fun i j _ _ => by
  rw [cuts, pt_s, pt_s, pt_s, b_or, b_p (by omega) (by omega), decide_eq_true rfl, Bool.or_true, Bool.true_and, cuts_ext (kd := kd) (sa := sa) (sb := sb) (S := on) (fun r hr => ⟨pt_n (by omega), pt_n (by omega), pt_n (by omega), by rw [b_or, b_p (by omega) (by omega), decide_eq_false (by omega), Bool.or_false]⟩)])
theorem w_add8 {nr : Nat} (h : nr = 20) {on x y z : Int32} {a b c : Nat → Int32} : m_X8_add (nI nr) on a b c x y z = some (0, nI nr, on, a, b, c) := by
  unfold m_X8_add
  rw [if_neg (show ¬ nI nr < (20 : Int32) by rw [h]; decide)]
theorem k_1 {fu : Nat} (hfu : 200000 ≤ fu) {xs : Nat → Int32} {x4 : Int32} {k23 : Int32 → Int32 → Int32 → (Nat → Int32) → Int32 → Int32 → (Nat → Int32) → (Nat → Int32) → (Nat → Int32) → Int32 → (Nat → Int32) → (Nat → Int32) → (Nat → Int32) → Int32 → (Nat → Int32) → Int32 → Int32 → (Nat → Int32) → (Nat → Int32) → (Nat → Int32) → (Nat → Int32) → Int32 → Int32 → Int32 → (Nat → Int32) → (Nat → Int32) → (Nat → Int32) → (Nat → Int32) → Int32 → Int32 → (Nat → Int32) → Int32 → Int32 → Int32 → Int32 → Int32 → Int32 → Int32 → Int32 → Int32 → Int32 → Int32 → Int32 → Int32 → (Nat → Int32) → (Nat → Int32) → (Nat → Int32) → (Nat → Int32) → (Nat → Int32) → (Nat → Int32) → (Nat → Int32) → (Nat → Int32) → (Nat → Int32) → (Nat → Int32) → (Nat → Int32) → (Nat → Int32) → (Nat → Int32) → (Nat → Int32) → (Nat → Int32) → (Nat → Int32) → (Nat → Int32) → (Nat → Int32) → (Nat → Int32) → (Nat → Int32) → (Nat → Int64) → Option Int32} (hk : KH x4 k23) {f_x_product_size : Int32} {f_x_product_all : Int32} {c_x_product_options : Nat → Int32} {f_x_ruleBook_size : Int32} {f_x_ruleBook_on : Int32} {c_x_ruleBook_kinds : Nat → Int32} {c_x_ruleBook_slots : Nat → Int32} {c_x_ruleBook_others : Nat → Int32} {f_x_prices_surcharges : Int32} {c_x_prices_ofSlots : Nat → Int32} {c_x_prices_both : Nat → Int32} {c_x_prices_amounts : Nat → Int32} {f_x_wishes_size : Int32} {c_x_wishes_slots : Nat → Int32} {f_x_made_size : Int32} {f_x_made_features : Int32} {c_x_made_order : Nat → Int32} {c_x_made_options : Nat → Int32} {c_x_pairs_partners : Nat → Int32} {c_x_trial_partners : Nat → Int32} {f_x_diagram_total : Int32} {f_x_diagram_size : Int32} {f_x_diagram_nextSize : Int32} {c_x_diagram_sets : Nat → Int32} {c_x_diagram_ways : Nat → Int32} {c_x_diagram_nextSets : Nat → Int32} {c_x_diagram_nextWays : Nat → Int32} {f_x_explanation_rules : Int32} {f_x_explanation_choosers : Int32} {c_x_explanation_kept_partners : Nat → Int32} {f_x_search_configuration : Int32} {f_x_search_isFound : Int32} {f_x_search_best : Int32} {f_x_search_sign : Int32} {f_m_thrown : Int32} {f_m_features : Int32} {f_m_rules : Int32} {f_m_on : Int32} {f_m_surcharges : Int32} {f_m_wishes : Int32} {f_m_choices : Int32} {f_m_whyRules : Int32} {f_m_whyChoices : Int32} {c_m_options : Nat → Int32} {c_m_kind : Nat → Int32} {c_m_one : Nat → Int32} {c_m_its : Nat → Int32} {c_m_other : Nat → Int32} {c_m_others : Nat → Int32} {c_m_price : Nat → Int32} {c_m_oneOf : Nat → Int32} {c_m_itsOption : Nat → Int32} {c_m_otherOf : Nat → Int32} {c_m_otherOption : Nat → Int32} {c_m_amount : Nat → Int32} {c_m_wish : Nat → Int32} {c_m_wished : Nat → Int32} {c_m_order : Nat → Int32} {c_m_chosen : Nat → Int32} {c_m_allowed : Nat → Int32} {c_m_pick : Nat → Int32} {c_m_now : Nat → Int32} {c_m_next : Nat → Int32} {c_o : Nat → Int64} (hI : IV f_x_product_size f_x_product_all c_x_product_options f_x_ruleBook_size f_x_ruleBook_on c_x_ruleBook_kinds c_x_ruleBook_slots c_x_ruleBook_others f_x_prices_surcharges c_x_prices_ofSlots c_x_prices_both c_x_prices_amounts f_x_wishes_size c_x_wishes_slots f_x_made_size f_x_made_features c_x_made_order c_x_made_options c_x_pairs_partners f_m_features f_m_rules f_m_on f_m_surcharges f_m_wishes f_m_choices c_m_options c_m_kind c_m_one c_m_its c_m_other c_m_others c_m_price c_m_oneOf c_m_itsOption c_m_otherOf c_m_otherOption c_m_amount c_m_wish c_m_wished c_m_order c_m_chosen) : ((m_L_addRule fu f_x_product_size f_x_product_all c_x_product_options f_x_ruleBook_size f_x_ruleBook_on c_x_ruleBook_kinds c_x_ruleBook_slots c_x_ruleBook_others f_x_made_size f_x_made_features c_x_made_order c_x_made_options c_x_pairs_partners c_x_trial_partners c_o (xs (x4 + (1 : Int32)).toNatClampNeg) (xs (x4 + (2 : Int32)).toNatClampNeg) (xs (x4 + (3 : Int32)).toNatClampNeg) (xs (x4 + (4 : Int32)).toNatClampNeg) (xs (x4 + (5 : Int32)).toNatClampNeg)).bind fun u_11 => if u_11.1 = none then (m_X10_addRule fu f_m_thrown f_m_features f_m_rules f_m_on c_m_options c_m_kind c_m_one c_m_its c_m_other c_m_others c_m_chosen c_m_allowed c_m_pick (xs (x4 + (1 : Int32)).toNatClampNeg) (xs (x4 + (2 : Int32)).toNatClampNeg) (xs (x4 + (3 : Int32)).toNatClampNeg) (xs (x4 + (4 : Int32)).toNatClampNeg) (xs (x4 + (5 : Int32)).toNatClampNeg)).bind fun u_12 => (m_X10_thrown u_12.2.1).bind fun u_13 => if u_13 = u_11.2.1 then if u_11.2.1 = (0 : Int32) then if lg_cmp (u_11.2.2.2.2.2.2.2.2.2 ((0 : Int32)).toNatClampNeg) u_12.1.toInt64 = (0 : Int32) then k23 (x4 + 6) f_x_product_size f_x_product_all c_x_product_options u_11.2.2.1 u_11.2.2.2.1 u_11.2.2.2.2.1 u_11.2.2.2.2.2.1 u_11.2.2.2.2.2.2.1 f_x_prices_surcharges c_x_prices_ofSlots c_x_prices_both c_x_prices_amounts f_x_wishes_size c_x_wishes_slots f_x_made_size f_x_made_features c_x_made_order c_x_made_options u_11.2.2.2.2.2.2.2.1 u_11.2.2.2.2.2.2.2.2.1 f_x_diagram_total f_x_diagram_size f_x_diagram_nextSize c_x_diagram_sets c_x_diagram_ways c_x_diagram_nextSets c_x_diagram_nextWays f_x_explanation_rules f_x_explanation_choosers c_x_explanation_kept_partners f_x_search_configuration f_x_search_isFound f_x_search_best f_x_search_sign u_12.2.1 f_m_features u_12.2.2.1 u_12.2.2.2.1 f_m_surcharges f_m_wishes f_m_choices f_m_whyRules f_m_whyChoices c_m_options u_12.2.2.2.2.1 u_12.2.2.2.2.2.1 u_12.2.2.2.2.2.2.1 u_12.2.2.2.2.2.2.2.1 u_12.2.2.2.2.2.2.2.2.1 c_m_price c_m_oneOf c_m_itsOption c_m_otherOf c_m_otherOption c_m_amount c_m_wish c_m_wished c_m_order c_m_chosen u_12.2.2.2.2.2.2.2.2.2.1 u_12.2.2.2.2.2.2.2.2.2.2 c_m_now c_m_next u_11.2.2.2.2.2.2.2.2.2 else some (0 : Int32) else k23 (x4 + 6) f_x_product_size f_x_product_all c_x_product_options u_11.2.2.1 u_11.2.2.2.1 u_11.2.2.2.2.1 u_11.2.2.2.2.2.1 u_11.2.2.2.2.2.2.1 f_x_prices_surcharges c_x_prices_ofSlots c_x_prices_both c_x_prices_amounts f_x_wishes_size c_x_wishes_slots f_x_made_size f_x_made_features c_x_made_order c_x_made_options u_11.2.2.2.2.2.2.2.1 u_11.2.2.2.2.2.2.2.2.1 f_x_diagram_total f_x_diagram_size f_x_diagram_nextSize c_x_diagram_sets c_x_diagram_ways c_x_diagram_nextSets c_x_diagram_nextWays f_x_explanation_rules f_x_explanation_choosers c_x_explanation_kept_partners f_x_search_configuration f_x_search_isFound f_x_search_best f_x_search_sign u_12.2.1 f_m_features u_12.2.2.1 u_12.2.2.2.1 f_m_surcharges f_m_wishes f_m_choices f_m_whyRules f_m_whyChoices c_m_options u_12.2.2.2.2.1 u_12.2.2.2.2.2.1 u_12.2.2.2.2.2.2.1 u_12.2.2.2.2.2.2.2.1 u_12.2.2.2.2.2.2.2.2.1 c_m_price c_m_oneOf c_m_itsOption c_m_otherOf c_m_otherOption c_m_amount c_m_wish c_m_wished c_m_order c_m_chosen u_12.2.2.2.2.2.2.2.2.2.1 u_12.2.2.2.2.2.2.2.2.2.2 c_m_now c_m_next u_11.2.2.2.2.2.2.2.2.2 else some (0 : Int32) else none) = some 1 := by
  obtain ⟨N, op, nr, kd, sa, sb, ns, su, sv, am, nw, w, os, ch, hi1, hi2, hi3, hi4, hi5, hi6⟩ := hI
  obtain ⟨hF, hFm, rfl, rfl, ha⟩ := hi1
  obtain ⟨hRN, hMb, hXB, rfl, rfl, rfl⟩ := hi2
  generalize xs (x4 + (1 : Int32)).toNatClampNeg = z1
  generalize xs (x4 + (2 : Int32)).toNatClampNeg = z2
  generalize xs (x4 + (3 : Int32)).toNatClampNeg = z3
  generalize xs (x4 + (4 : Int32)).toNatClampNeg = z4
  generalize xs (x4 + (5 : Int32)).toNatClampNeg = z5
  have h20 := hMb.1.1
  have hN := hF.1
  rcases chk_o hFm hF z2 z3 with ⟨f, a, hf, hao, rfl, rfl, e1, e2⟩ | ⟨e1, e2⟩
  · have h5 := hFm.le5 f hf
    rcases chk_o hFm hF z4 z5 with ⟨g, b, hg, hbo, rfl, rfl, g1, g2⟩ | ⟨g1, g2⟩
    · have h5g := hFm.le5 g hg
      by_cases q0 : z1 < 0
      · have h9 : m_X9_addRule fu (nI N) f_x_product_all c_x_product_options (nI nr) f_x_ruleBook_on c_x_ruleBook_kinds c_x_ruleBook_slots c_x_ruleBook_others f_x_made_size f_x_made_features c_x_made_order c_x_made_options c_x_pairs_partners c_x_trial_partners z1 (nI f) (nI a) (nI g) (nI b) = some (some "java/lang/IllegalArgumentException", 0, nI nr, f_x_ruleBook_on, c_x_ruleBook_kinds, c_x_ruleBook_slots, c_x_ruleBook_others, c_x_pairs_partners, c_x_trial_partners) := by
          unfold m_X9_addRule m_X9_checkPossible
          rw [e1, Option.bind_some, if_pos rfl, g1, Option.bind_some, if_pos rfl, if_pos q0]
        have hM : m_X10_addRule fu f_m_thrown (nI N) (nI nr) f_x_ruleBook_on c_m_options c_m_kind c_m_one c_m_its c_m_other c_m_others c_m_chosen c_m_allowed c_m_pick z1 (nI f) (nI a) (nI g) (nI b) = some (0, 2, nI nr, f_x_ruleBook_on, c_m_kind, c_m_one, c_m_its, c_m_other, c_m_others, c_m_allowed, c_m_pick) := by
          unfold m_X10_addRule
          rw [e2, Option.bind_some, if_neg (show ¬ (1 : Int32) = 0 by decide), g2, Option.bind_some, if_neg (show ¬ (1 : Int32) = 0 by decide), in_lo q0, Option.bind_some, if_pos rfl]
        rw [w_addRule_x2 h9, Option.bind_some, if_pos rfl, hM, Option.bind_some]
        unfold m_X10_thrown
        rw [Option.bind_some, if_pos rfl, if_neg (show ¬ (2 : Int32) = 0 by decide)]
        apply hk
        exact ⟨N, op, nr, kd, sa, sb, ns, su, sv, am, nw, w, os, ch, ⟨hF, hFm, rfl, rfl, ha⟩, ⟨hRN, hMb, hXB, rfl, rfl, rfl⟩, hi3, hi4, hi5, hi6⟩
      · by_cases q1 : z1 ≤ 2
        · by_cases qfg : f = g
          · have h9 : m_X9_addRule fu (nI N) f_x_product_all c_x_product_options (nI nr) f_x_ruleBook_on c_x_ruleBook_kinds c_x_ruleBook_slots c_x_ruleBook_others f_x_made_size f_x_made_features c_x_made_order c_x_made_options c_x_pairs_partners c_x_trial_partners z1 (nI f) (nI a) (nI g) (nI b) = some (some "java/lang/IllegalArgumentException", 0, nI nr, f_x_ruleBook_on, c_x_ruleBook_kinds, c_x_ruleBook_slots, c_x_ruleBook_others, c_x_pairs_partners, c_x_trial_partners) := by
              unfold m_X9_addRule m_X9_checkPossible
              rw [e1, Option.bind_some, if_pos rfl, g1, Option.bind_some, if_pos rfl, if_neg q0, if_pos q1, chk_d (by omega) (by omega), if_pos qfg, Option.bind_some, if_neg (by simp)]
            have hM : m_X10_addRule fu f_m_thrown (nI N) (nI nr) f_x_ruleBook_on c_m_options c_m_kind c_m_one c_m_its c_m_other c_m_others c_m_chosen c_m_allowed c_m_pick z1 (nI f) (nI a) (nI g) (nI b) = some (0, 2, nI nr, f_x_ruleBook_on, c_m_kind, c_m_one, c_m_its, c_m_other, c_m_others, c_m_allowed, c_m_pick) := by
              unfold m_X10_addRule
              rw [e2, Option.bind_some, if_neg (show ¬ (1 : Int32) = 0 by decide), g2, Option.bind_some, if_neg (show ¬ (1 : Int32) = 0 by decide), in_ok q0 q1, Option.bind_some, if_neg (show ¬ (1 : Int32) = 0 by decide), if_pos (by rw [qfg])]
            rw [w_addRule_x2 h9, Option.bind_some, if_pos rfl, hM, Option.bind_some]
            unfold m_X10_thrown
            rw [Option.bind_some, if_pos rfl, if_neg (show ¬ (2 : Int32) = 0 by decide)]
            apply hk
            exact ⟨N, op, nr, kd, sa, sb, ns, su, sv, am, nw, w, os, ch, ⟨hF, hFm, rfl, rfl, ha⟩, ⟨hRN, hMb, hXB, rfl, rfl, rfl⟩, hi3, hi4, hi5, hi6⟩
          · have hfg : ¬ nI f = nI g := fun h => qfg ((neq (by omega) (by omega)).mp h)
            obtain ⟨k, hk0, rfl⟩ := nI_of q0
            have hk3 : k < 3 := by have := (nI_leI (b := 2) hk0 (by omega)).mp q1; omega
            obtain ⟨y, y1, hy⟩ := q_allowed (by omega : 40 ≤ fu) hi5.1 hi5.2.2 hFm ha
            obtain ⟨p1, k1, k2⟩ := q_keepOnly (by omega : 40 ≤ fu) c_x_trial_partners f_x_ruleBook_on hMb.1 hXB.1 hXB.2.1 hXB.2.2
            obtain ⟨p2, k3, k4⟩ := q_keep (by omega : 40 ≤ fu) k2 hk3 (show 5 * f + a < 30 by omega) (show 5 * g + b < 30 by omega) (by omega)
            by_cases hn : nr < 20
            · obtain ⟨al1, d1, z1'⟩ := q_isPoss hfu (Mb_up hMb hn hk3 (show f < 6 by omega) (show a < 5 by omega) (show g < 6 by omega) (show b < 5 by omega) qfg) (Pg_up hn k4) hi5.2.1 hi5.2.2 hFm hy c_m_allowed c_m_pick
              cases he : ex p2 N 0 y with
              | false =>
                rw [he] at z1'
                have h9 : m_X9_addRule fu (nI N) f_x_product_all c_x_product_options (nI nr) f_x_ruleBook_on c_x_ruleBook_kinds c_x_ruleBook_slots c_x_ruleBook_others f_x_made_size f_x_made_features c_x_made_order c_x_made_options c_x_pairs_partners c_x_trial_partners (nI k) (nI f) (nI a) (nI g) (nI b) = some (some "java/lang/IllegalStateException", 0, nI nr, f_x_ruleBook_on, c_x_ruleBook_kinds, c_x_ruleBook_slots, c_x_ruleBook_others, c_x_pairs_partners, p2) := by
                  unfold m_X9_addRule m_X9_checkPossible
                  rw [e1, Option.bind_some, if_pos rfl, g1, Option.bind_some, if_pos rfl, if_neg q0, if_pos q1, chk_d (by omega) (by omega), if_neg qfg, Option.bind_some, if_pos rfl, q_slotOf, Option.bind_some, q_slotOf, Option.bind_some, k1, Option.bind_some, k3, Option.bind_some, y1, Option.bind_some, q_leaveSome (by omega) p2 hN, Option.bind_some, he, if_pos bI_f, Option.bind_some, if_neg (by simp)]
                have hM : m_X10_addRule fu f_m_thrown (nI N) (nI nr) f_x_ruleBook_on c_m_options c_m_kind c_m_one c_m_its c_m_other c_m_others c_m_chosen c_m_allowed c_m_pick (nI k) (nI f) (nI a) (nI g) (nI b) = some (0, 3, nI nr, f_x_ruleBook_on, upd c_m_kind nr (nI k), upd c_m_one nr (nI f), upd c_m_its nr (nI a), upd c_m_other nr (nI g), upd c_m_others nr (nI b), al1, d1) := by
                  unfold m_X10_addRule
                  rw [e2, Option.bind_some, if_neg (show ¬ (1 : Int32) = 0 by decide), g2, Option.bind_some, if_neg (show ¬ (1 : Int32) = 0 by decide), in_ok q0 q1, Option.bind_some, if_neg (show ¬ (1 : Int32) = 0 by decide), if_neg hfg, if_neg (show ¬ nI nr = (20 : Int32) from fun h => by have := (neq (b := 20) (by omega) (by omega)).mp h; omega), if_neg (nI_in2 (by omega) (by omega)), nI_cl (by omega), n1, nS, z1', Option.bind_some, if_pos bI_f]
                rw [w_addRule_x3 h9, Option.bind_some, if_pos rfl, hM, Option.bind_some]
                unfold m_X10_thrown
                rw [Option.bind_some, if_pos rfl, if_neg (show ¬ (3 : Int32) = 0 by decide)]
                apply hk
                exact ⟨N, op, nr, kd, sa, sb, ns, su, sv, am, nw, w, os, ch, ⟨hF, hFm, rfl, rfl, ha⟩, ⟨hRN, Mb_kp hMb, hXB, rfl, rfl, rfl⟩, hi3, hi4, hi5, hi6⟩
              | true =>
                rw [he] at z1'
                obtain ⟨p3, k5, k6⟩ := q_keepOnly (by omega : 40 ≤ fu) c_x_pairs_partners (f_x_ruleBook_on ||| ((1 : Int32) <<< (nI nr &&& 31))) (Mb_up hMb hn hk3 (show f < 6 by omega) (show a < 5 by omega) (show g < 6 by omega) (show b < 5 by omega) qfg).1 (XB_up (k := k) (s := 5 * f + a) (o := 5 * g + b) hXB).1 (XB_up (k := k) (s := 5 * f + a) (o := 5 * g + b) hXB).2.1 (XB_up (k := k) (s := 5 * f + a) (o := 5 * g + b) hXB).2.2
                have h8 : m_X8_add (nI nr) f_x_ruleBook_on c_x_ruleBook_kinds c_x_ruleBook_slots c_x_ruleBook_others (nI k) (nI (5 * f + a)) (nI (5 * g + b)) = some (1, nI (nr + 1), f_x_ruleBook_on ||| ((1 : Int32) <<< (nI nr &&& 31)), upd c_x_ruleBook_kinds nr (nI k), upd c_x_ruleBook_slots nr (nI (5 * f + a)), upd c_x_ruleBook_others nr (nI (5 * g + b))) := by
                  unfold m_X8_add
                  rw [if_pos (show nI nr < (20 : Int32) from (nlt (b := 20) (by omega) (by omega)).mpr hn), if_neg (nI_in2 (by omega) (by omega)), nI_cl (by omega), n1]
                have h9 : m_X9_addRule fu (nI N) f_x_product_all c_x_product_options (nI nr) f_x_ruleBook_on c_x_ruleBook_kinds c_x_ruleBook_slots c_x_ruleBook_others f_x_made_size f_x_made_features c_x_made_order c_x_made_options c_x_pairs_partners c_x_trial_partners (nI k) (nI f) (nI a) (nI g) (nI b) = some (none, nI nr, nI (nr + 1), f_x_ruleBook_on ||| ((1 : Int32) <<< (nI nr &&& 31)), upd c_x_ruleBook_kinds nr (nI k), upd c_x_ruleBook_slots nr (nI (5 * f + a)), upd c_x_ruleBook_others nr (nI (5 * g + b)), p3, p2) := by
                  unfold m_X9_addRule m_X9_checkPossible
                  rw [e1, Option.bind_some, if_pos rfl, g1, Option.bind_some, if_pos rfl, if_neg q0, if_pos q1, chk_d (by omega) (by omega), if_neg qfg, Option.bind_some, if_pos rfl, q_slotOf, Option.bind_some, q_slotOf, Option.bind_some, k1, Option.bind_some, k3, Option.bind_some, y1, Option.bind_some, q_leaveSome (by omega) p2 hN, Option.bind_some, he, if_neg (show ¬ bI true = 0 by decide), Option.bind_some, if_pos rfl, h8, Option.bind_some, if_neg (show ¬ (1 : Int32) = 0 by decide), k5, Option.bind_some]
                  show some (none, nI (nr + 1) - (1 : Int32), _) = _
                  rw [nS]
                have hM : m_X10_addRule fu f_m_thrown (nI N) (nI nr) f_x_ruleBook_on c_m_options c_m_kind c_m_one c_m_its c_m_other c_m_others c_m_chosen c_m_allowed c_m_pick (nI k) (nI f) (nI a) (nI g) (nI b) = some (nI nr, 0, nI (nr + 1), f_x_ruleBook_on ||| ((1 : Int32) <<< (nI nr &&& 31)), upd c_m_kind nr (nI k), upd c_m_one nr (nI f), upd c_m_its nr (nI a), upd c_m_other nr (nI g), upd c_m_others nr (nI b), al1, d1) := by
                  unfold m_X10_addRule
                  rw [e2, Option.bind_some, if_neg (show ¬ (1 : Int32) = 0 by decide), g2, Option.bind_some, if_neg (show ¬ (1 : Int32) = 0 by decide), in_ok q0 q1, Option.bind_some, if_neg (show ¬ (1 : Int32) = 0 by decide), if_neg hfg, if_neg (show ¬ nI nr = (20 : Int32) from fun h => by have := (neq (b := 20) (by omega) (by omega)).mp h; omega), if_neg (nI_in2 (by omega) (by omega)), nI_cl (by omega), n1, nS, z1', Option.bind_some, if_neg (show ¬ bI true = 0 by decide)]
                rw [w_addRule_ok h9, Option.bind_some, if_pos rfl, hM, Option.bind_some]
                unfold m_X10_thrown
                rw [Option.bind_some, if_pos rfl, if_pos rfl]
                refine (if_pos (?_ : lg_cmp _ _ = 0)).trans ?_
                · exact lgS _
                apply hk
                exact ⟨N, op, nr + 1, pt kd nr k, pt sa nr (5 * f + a), pt sb nr (5 * g + b), ns, su, sv, am, nw, w, os, ch, ⟨hF, hFm, rfl, rfl, ha⟩, ⟨fun r hr => by
                by_cases qr : r = nr
                · rw [qr, pt_s, pt_s]; omega
                · rw [pt_n qr, pt_n qr]; exact hRN r (by omega), Mb_up hMb hn hk3 (by omega) (by omega) (by omega) (by omega) qfg, XB_up hXB, rfl, rfl, rfl⟩, hi3, hi4, hi5, ⟨k6, Ps_new hN (Pg_up hn k4) hy he⟩⟩
            · have h20e : nr = 20 := by omega
              cases he : ex p2 N 0 y with
              | false =>
                have h9 : m_X9_addRule fu (nI N) f_x_product_all c_x_product_options (nI nr) f_x_ruleBook_on c_x_ruleBook_kinds c_x_ruleBook_slots c_x_ruleBook_others f_x_made_size f_x_made_features c_x_made_order c_x_made_options c_x_pairs_partners c_x_trial_partners (nI k) (nI f) (nI a) (nI g) (nI b) = some (some "java/lang/IllegalStateException", 0, nI nr, f_x_ruleBook_on, c_x_ruleBook_kinds, c_x_ruleBook_slots, c_x_ruleBook_others, c_x_pairs_partners, p2) := by
                  unfold m_X9_addRule m_X9_checkPossible
                  rw [e1, Option.bind_some, if_pos rfl, g1, Option.bind_some, if_pos rfl, if_neg q0, if_pos q1, chk_d (by omega) (by omega), if_neg qfg, Option.bind_some, if_pos rfl, q_slotOf, Option.bind_some, q_slotOf, Option.bind_some, k1, Option.bind_some, k3, Option.bind_some, y1, Option.bind_some, q_leaveSome (by omega) p2 hN, Option.bind_some, he, if_pos bI_f, Option.bind_some, if_neg (by simp)]
                have hM : m_X10_addRule fu f_m_thrown (nI N) (nI nr) f_x_ruleBook_on c_m_options c_m_kind c_m_one c_m_its c_m_other c_m_others c_m_chosen c_m_allowed c_m_pick (nI k) (nI f) (nI a) (nI g) (nI b) = some (0, 3, nI nr, f_x_ruleBook_on, c_m_kind, c_m_one, c_m_its, c_m_other, c_m_others, c_m_allowed, c_m_pick) := by
                  unfold m_X10_addRule
                  rw [e2, Option.bind_some, if_neg (show ¬ (1 : Int32) = 0 by decide), g2, Option.bind_some, if_neg (show ¬ (1 : Int32) = 0 by decide), in_ok q0 q1, Option.bind_some, if_neg (show ¬ (1 : Int32) = 0 by decide), if_neg hfg, if_pos (show nI nr = (20 : Int32) by rw [h20e]; rfl)]
                rw [w_addRule_x3 h9, Option.bind_some, if_pos rfl, hM, Option.bind_some]
                unfold m_X10_thrown
                rw [Option.bind_some, if_pos rfl, if_neg (show ¬ (3 : Int32) = 0 by decide)]
                apply hk
                exact ⟨N, op, nr, kd, sa, sb, ns, su, sv, am, nw, w, os, ch, ⟨hF, hFm, rfl, rfl, ha⟩, ⟨hRN, hMb, hXB, rfl, rfl, rfl⟩, hi3, hi4, hi5, hi6⟩
              | true =>
                have h9 : m_X9_addRule fu (nI N) f_x_product_all c_x_product_options (nI nr) f_x_ruleBook_on c_x_ruleBook_kinds c_x_ruleBook_slots c_x_ruleBook_others f_x_made_size f_x_made_features c_x_made_order c_x_made_options c_x_pairs_partners c_x_trial_partners (nI k) (nI f) (nI a) (nI g) (nI b) = some (some "java/lang/IllegalStateException", 0, nI nr, f_x_ruleBook_on, c_x_ruleBook_kinds, c_x_ruleBook_slots, c_x_ruleBook_others, c_x_pairs_partners, p2) := by
                  unfold m_X9_addRule m_X9_checkPossible
                  rw [e1, Option.bind_some, if_pos rfl, g1, Option.bind_some, if_pos rfl, if_neg q0, if_pos q1, chk_d (by omega) (by omega), if_neg qfg, Option.bind_some, if_pos rfl, q_slotOf, Option.bind_some, q_slotOf, Option.bind_some, k1, Option.bind_some, k3, Option.bind_some, y1, Option.bind_some, q_leaveSome (by omega) p2 hN, Option.bind_some, he, if_neg (show ¬ bI true = 0 by decide), Option.bind_some, if_pos rfl, w_add8 h20e, Option.bind_some, if_pos rfl]
                have hM : m_X10_addRule fu f_m_thrown (nI N) (nI nr) f_x_ruleBook_on c_m_options c_m_kind c_m_one c_m_its c_m_other c_m_others c_m_chosen c_m_allowed c_m_pick (nI k) (nI f) (nI a) (nI g) (nI b) = some (0, 3, nI nr, f_x_ruleBook_on, c_m_kind, c_m_one, c_m_its, c_m_other, c_m_others, c_m_allowed, c_m_pick) := by
                  unfold m_X10_addRule
                  rw [e2, Option.bind_some, if_neg (show ¬ (1 : Int32) = 0 by decide), g2, Option.bind_some, if_neg (show ¬ (1 : Int32) = 0 by decide), in_ok q0 q1, Option.bind_some, if_neg (show ¬ (1 : Int32) = 0 by decide), if_neg hfg, if_pos (show nI nr = (20 : Int32) by rw [h20e]; rfl)]
                rw [w_addRule_x3 h9, Option.bind_some, if_pos rfl, hM, Option.bind_some]
                unfold m_X10_thrown
                rw [Option.bind_some, if_pos rfl, if_neg (show ¬ (3 : Int32) = 0 by decide)]
                apply hk
                exact ⟨N, op, nr, kd, sa, sb, ns, su, sv, am, nw, w, os, ch, ⟨hF, hFm, rfl, rfl, ha⟩, ⟨hRN, hMb, hXB, rfl, rfl, rfl⟩, hi3, hi4, hi5, hi6⟩
        · have h9 : m_X9_addRule fu (nI N) f_x_product_all c_x_product_options (nI nr) f_x_ruleBook_on c_x_ruleBook_kinds c_x_ruleBook_slots c_x_ruleBook_others f_x_made_size f_x_made_features c_x_made_order c_x_made_options c_x_pairs_partners c_x_trial_partners z1 (nI f) (nI a) (nI g) (nI b) = some (some "java/lang/IllegalArgumentException", 0, nI nr, f_x_ruleBook_on, c_x_ruleBook_kinds, c_x_ruleBook_slots, c_x_ruleBook_others, c_x_pairs_partners, c_x_trial_partners) := by
            unfold m_X9_addRule m_X9_checkPossible
            rw [e1, Option.bind_some, if_pos rfl, g1, Option.bind_some, if_pos rfl, if_neg q0, if_neg q1]
          have hM : m_X10_addRule fu f_m_thrown (nI N) (nI nr) f_x_ruleBook_on c_m_options c_m_kind c_m_one c_m_its c_m_other c_m_others c_m_chosen c_m_allowed c_m_pick z1 (nI f) (nI a) (nI g) (nI b) = some (0, 2, nI nr, f_x_ruleBook_on, c_m_kind, c_m_one, c_m_its, c_m_other, c_m_others, c_m_allowed, c_m_pick) := by
            unfold m_X10_addRule
            rw [e2, Option.bind_some, if_neg (show ¬ (1 : Int32) = 0 by decide), g2, Option.bind_some, if_neg (show ¬ (1 : Int32) = 0 by decide), in_hi q0 q1, Option.bind_some, if_pos rfl]
          rw [w_addRule_x2 h9, Option.bind_some, if_pos rfl, hM, Option.bind_some]
          unfold m_X10_thrown
          rw [Option.bind_some, if_pos rfl, if_neg (show ¬ (2 : Int32) = 0 by decide)]
          apply hk
          exact ⟨N, op, nr, kd, sa, sb, ns, su, sv, am, nw, w, os, ch, ⟨hF, hFm, rfl, rfl, ha⟩, ⟨hRN, hMb, hXB, rfl, rfl, rfl⟩, hi3, hi4, hi5, hi6⟩
    · have h9 : m_X9_addRule fu (nI N) f_x_product_all c_x_product_options (nI nr) f_x_ruleBook_on c_x_ruleBook_kinds c_x_ruleBook_slots c_x_ruleBook_others f_x_made_size f_x_made_features c_x_made_order c_x_made_options c_x_pairs_partners c_x_trial_partners z1 (nI f) (nI a) z4 z5 = some (some "java/lang/IndexOutOfBoundsException", 0, nI nr, f_x_ruleBook_on, c_x_ruleBook_kinds, c_x_ruleBook_slots, c_x_ruleBook_others, c_x_pairs_partners, c_x_trial_partners) := by
        unfold m_X9_addRule m_X9_checkPossible
        rw [e1, Option.bind_some, if_pos rfl, g1, Option.bind_some, if_neg (by simp)]
      have hM : m_X10_addRule fu f_m_thrown (nI N) (nI nr) f_x_ruleBook_on c_m_options c_m_kind c_m_one c_m_its c_m_other c_m_others c_m_chosen c_m_allowed c_m_pick z1 (nI f) (nI a) z4 z5 = some (0, 1, nI nr, f_x_ruleBook_on, c_m_kind, c_m_one, c_m_its, c_m_other, c_m_others, c_m_allowed, c_m_pick) := by
        unfold m_X10_addRule
        rw [e2, Option.bind_some, if_neg (show ¬ (1 : Int32) = 0 by decide), g2, Option.bind_some, if_pos rfl]
      rw [w_addRule_x1 h9, Option.bind_some, if_pos rfl, hM, Option.bind_some]
      unfold m_X10_thrown
      rw [Option.bind_some, if_pos rfl, if_neg (show ¬ (1 : Int32) = 0 by decide)]
      apply hk
      exact ⟨N, op, nr, kd, sa, sb, ns, su, sv, am, nw, w, os, ch, ⟨hF, hFm, rfl, rfl, ha⟩, ⟨hRN, hMb, hXB, rfl, rfl, rfl⟩, hi3, hi4, hi5, hi6⟩
  · have h9 : m_X9_addRule fu (nI N) f_x_product_all c_x_product_options (nI nr) f_x_ruleBook_on c_x_ruleBook_kinds c_x_ruleBook_slots c_x_ruleBook_others f_x_made_size f_x_made_features c_x_made_order c_x_made_options c_x_pairs_partners c_x_trial_partners z1 z2 z3 z4 z5 = some (some "java/lang/IndexOutOfBoundsException", 0, nI nr, f_x_ruleBook_on, c_x_ruleBook_kinds, c_x_ruleBook_slots, c_x_ruleBook_others, c_x_pairs_partners, c_x_trial_partners) := by
      unfold m_X9_addRule m_X9_checkPossible
      rw [e1, Option.bind_some, if_neg (by simp)]
    have hM : m_X10_addRule fu f_m_thrown (nI N) (nI nr) f_x_ruleBook_on c_m_options c_m_kind c_m_one c_m_its c_m_other c_m_others c_m_chosen c_m_allowed c_m_pick z1 z2 z3 z4 z5 = some (0, 1, nI nr, f_x_ruleBook_on, c_m_kind, c_m_one, c_m_its, c_m_other, c_m_others, c_m_allowed, c_m_pick) := by
      unfold m_X10_addRule
      rw [e2, Option.bind_some, if_pos rfl]
    rw [w_addRule_x1 h9, Option.bind_some, if_pos rfl, hM, Option.bind_some]
    unfold m_X10_thrown
    rw [Option.bind_some, if_pos rfl, if_neg (show ¬ (1 : Int32) = 0 by decide)]
    apply hk
    exact ⟨N, op, nr, kd, sa, sb, ns, su, sv, am, nw, w, os, ch, ⟨hF, hFm, rfl, rfl, ha⟩, ⟨hRN, hMb, hXB, rfl, rfl, rfl⟩, hi3, hi4, hi5, hi6⟩
