theorem fX8_addAllBut_X0 : ∀ w ∈ u_ws RX0 TX0 4, w ∈ wsX8_addAllBut := j_words [75, 76, 77, 78] (by decide +kernel)
theorem fX8_addAllBut_X5 : ∀ w ∈ u_ws RX5 TX5 4, w ∈ wsX8_addAllBut := j_words [79, 80, 81, 82] (by decide +kernel)
theorem fX8_addAllBut_X6 : ∀ w ∈ u_ws RX6 TX6 4, w ∈ wsX8_addAllBut := j_words [83, 84, 85, 86] (by decide +kernel)
theorem fX8_addAllBut_X7 : ∀ w ∈ u_ws RX7 TX7 4, w ∈ wsX8_addAllBut := j_words [87, 88, 89, 90] (by decide +kernel)
set_option maxHeartbeats 4000000 in
set_option maxRecDepth 100000 in
theorem c_addAllBut (l : Launch) (D : va_G) (Y : Nat → ClassId) (RO : va_W) (h : Nat) (x : Nat) (y : Nat) (g : Int → Int) (g2 : Int → Int) (pa : Nat) (pad : Int → Nat) (np : Int) (ps : Int → PT) (but : Int) (sc : Int) (hpa : (pa, aQ (Y 3) 6 (orow np pad)) ∈ RO) (hpc : ∀ i, 0 ≤ i ∧ i < np → pC (pad i) (ps i) ∈ RO) (hnp : 0 ≤ np ∧ np ≤ 6) (hps : ∀ i, 0 ≤ i ∧ i < np → okP (ps i)) (hbut : -2147483648 ≤ but ∧ but ≤ 2147483647) (hsc : sc = 1 ∨ sc = -1) (hA : mtI 1 1000 (AC sc zQ) g) : jMv l yX8_addAllBut wsX8_addAllBut { frames := 2, cells := 0, slots := 0, locals := 49 } D Y RO [.ref h, .ref pa, vI but, vI sc] [(h, oC 7 [.ref x, .ref y]), (x, aI (Y 0) 271 g), (y, aI (Y 0) 271 g2)] (fun w1 => ∃ (xq yq : Nat) (gq hq : Int → Int), w1 = [(h, oC 7 [.ref xq, .ref yq]), (xq, aI (Y 0) 271 gq), (yq, aI (Y 0) 271 hq)] ∧ mtI 1 1000 (AC sc (BQ ps but np)) gq) := by
  refine j_ofv RX8 rfl rfl rfl (Nat.le_of_ble_eq_true rfl) (fun X C Rt hI => ?_)
  refine j_iconst (pc := 0) C dX8_addAllBut_0 ?_
  refine j_istore (pc := 1) (lc' := [(4, vI 0), (0, .ref h), (1, .ref pa), (2, vI but), (3, vI sc)]) C (by decide) rfl dX8_addAllBut_1 ?_
  have hL3 : ∀ (N3 : Nat) (i : Int) (x1 : Nat) (y1 : Nat) (z : Int → Int) (z2 : Int → Int), ((np - i).toNat) < N3 → (0 ≤ i ∧ i ≤ np) → (mtI 1 1000 (AC sc (BQ ps but i)) z) → jW X 7 0 0 [(h, oC 7 [.ref x1, .ref y1]), (x1, aI (Y 0) 271 z), (y1, aI (Y 0) 271 z2)] [(0, .ref h), (1, .ref pa), (2, vI but), (3, vI sc), (4, vI i)] 3 [] := by
    intro N3
    induction N3 with
    | zero => intro i x1 y1 z z2 hm3 i3_0 i3_1; omega
    | succ N3 ih3 =>
      intro i x1 y1 z z2 hm3 i3_0 i3_1
      refine j_iload (pc := 3) C 4 rfl dX8_addAllBut_3 ?_
      refine j_aload_n (pc := 5) C 1 1 rfl rfl dX8_addAllBut_5 ?_
      refine j_alenP (pc := 6) C (Or.inr hpa) rfl dX8_addAllBut_6 ?_
      refine j_icmp_ge (pc := 7) C 66 rfl (by omega) dX8_addAllBut_7 (fun h_1p7 => ?_) (fun h_1p7 => ?_)
      · skip
        exact Rt _ _ _ _ _ (by decide) (by decide) ⟨_, _, _, _, rfl, by rw [show np = i by omega]; exact i3_1⟩ dX8_addAllBut_66
      · skip
        refine j_aload_n (pc := 10) C 1 1 rfl rfl dX8_addAllBut_10 ?_
        refine j_iload (pc := 11) C 4 rfl dX8_addAllBut_11 ?_
        refine j_aaldP (pc := 13) C (Or.inr hpa) rfl (by omega) (by decide) dX8_addAllBut_13 ?_
        by_cases hq_2 : i < np
        · rw [show orow np pad i = some (pad i) from orow_in ⟨by omega, hq_2⟩]
          have hp2 := hpc i ⟨by omega, hq_2⟩
          have hP2 := hps i ⟨by omega, hq_2⟩
          have hw2 := hP2.2.2.2.2.1
          refine j_astore (pc := 14) (lc' := [(5, .ref (pad i)), (0, .ref h), (1, .ref pa), (2, vI but), (3, vI sc), (4, vI i)]) C (by decide) rfl dX8_addAllBut_14 ?_
          refine j_aload (pc := 16) C 0 rfl dX8_addAllBut_16 ?_
          refine j_ifnonnull (pc := 18) C 24 rfl dX8_addAllBut_18 ?_
          refine j_iload (pc := 24) C 5 rfl dX8_addAllBut_24 ?_
          refine j_iload_n (pc := 26) C 2 3 rfl rfl dX8_addAllBut_26 ?_
          refine j_icmp_ne (pc := 27) C 33 rfl (by omega) dX8_addAllBut_27 (fun h_3p27 => ?_) (fun h_3p27 => ?_)
          · skip
            refine j_iconst (pc := 33) C dX8_addAllBut_33 ?_
            refine j_istore (pc := 34) (lc' := [(6, vI 0), (5, .ref (pad i)), (0, .ref h), (1, .ref pa), (2, vI but), (3, vI sc), (4, vI i)]) C (by decide) rfl dX8_addAllBut_34 ?_
            have hL36 : ∀ (N36 : Nat) (j : Int) (x2 : Nat) (y2 : Nat) (u : Int → Int) (u2 : Int → Int), ((pw (ps i) - j).toNat) < N36 → (0 ≤ j ∧ j ≤ pw (ps i)) → (mtI 1 1000 (AC sc (smQ (BQ ps but i) (DJ (ps i) 1 j))) u) → jW X 7 0 0 [(h, oC 7 [.ref x2, .ref y2]), (x2, aI (Y 0) 271 u), (y2, aI (Y 0) 271 u2)] [(0, .ref h), (1, .ref pa), (2, vI but), (3, vI sc), (4, vI i), (5, .ref (pad i)), (6, vI j)] 36 [] := by
              intro N36
              induction N36 with
              | zero => intro j x2 y2 u u2 hm36 i36_0 i36_1; omega
              | succ N36 ih36 =>
                intro j x2 y2 u u2 hm36 i36_0 i36_1
                refine j_iload (pc := 36) C 6 rfl dX8_addAllBut_36 ?_
                refine j_aload (pc := 38) C 5 rfl dX8_addAllBut_38 ?_
                refine j_getP (pc := 40) C (Or.inr hp2) hP2.1 fX8_addAllBut_X5 fX8_addAllBut_X6 fX8_addAllBut_X7 fX8_addAllBut_X0 1 (by decide) (List.mem_of_getElem? (i := 1) rfl) (Or.inl rfl) rfl dX8_addAllBut_40 ?_
                refine j_icmp_ge (pc := 43) C 60 rfl (by omega) dX8_addAllBut_43 (fun h_4p43 => ?_) (fun h_4p43 => ?_)
                · skip
                  refine j_iinc (pc := 60) (lc' := [(4, vI (i + 1)), (0, .ref h), (1, .ref pa), (2, vI but), (3, vI sc), (5, .ref (pad i)), (6, vI j)]) C 4 rfl (by decide) rfl dX8_addAllBut_60 ?_
                  refine j_goto (pc := 63) C 3 rfl dX8_addAllBut_63 ?_
                  refine j_locals (lc' := [(0, .ref h), (1, .ref pa), (2, vI but), (3, vI sc), (4, vI (i + 1))]) [1, 2, 3, 4, 0] rfl ?_
                  exact ih3 (i + 1) x2 y2 u u2 (by omega) (by omega) (by rw [BQ_succ _ _ (by omega)]; first | (rw [if_pos (by omega)]; exact i3_1) | (rw [if_neg (by omega), show pw (ps i) = j by omega]; exact i36_1))
                · skip
                  refine j_aload_n (pc := 46) C 0 0 rfl rfl dX8_addAllBut_46 ?_
                  refine j_aload (pc := 47) C 5 rfl dX8_addAllBut_47 ?_
                  refine j_iconst (pc := 49) C dX8_addAllBut_49 ?_
                  refine j_iload_n (pc := 50) C 3 3 rfl rfl dX8_addAllBut_50 ?_
                  refine j_callVv (pc := 51) (As := [.ref (pad i), vI 1, vI sc]) (na := 3) (st := []) C [0, 1, 2] [] (wr := []) (fun l => c_addWalker l D Y _ h x2 y2 u u2 (pad i) (ps i) 1 sc (List.mem_append_right _ hp2) (by first | assumption | omega) (Or.inr rfl) (by first | assumption | omega) (mt_rng hsc (bQ_up (smQ_b (BQ_b (but := but) (show 0 ≤ i by omega) (fun q hq => hps q (by omega))) (DJ_b (hps i (by omega)) 1 j)) (show 9 * i + j ≤ 54 by omega)) i36_1)) rfl rfl rfl rfl (by decide) rfl (Or.inl (List.mem_of_getElem? (i := 0) rfl)) rfl gX8_addAllBut_X8_addWalker ⟨rfl, by decide +kernel⟩ (by decide) rfl rfl (Nat.le_of_ble_eq_true rfl) (by decide) dX8_addAllBut_51 (fun w_6 h_7 => ?_)
                  subst h_7
                  refine j_perm (ws' := [(h, oC 7 [.ref y2, .ref x2]), (x2, aI (Y 0) 271 u), (y2, aI (Y 0) 271 (fo (stepF (ps i) 1 sc u) 271 (fun _ => 1000)))]) [0, 1, 2] rfl rfl ?_
                  refine j_iinc (pc := 54) (lc' := [(6, vI (j + 1)), (0, .ref h), (1, .ref pa), (2, vI but), (3, vI sc), (4, vI i), (5, .ref (pad i))]) C 6 rfl (by decide) rfl dX8_addAllBut_54 ?_
                  refine j_goto (pc := 57) C 36 rfl dX8_addAllBut_57 ?_
                  refine j_perm (ws' := [(h, oC 7 [.ref y2, .ref x2]), (y2, aI (Y 0) 271 (fo (stepF (ps i) 1 sc u) 271 (fun _ => 1000))), (x2, aI (Y 0) 271 u)]) [0, 2, 1] rfl rfl ?_
                  refine j_locals (lc' := [(0, .ref h), (1, .ref pa), (2, vI but), (3, vI sc), (4, vI i), (5, .ref (pad i)), (6, vI (j + 1))]) [1, 2, 3, 4, 5, 6, 0] rfl ?_
                  exact ih36 (j + 1) y2 x2 (fo (stepF (ps i) 1 sc u) 271 (fun _ => 1000)) u (by omega) (by omega) (by rw [← stQ_sm _ _ _ (by omega)]; exact mt_walk hsc (hps i (by omega)) (bQ_up (smQ_b (BQ_b (but := but) (show 0 ≤ i by omega) (fun q hq => hps q (by omega))) (DJ_b (hps i (by omega)) 1 j)) (show 9 * i + j ≤ 53 by omega)) i36_1)
            refine j_locals (lc' := [(0, .ref h), (1, .ref pa), (2, vI but), (3, vI sc), (4, vI i), (5, .ref (pad i)), (6, vI 0)]) [2, 3, 4, 5, 6, 1, 0] rfl ?_
            exact hL36 _ 0 x1 y1 z z2 (Nat.lt_succ_self _) (by omega) (by rw [sm_DJ0]; exact i3_1)
          · skip
            refine j_goto (pc := 30) C 60 rfl dX8_addAllBut_30 ?_
            refine j_iinc (pc := 60) (lc' := [(4, vI (i + 1)), (5, .ref (pad i)), (0, .ref h), (1, .ref pa), (2, vI but), (3, vI sc)]) C 5 rfl (by decide) rfl dX8_addAllBut_60 ?_
            refine j_goto (pc := 63) C 3 rfl dX8_addAllBut_63 ?_
            refine j_locals (lc' := [(0, .ref h), (1, .ref pa), (2, vI but), (3, vI sc), (4, vI (i + 1))]) [2, 3, 4, 5, 0] rfl ?_
            exact ih3 (i + 1) x1 y1 z z2 (by omega) (by omega) (by rw [BQ_succ _ _ (by omega)]; first | (rw [if_pos (by omega)]; exact i3_1) | (rw [if_neg (by omega), show pw (ps i) = j by omega]; exact i36_1))
        · rw [show orow np pad i = none from orow_out (by omega)]
          refine j_astoreN (pc := 14) (lc' := [(5, .null), (0, .ref h), (1, .ref pa), (2, vI but), (3, vI sc), (4, vI i)]) C (by decide) rfl dX8_addAllBut_14 ?_
          refine j_aloadN (pc := 16) C 0 rfl dX8_addAllBut_16 ?_
          refine j_ifnonnullN (pc := 18) C dX8_addAllBut_18 ?_
          refine j_goto (pc := 21) C 66 rfl dX8_addAllBut_21 ?_
          exact Rt _ _ _ _ _ (by decide) (by decide) ⟨_, _, _, _, rfl, by rw [show np = i by omega]; exact i3_1⟩ dX8_addAllBut_66
  refine j_locals (lc' := [(0, .ref h), (1, .ref pa), (2, vI but), (3, vI sc), (4, vI 0)]) [1, 2, 3, 4, 0] rfl ?_
  exact hL3 _ 0 x y g g2 (Nat.lt_succ_self _) (by omega) hA

set_option maxHeartbeats 4000000 in
set_option maxRecDepth 100000 in
theorem c_leastCost (l : Launch) (D : va_G) (Y : Nat → ClassId) (RO : va_W) (h : Nat) (x : Nat) (y : Nat) (g : Int → Int) (g2 : Int → Int) (pa : Nat) (pad : Int → Nat) (np : Int) (ps : Int → PT) (n : Int) (sc : Int) (hpa : (pa, aQ (Y 3) 6 (orow np pad)) ∈ RO) (hpc : ∀ i, 0 ≤ i ∧ i < np → pC (pad i) (ps i) ∈ RO) (hnp : 0 ≤ np ∧ np ≤ 6) (hps : ∀ i, 0 ≤ i ∧ i < np → okP (ps i)) (hn : -54 ≤ n ∧ n ≤ 216) (hsc : sc = 1 ∨ sc = -1) : jMi l yX8_leastCost wsX8_leastCost { frames := 3, cells := 0, slots := 0, locals := 75 } D Y RO [.ref h, .ref pa, vI n, vI sc] [(h, oC 7 [.ref x, .ref y]), (x, aI (Y 0) 271 g), (y, aI (Y 0) 271 g2)] (fun e w1 => ∃ (xq yq : Nat) (gq hq : Int → Int), e = (costI n gq) ∧ w1 = [(h, oC 7 [.ref xq, .ref yq]), (xq, aI (Y 0) 271 gq), (yq, aI (Y 0) 271 hq)] ∧ mtI 1 1000 (AC sc (BQ ps (-1) np)) gq) := by
  refine j_ofi RX8 rfl rfl rfl (Nat.le_of_ble_eq_true rfl) (fun X C Rt => ?_)
  refine j_aload_n (pc := 0) C 0 0 rfl rfl dX8_leastCost_0 ?_
  refine j_callVv (pc := 1) (As := []) (na := 0) (st := []) C [1] [0, 2] (wr := [(h, oC 7 [.ref x, .ref y]), (y, aI (Y 0) 271 g2)]) (fun l => c_start l D Y _ h x y g (List.mem_append_left _ (List.mem_of_getElem? (i := 0) rfl)) ) rfl rfl rfl rfl (by decide) rfl (Or.inr (List.mem_append_left _ (List.mem_of_getElem? (i := 0) rfl))) rfl gX8_leastCost_X8_start ⟨rfl, by decide +kernel⟩ (by decide) rfl rfl (Nat.le_of_ble_eq_true rfl) (by decide) dX8_leastCost_1 (fun w_2 h_3 => ?_)
  subst h_3
  refine j_perm (ws' := [(h, oC 7 [.ref x, .ref y]), (x, aI (Y 0) 271 row0), (y, aI (Y 0) 271 g2)]) [0, 2, 1] rfl rfl ?_
  refine j_aload_n (pc := 4) C 0 0 rfl rfl dX8_leastCost_4 ?_
  refine j_aload_n (pc := 5) C 1 1 rfl rfl dX8_leastCost_5 ?_
  refine j_iconst (pc := 6) C dX8_leastCost_6 ?_
  refine j_iload_n (pc := 7) C 3 3 rfl rfl dX8_leastCost_7 ?_
  refine j_callVv (pc := 8) (As := [.ref pa, vI (-1), vI sc]) (na := 3) (st := []) C [0, 1, 2] [] (wr := []) (fun l => c_addAllBut l D Y _ h x y row0 g2 pa pad np ps (-1) sc (List.mem_append_right _ hpa) (fun i hi => List.mem_append_right _ (hpc i hi)) (by first | assumption | omega) (by first | assumption | omega) (by decide) (by first | assumption | omega) mt_row0) rfl rfl rfl rfl (by decide) rfl (Or.inl (List.mem_of_getElem? (i := 0) rfl)) rfl gX8_leastCost_X8_addAllBut ⟨rfl, by decide +kernel⟩ (by decide) rfl rfl (Nat.le_of_ble_eq_true rfl) (by decide) dX8_leastCost_8 (fun w_5 h_6 => ?_)
  obtain ⟨xq_7, yq_8, gq_9, hq_10, rfl, hm_11⟩ := h_6
  refine j_perm (ws' := [(h, oC 7 [.ref xq_7, .ref yq_8]), (xq_7, aI (Y 0) 271 gq_9), (yq_8, aI (Y 0) 271 hq_10)]) [0, 1, 2] rfl rfl ?_
  refine j_aload_n (pc := 11) C 0 0 rfl rfl dX8_leastCost_11 ?_
  refine j_iload_n (pc := 12) C 2 2 rfl rfl dX8_leastCost_12 ?_
  refine j_callVi (pc := 13) (As := [vI n]) (na := 1) (st := []) C [] [0, 1, 2] (wr := [(h, oC 7 [.ref xq_7, .ref yq_8]), (xq_7, aI (Y 0) 271 gq_9), (yq_8, aI (Y 0) 271 hq_10)]) (fun l => c_costOf l D Y _ h xq_7 yq_8 gq_9 n (List.mem_append_left _ (List.mem_of_getElem? (i := 0) rfl)) (List.mem_append_left _ (List.mem_of_getElem? (i := 1) rfl)) (by omega)) rfl rfl rfl rfl (by decide) rfl (Or.inr (List.mem_append_left _ (List.mem_of_getElem? (i := 0) rfl))) rfl gX8_leastCost_X8_costOf ⟨rfl, by decide +kernel⟩ (by decide) rfl rfl (Nat.le_of_ble_eq_true rfl) (by decide) dX8_leastCost_13 (fun e_12 w_13 h_14 => ?_)
  obtain ⟨rfl, rfl⟩ := h_14
  refine j_perm (ws' := [(h, oC 7 [.ref xq_7, .ref yq_8]), (xq_7, aI (Y 0) 271 gq_9), (yq_8, aI (Y 0) 271 hq_10)]) [0, 1, 2] rfl rfl ?_
  exact Rt _ _ _ _ _ _ (by decide) (by decide) ⟨_, _, _, _, rfl, rfl, hm_11⟩ dX8_leastCost_16

set_option maxHeartbeats 4000000 in
set_option maxRecDepth 100000 in
theorem c_fewestSins (l : Launch) (D : va_G) (Y : Nat → ClassId) (RO : va_W) (h : Nat) (x : Nat) (y : Nat) (g : Int → Int) (g2 : Int → Int) (pa : Nat) (pad : Int → Nat) (np : Int) (ps : Int → PT) (n : Int) (hpa : (pa, aQ (Y 3) 6 (orow np pad)) ∈ RO) (hpc : ∀ i, 0 ≤ i ∧ i < np → pC (pad i) (ps i) ∈ RO) (hnp : 0 ≤ np ∧ np ≤ 6) (hps : ∀ i, 0 ≤ i ∧ i < np → okP (ps i)) (hn : -54 ≤ n ∧ n ≤ 216) : jMi l yX8_fewestSins wsX8_fewestSins { frames := 4, cells := 0, slots := 0, locals := 98 } D Y RO [.ref h, .ref pa, vI n] [(h, oC 7 [.ref x, .ref y]), (x, aI (Y 0) 271 g), (y, aI (Y 0) 271 g2)] (fun e w1 => ∃ (xq yq : Nat) (gq hq : Int → Int), e = (endI 1 (BQ ps (-1) np n)) ∧ w1 = [(h, oC 7 [.ref xq, .ref yq]), (xq, aI (Y 0) 271 gq), (yq, aI (Y 0) 271 hq)]) := by
  refine j_ofi RX8 rfl rfl rfl (Nat.le_of_ble_eq_true rfl) (fun X C Rt => ?_)
  refine j_aload_n (pc := 0) C 0 0 rfl rfl dX8_fewestSins_0 ?_
  refine j_aload_n (pc := 1) C 1 1 rfl rfl dX8_fewestSins_1 ?_
  refine j_iload_n (pc := 2) C 2 2 rfl rfl dX8_fewestSins_2 ?_
  refine j_iconst (pc := 3) C dX8_fewestSins_3 ?_
  refine j_callVi (pc := 4) (As := [.ref pa, vI n, vI 1]) (na := 3) (st := []) C [0, 1, 2] [] (wr := []) (fun l => c_leastCost l D Y _ h x y g g2 pa pad np ps n 1 (List.mem_append_right _ hpa) (fun i hi => List.mem_append_right _ (hpc i hi)) (by first | assumption | omega) (by first | assumption | omega) (by first | assumption | omega) (by decide)) rfl rfl rfl rfl (by decide) rfl (Or.inl (List.mem_of_getElem? (i := 0) rfl)) rfl gX8_fewestSins_X8_leastCost ⟨rfl, by decide +kernel⟩ (by decide) rfl rfl (Nat.le_of_ble_eq_true rfl) (by decide) dX8_fewestSins_4 (fun e_1 w_2 h_3 => ?_)
  obtain ⟨xq_4, yq_5, gq_6, hq_7, rfl, rfl, hm_8⟩ := h_3
  refine j_perm (ws' := [(h, oC 7 [.ref xq_4, .ref yq_5]), (xq_4, aI (Y 0) 271 gq_6), (yq_5, aI (Y 0) 271 hq_7)]) [0, 1, 2] rfl rfl ?_
  have hcc := cost_c (by decide) (bQ_up (BQ_b (but := -1) hnp.1 hps) (show 9 * np ≤ 54 by omega)) hm_8 n
  refine j_istore_n (pc := 7) (lc' := [(3, vI (costI n gq_6)), (0, .ref h), (1, .ref pa), (2, vI n)]) C 3 rfl (by decide) rfl dX8_fewestSins_7 ?_
  refine j_iload_n (pc := 8) C 3 0 rfl rfl dX8_fewestSins_8 ?_
  refine j_sipush (pc := 9) (w := 1000) C rfl dX8_fewestSins_9 ?_
  refine j_icmp_ne (pc := 12) C 19 rfl (by omega) dX8_fewestSins_12 (fun h_9p12 => ?_) (fun h_9p12 => ?_)
  · skip
    refine j_iload_n (pc := 19) C 3 0 rfl rfl dX8_fewestSins_19 ?_
    exact Rt _ _ _ _ _ _ (by decide) (by decide) ⟨_, _, _, _, by rw [few_end (bQ_up (BQ_b (but := -1) hnp.1 hps) (show 9 * np ≤ 54 by omega)) hm_8 n]; first | (rw [if_pos (by omega)]; done) | (rw [if_neg (by omega)]; done), rfl⟩ dX8_fewestSins_20
  · skip
    refine j_iconst (pc := 15) C dX8_fewestSins_15 ?_
    refine j_goto (pc := 16) C 20 rfl dX8_fewestSins_16 ?_
    exact Rt _ _ _ _ _ _ (by decide) (by decide) ⟨_, _, _, _, by rw [few_end (bQ_up (BQ_b (but := -1) hnp.1 hps) (show 9 * np ≤ 54 by omega)) hm_8 n]; first | (rw [if_pos (by omega)]; done) | (rw [if_neg (by omega)]; done), rfl⟩ dX8_fewestSins_20

set_option maxHeartbeats 4000000 in
set_option maxRecDepth 100000 in
theorem c_mostSins (l : Launch) (D : va_G) (Y : Nat → ClassId) (RO : va_W) (h : Nat) (x : Nat) (y : Nat) (g : Int → Int) (g2 : Int → Int) (pa : Nat) (pad : Int → Nat) (np : Int) (ps : Int → PT) (n : Int) (hpa : (pa, aQ (Y 3) 6 (orow np pad)) ∈ RO) (hpc : ∀ i, 0 ≤ i ∧ i < np → pC (pad i) (ps i) ∈ RO) (hnp : 0 ≤ np ∧ np ≤ 6) (hps : ∀ i, 0 ≤ i ∧ i < np → okP (ps i)) (hn : -54 ≤ n ∧ n ≤ 216) : jMi l yX8_mostSins wsX8_mostSins { frames := 4, cells := 0, slots := 0, locals := 98 } D Y RO [.ref h, .ref pa, vI n] [(h, oC 7 [.ref x, .ref y]), (x, aI (Y 0) 271 g), (y, aI (Y 0) 271 g2)] (fun e w1 => ∃ (xq yq : Nat) (gq hq : Int → Int), e = (endI (-1) (BQ ps (-1) np n)) ∧ w1 = [(h, oC 7 [.ref xq, .ref yq]), (xq, aI (Y 0) 271 gq), (yq, aI (Y 0) 271 hq)]) := by
  refine j_ofi RX8 rfl rfl rfl (Nat.le_of_ble_eq_true rfl) (fun X C Rt => ?_)
  refine j_aload_n (pc := 0) C 0 0 rfl rfl dX8_mostSins_0 ?_
  refine j_aload_n (pc := 1) C 1 1 rfl rfl dX8_mostSins_1 ?_
  refine j_iload_n (pc := 2) C 2 2 rfl rfl dX8_mostSins_2 ?_
  refine j_iconst (pc := 3) C dX8_mostSins_3 ?_
  refine j_callVi (pc := 4) (As := [.ref pa, vI n, vI (-1)]) (na := 3) (st := []) C [0, 1, 2] [] (wr := []) (fun l => c_leastCost l D Y _ h x y g g2 pa pad np ps n (-1) (List.mem_append_right _ hpa) (fun i hi => List.mem_append_right _ (hpc i hi)) (by first | assumption | omega) (by first | assumption | omega) (by first | assumption | omega) (by decide)) rfl rfl rfl rfl (by decide) rfl (Or.inl (List.mem_of_getElem? (i := 0) rfl)) rfl gX8_mostSins_X8_leastCost ⟨rfl, by decide +kernel⟩ (by decide) rfl rfl (Nat.le_of_ble_eq_true rfl) (by decide) dX8_mostSins_4 (fun e_1 w_2 h_3 => ?_)
  obtain ⟨xq_4, yq_5, gq_6, hq_7, rfl, rfl, hm_8⟩ := h_3
  refine j_perm (ws' := [(h, oC 7 [.ref xq_4, .ref yq_5]), (xq_4, aI (Y 0) 271 gq_6), (yq_5, aI (Y 0) 271 hq_7)]) [0, 1, 2] rfl rfl ?_
  have hcc := cost_c (by decide) (bQ_up (BQ_b (but := -1) hnp.1 hps) (show 9 * np ≤ 54 by omega)) hm_8 n
  refine j_istore_n (pc := 7) (lc' := [(3, vI (costI n gq_6)), (0, .ref h), (1, .ref pa), (2, vI n)]) C 3 rfl (by decide) rfl dX8_mostSins_7 ?_
  refine j_iload_n (pc := 8) C 3 0 rfl rfl dX8_mostSins_8 ?_
  refine j_sipush (pc := 9) (w := 1000) C rfl dX8_mostSins_9 ?_
  refine j_icmp_ne (pc := 12) C 19 rfl (by omega) dX8_mostSins_12 (fun h_9p12 => ?_) (fun h_9p12 => ?_)
  · skip
    refine j_iload_n (pc := 19) C 3 0 rfl rfl dX8_mostSins_19 ?_
    refine j_ineg (pc := 20) C dX8_mostSins_20 ?_
    exact Rt _ _ _ _ _ _ (by decide) (by decide) ⟨_, _, _, _, by rw [most_end (bQ_up (BQ_b (but := -1) hnp.1 hps) (show 9 * np ≤ 54 by omega)) hm_8 n]; first | (rw [if_pos (by omega)]; done) | (rw [if_neg (by omega)]; done), rfl⟩ dX8_mostSins_21
  · skip
    refine j_iconst (pc := 15) C dX8_mostSins_15 ?_
    refine j_goto (pc := 16) C 21 rfl dX8_mostSins_16 ?_
    exact Rt _ _ _ _ _ _ (by decide) (by decide) ⟨_, _, _, _, by rw [most_end (bQ_up (BQ_b (but := -1) hnp.1 hps) (show 9 * np ≤ 54 by omega)) hm_8 n]; first | (rw [if_pos (by omega)]; done) | (rw [if_neg (by omega)]; done), rfl⟩ dX8_mostSins_21

theorem fX8_canBeWithout_X0 : ∀ w ∈ u_ws RX0 TX0 4, w ∈ wsX8_canBeWithout := j_words [87, 88, 89, 90] (by decide +kernel)
theorem fX8_canBeWithout_X5 : ∀ w ∈ u_ws RX5 TX5 4, w ∈ wsX8_canBeWithout := j_words [91, 92, 93, 94] (by decide +kernel)
theorem fX8_canBeWithout_X6 : ∀ w ∈ u_ws RX6 TX6 4, w ∈ wsX8_canBeWithout := j_words [95, 96, 97, 98] (by decide +kernel)
theorem fX8_canBeWithout_X7 : ∀ w ∈ u_ws RX7 TX7 4, w ∈ wsX8_canBeWithout := j_words [99, 100, 101, 102] (by decide +kernel)
set_option maxHeartbeats 4000000 in
set_option maxRecDepth 100000 in
theorem c_canBeWithout (l : Launch) (D : va_G) (Y : Nat → ClassId) (RO : va_W) (h : Nat) (x : Nat) (y : Nat) (g : Int → Int) (g2 : Int → Int) (pa : Nat) (pad : Int → Nat) (np : Int) (ps : Int → PT) (n : Int) (who : Int) (hpa : (pa, aQ (Y 3) 6 (orow np pad)) ∈ RO) (hpc : ∀ i, 0 ≤ i ∧ i < np → pC (pad i) (ps i) ∈ RO) (hnp : 0 ≤ np ∧ np ≤ 6) (hps : ∀ i, 0 ≤ i ∧ i < np → okP (ps i)) (hn : -54 ≤ n ∧ n ≤ 216) (hwho : 0 ≤ who ∧ who < np) : jMi l yX8_canBeWithout wsX8_canBeWithout { frames := 3, cells := 0, slots := 0, locals := 75 } D Y RO [.ref h, .ref pa, vI n, vI who] [(h, oC 7 [.ref x, .ref y]), (x, aI (Y 0) 271 g), (y, aI (Y 0) 271 g2)] (fun e w1 => ∃ (xq yq : Nat) (gq hq : Int → Int), e = (canI ps np n who 0 0) ∧ w1 = [(h, oC 7 [.ref xq, .ref yq]), (xq, aI (Y 0) 271 gq), (yq, aI (Y 0) 271 hq)]) := by
  refine j_ofz RX8 rfl rfl rfl (Nat.le_of_ble_eq_true rfl) (fun X C Rt => ?_)
  refine j_iload_n (pc := 0) C 3 3 rfl rfl dX8_canBeWithout_0 ?_
  refine j_if_lt (pc := 1) C 10 rfl (by omega) dX8_canBeWithout_1 (fun h_1p1 => ?_) (fun h_1p1 => ?_)
  · skip
    exfalso; omega
  · skip
    refine j_iload_n (pc := 4) C 3 3 rfl rfl dX8_canBeWithout_4 ?_
    refine j_aload_n (pc := 5) C 1 1 rfl rfl dX8_canBeWithout_5 ?_
    refine j_alenP (pc := 6) C (Or.inr hpa) rfl dX8_canBeWithout_6 ?_
    refine j_icmp_lt (pc := 7) C 12 rfl (by omega) dX8_canBeWithout_7 (fun h_2p7 => ?_) (fun h_2p7 => ?_)
    · skip
      refine j_aload_n (pc := 12) C 1 1 rfl rfl dX8_canBeWithout_12 ?_
      refine j_iload_n (pc := 13) C 3 3 rfl rfl dX8_canBeWithout_13 ?_
      refine j_aaldP (pc := 14) C (Or.inr hpa) rfl (by omega) (by decide) dX8_canBeWithout_14 ?_
      rw [show orow np pad who = some (pad who) from orow_in hwho]
      have hpw := hpc who hwho
      have hPw := hps who hwho
      have hww := hPw.2.2.2.2.1
      refine j_astore (pc := 15) (lc' := [(4, .ref (pad who)), (0, .ref h), (1, .ref pa), (2, vI n), (3, vI who)]) C (by decide) rfl dX8_canBeWithout_15 ?_
      refine j_aload (pc := 17) C 0 rfl dX8_canBeWithout_17 ?_
      refine j_ifnonnull (pc := 19) C 24 rfl dX8_canBeWithout_19 ?_
      refine j_aload_n (pc := 24) C 0 1 rfl rfl dX8_canBeWithout_24 ?_
      refine j_callVv (pc := 25) (As := []) (na := 0) (st := []) C [1] [0, 2] (wr := [(h, oC 7 [.ref x, .ref y]), (y, aI (Y 0) 271 g2)]) (fun l => c_start l D Y _ h x y g (List.mem_append_left _ (List.mem_of_getElem? (i := 0) rfl)) ) rfl rfl rfl rfl (by decide) rfl (Or.inr (List.mem_append_left _ (List.mem_of_getElem? (i := 0) rfl))) rfl gX8_canBeWithout_X8_start ⟨rfl, by decide +kernel⟩ (by decide) rfl rfl (Nat.le_of_ble_eq_true rfl) (by decide) dX8_canBeWithout_25 (fun w_4 h_5 => ?_)
      subst h_5
      refine j_perm (ws' := [(h, oC 7 [.ref x, .ref y]), (x, aI (Y 0) 271 row0), (y, aI (Y 0) 271 g2)]) [0, 2, 1] rfl rfl ?_
      refine j_aload_n (pc := 28) C 0 1 rfl rfl dX8_canBeWithout_28 ?_
      refine j_aload_n (pc := 29) C 1 2 rfl rfl dX8_canBeWithout_29 ?_
      refine j_iload_n (pc := 30) C 3 4 rfl rfl dX8_canBeWithout_30 ?_
      refine j_iconst (pc := 31) C dX8_canBeWithout_31 ?_
      refine j_callVv (pc := 32) (As := [.ref pa, vI who, vI 1]) (na := 3) (st := []) C [0, 1, 2] [] (wr := []) (fun l => c_addAllBut l D Y _ h x y row0 g2 pa pad np ps who 1 (List.mem_append_right _ hpa) (fun i hi => List.mem_append_right _ (hpc i hi)) (by first | assumption | omega) (by first | assumption | omega) (by omega) (by decide) mt_row0) rfl rfl rfl rfl (by decide) rfl (Or.inl (List.mem_of_getElem? (i := 0) rfl)) rfl gX8_canBeWithout_X8_addAllBut ⟨rfl, by decide +kernel⟩ (by decide) rfl rfl (Nat.le_of_ble_eq_true rfl) (by decide) dX8_canBeWithout_32 (fun w_7 h_8 => ?_)
      obtain ⟨xq_9, yq_10, gq_11, hq_12, rfl, hm_13⟩ := h_8
      refine j_perm (ws' := [(h, oC 7 [.ref xq_9, .ref yq_10]), (xq_9, aI (Y 0) 271 gq_11), (yq_10, aI (Y 0) 271 hq_12)]) [0, 1, 2] rfl rfl ?_
      have HM28 := hm_13
      refine j_iconst (pc := 35) C dX8_canBeWithout_35 ?_
      refine j_istore (pc := 36) (lc' := [(5, vI 0), (4, .ref (pad who)), (0, .ref h), (1, .ref pa), (2, vI n), (3, vI who)]) C (by decide) rfl dX8_canBeWithout_36 ?_
      have hL38 : ∀ (N38 : Nat) (j : Int) (x2 : Nat) (y2 : Nat) (u : Int → Int) (u2 : Int → Int), ((pw (ps who) - j).toNat) < N38 → (0 ≤ j ∧ j ≤ pw (ps who)) → (mtI 1 1000 (AC 1 (smQ (BQ ps who np) (DJ (ps who) 0 j))) u) → jW X 6 0 0 [(h, oC 7 [.ref x2, .ref y2]), (x2, aI (Y 0) 271 u), (y2, aI (Y 0) 271 u2)] [(0, .ref h), (1, .ref pa), (2, vI n), (3, vI who), (4, .ref (pad who)), (5, vI j)] 38 [] := by
        intro N38
        induction N38 with
        | zero => intro j x2 y2 u u2 hm38 i38_0 i38_1; omega
        | succ N38 ih38 =>
          intro j x2 y2 u u2 hm38 i38_0 i38_1
          refine j_iload (pc := 38) C 5 rfl dX8_canBeWithout_38 ?_
          refine j_aload (pc := 40) C 4 rfl dX8_canBeWithout_40 ?_
          refine j_getP (pc := 42) C (Or.inr hpw) hPw.1 fX8_canBeWithout_X5 fX8_canBeWithout_X6 fX8_canBeWithout_X7 fX8_canBeWithout_X0 1 (by decide) (List.mem_of_getElem? (i := 1) rfl) (Or.inl rfl) rfl dX8_canBeWithout_42 ?_
          refine j_icmp_ge (pc := 45) C 62 rfl (by omega) dX8_canBeWithout_45 (fun h_14p45 => ?_) (fun h_14p45 => ?_)
          · skip
            refine j_aload_n (pc := 62) C 0 0 rfl rfl dX8_canBeWithout_62 ?_
            refine j_iload_n (pc := 63) C 2 2 rfl rfl dX8_canBeWithout_63 ?_
            refine j_callVi (pc := 64) (As := [vI n]) (na := 1) (st := []) C [] [0, 1, 2] (wr := [(h, oC 7 [.ref x2, .ref y2]), (x2, aI (Y 0) 271 u), (y2, aI (Y 0) 271 u2)]) (fun l => c_costOf l D Y _ h x2 y2 u n (List.mem_append_left _ (List.mem_of_getElem? (i := 0) rfl)) (List.mem_append_left _ (List.mem_of_getElem? (i := 1) rfl)) (by omega)) rfl rfl rfl rfl (by decide) rfl (Or.inr (List.mem_append_left _ (List.mem_of_getElem? (i := 0) rfl))) rfl gX8_canBeWithout_X8_costOf ⟨rfl, by decide +kernel⟩ (by decide) rfl rfl (Nat.le_of_ble_eq_true rfl) (by decide) dX8_canBeWithout_64 (fun e_15 w_16 h_17 => ?_)
            obtain ⟨rfl, rfl⟩ := h_17
            refine j_perm (ws' := [(h, oC 7 [.ref x2, .ref y2]), (x2, aI (Y 0) 271 u), (y2, aI (Y 0) 271 u2)]) [0, 1, 2] rfl rfl ?_
            have hco := can_out (n := n) (ps := ps) hwho (by rw [show pw (ps who) = j by omega]; exact (bQ_up (smQ_b (BQ_bb hwho hps) (DJ_b hPw 0 j)) (show 9 * (np - 1) + j ≤ 54 by omega))) (by rw [show pw (ps who) = j by omega]; exact i38_1)
            have hcc := cost_c (Or.inl rfl) (bQ_up (smQ_b (BQ_bb hwho hps) (DJ_b hPw 0 j)) (show 9 * (np - 1) + j ≤ 54 by omega)) i38_1 n
            refine j_sipush (pc := 67) (w := 1000) C rfl dX8_canBeWithout_67 ?_
            refine j_icmp_eq (pc := 70) C 77 rfl (by omega) dX8_canBeWithout_70 (fun h_18p70 => ?_) (fun h_18p70 => ?_)
            · skip
              refine j_iconst (pc := 77) C dX8_canBeWithout_77 ?_
              exact Rt _ _ _ _ _ _ (by decide) (by decide) (by decide) ⟨_, _, _, _, by rw [hco]; first | (rw [if_pos (by omega)]; done) | (rw [if_neg (by omega)]; done), rfl⟩ dX8_canBeWithout_78
            · skip
              refine j_iconst (pc := 73) C dX8_canBeWithout_73 ?_
              refine j_goto (pc := 74) C 78 rfl dX8_canBeWithout_74 ?_
              exact Rt _ _ _ _ _ _ (by decide) (by decide) (by decide) ⟨_, _, _, _, by rw [hco]; first | (rw [if_pos (by omega)]; done) | (rw [if_neg (by omega)]; done), rfl⟩ dX8_canBeWithout_78
          · skip
            refine j_aload_n (pc := 48) C 0 0 rfl rfl dX8_canBeWithout_48 ?_
            refine j_aload (pc := 49) C 4 rfl dX8_canBeWithout_49 ?_
            refine j_iconst (pc := 51) C dX8_canBeWithout_51 ?_
            refine j_iconst (pc := 52) C dX8_canBeWithout_52 ?_
            refine j_callVv (pc := 53) (As := [.ref (pad who), vI 0, vI 1]) (na := 3) (st := []) C [0, 1, 2] [] (wr := []) (fun l => c_addWalker l D Y _ h x2 y2 u u2 (pad who) (ps who) 0 1 (List.mem_append_right _ hpw) hPw (Or.inl rfl) (by decide) (mt_rng (Or.inl rfl) (bQ_up (smQ_b (BQ_bb hwho hps) (DJ_b hPw 0 j)) (show 9 * (np - 1) + j ≤ 54 by omega)) i38_1)) rfl rfl rfl rfl (by decide) rfl (Or.inl (List.mem_of_getElem? (i := 0) rfl)) rfl gX8_canBeWithout_X8_addWalker ⟨rfl, by decide +kernel⟩ (by decide) rfl rfl (Nat.le_of_ble_eq_true rfl) (by decide) dX8_canBeWithout_53 (fun w_20 h_21 => ?_)
            subst h_21
            refine j_perm (ws' := [(h, oC 7 [.ref y2, .ref x2]), (x2, aI (Y 0) 271 u), (y2, aI (Y 0) 271 (fo (stepF (ps who) 0 1 u) 271 (fun _ => 1000)))]) [0, 1, 2] rfl rfl ?_
            refine j_iinc (pc := 56) (lc' := [(5, vI (j + 1)), (0, .ref h), (1, .ref pa), (2, vI n), (3, vI who), (4, .ref (pad who))]) C 5 rfl (by decide) rfl dX8_canBeWithout_56 ?_
            refine j_goto (pc := 59) C 38 rfl dX8_canBeWithout_59 ?_
            refine j_perm (ws' := [(h, oC 7 [.ref y2, .ref x2]), (y2, aI (Y 0) 271 (fo (stepF (ps who) 0 1 u) 271 (fun _ => 1000))), (x2, aI (Y 0) 271 u)]) [0, 2, 1] rfl rfl ?_
            refine j_locals (lc' := [(0, .ref h), (1, .ref pa), (2, vI n), (3, vI who), (4, .ref (pad who)), (5, vI (j + 1))]) [1, 2, 3, 4, 5, 0] rfl ?_
            exact ih38 (j + 1) y2 x2 (fo (stepF (ps who) 0 1 u) 271 (fun _ => 1000)) u (by omega) (by omega) (by rw [← stQ_sm _ _ _ (by omega)]; exact mt_walk (Or.inl rfl) hPw (bQ_up (smQ_b (BQ_bb hwho hps) (DJ_b hPw 0 j)) (show 9 * (np - 1) + j ≤ 53 by omega)) i38_1)
      refine j_locals (lc' := [(0, .ref h), (1, .ref pa), (2, vI n), (3, vI who), (4, .ref (pad who)), (5, vI 0)]) [2, 3, 4, 5, 1, 0] rfl ?_
      exact hL38 _ 0 xq_9 yq_10 gq_11 hq_12 (Nat.lt_succ_self _) (by omega) (by rw [sm_DJ0]; exact HM28)
    · skip
      exfalso; omega

theorem fX8_canBeWith_X0 : ∀ w ∈ u_ws RX0 TX0 4, w ∈ wsX8_canBeWith := j_words [87, 88, 89, 90] (by decide +kernel)
theorem fX8_canBeWith_X5 : ∀ w ∈ u_ws RX5 TX5 4, w ∈ wsX8_canBeWith := j_words [91, 92, 93, 94] (by decide +kernel)
theorem fX8_canBeWith_X6 : ∀ w ∈ u_ws RX6 TX6 4, w ∈ wsX8_canBeWith := j_words [95, 96, 97, 98] (by decide +kernel)
theorem fX8_canBeWith_X7 : ∀ w ∈ u_ws RX7 TX7 4, w ∈ wsX8_canBeWith := j_words [99, 100, 101, 102] (by decide +kernel)
set_option maxHeartbeats 4000000 in
set_option maxRecDepth 100000 in
theorem c_canBeWith (l : Launch) (D : va_G) (Y : Nat → ClassId) (RO : va_W) (h : Nat) (x : Nat) (y : Nat) (g : Int → Int) (g2 : Int → Int) (pa : Nat) (pad : Int → Nat) (np : Int) (ps : Int → PT) (n : Int) (who : Int) (hpa : (pa, aQ (Y 3) 6 (orow np pad)) ∈ RO) (hpc : ∀ i, 0 ≤ i ∧ i < np → pC (pad i) (ps i) ∈ RO) (hnp : 0 ≤ np ∧ np ≤ 6) (hps : ∀ i, 0 ≤ i ∧ i < np → okP (ps i)) (hn : -54 ≤ n ∧ n ≤ 216) (hwho : 0 ≤ who ∧ who < np) : jMi l yX8_canBeWith wsX8_canBeWith { frames := 3, cells := 0, slots := 0, locals := 75 } D Y RO [.ref h, .ref pa, vI n, vI who] [(h, oC 7 [.ref x, .ref y]), (x, aI (Y 0) 271 g), (y, aI (Y 0) 271 g2)] (fun e w1 => ∃ (xq yq : Nat) (gq hq : Int → Int), e = (canI ps np n who 1 9) ∧ w1 = [(h, oC 7 [.ref xq, .ref yq]), (xq, aI (Y 0) 271 gq), (yq, aI (Y 0) 271 hq)]) := by
  refine j_ofz RX8 rfl rfl rfl (Nat.le_of_ble_eq_true rfl) (fun X C Rt => ?_)
  refine j_iload_n (pc := 0) C 3 3 rfl rfl dX8_canBeWith_0 ?_
  refine j_if_lt (pc := 1) C 10 rfl (by omega) dX8_canBeWith_1 (fun h_1p1 => ?_) (fun h_1p1 => ?_)
  · skip
    exfalso; omega
  · skip
    refine j_iload_n (pc := 4) C 3 3 rfl rfl dX8_canBeWith_4 ?_
    refine j_aload_n (pc := 5) C 1 1 rfl rfl dX8_canBeWith_5 ?_
    refine j_alenP (pc := 6) C (Or.inr hpa) rfl dX8_canBeWith_6 ?_
    refine j_icmp_lt (pc := 7) C 12 rfl (by omega) dX8_canBeWith_7 (fun h_2p7 => ?_) (fun h_2p7 => ?_)
    · skip
      refine j_aload_n (pc := 12) C 1 1 rfl rfl dX8_canBeWith_12 ?_
      refine j_iload_n (pc := 13) C 3 3 rfl rfl dX8_canBeWith_13 ?_
      refine j_aaldP (pc := 14) C (Or.inr hpa) rfl (by omega) (by decide) dX8_canBeWith_14 ?_
      rw [show orow np pad who = some (pad who) from orow_in hwho]
      have hpw := hpc who hwho
      have hPw := hps who hwho
      have hww := hPw.2.2.2.2.1
      refine j_astore (pc := 15) (lc' := [(4, .ref (pad who)), (0, .ref h), (1, .ref pa), (2, vI n), (3, vI who)]) C (by decide) rfl dX8_canBeWith_15 ?_
      refine j_aload (pc := 17) C 0 rfl dX8_canBeWith_17 ?_
      refine j_ifnull (pc := 19) C dX8_canBeWith_19 ?_
      refine j_aload (pc := 22) C 0 rfl dX8_canBeWith_22 ?_
      have kk_3 : jW X 6 0 0 [(h, oC 7 [.ref x, .ref y]), (x, aI (Y 0) 271 g), (y, aI (Y 0) 271 g2)] [(4, .ref (pad who)), (0, .ref h), (1, .ref pa), (2, vI n), (3, vI who)] 27 [vI (if pi (ps who) < 10 ∧ 0 < pz (ps who) then 1 else 0)] := by
        refine j_if_neb (pc := 27) C 32 rfl dX8_canBeWith_27 (fun h_4p27 => ?_) (fun h_4p27 => ?_)
        · skip
          have hzz : pi (ps who) < 10 ∧ 0 < pz (ps who) := by omega
          refine j_aload_n (pc := 32) C 0 1 rfl rfl dX8_canBeWith_32 ?_
          refine j_callVv (pc := 33) (As := []) (na := 0) (st := []) C [1] [0, 2] (wr := [(h, oC 7 [.ref x, .ref y]), (y, aI (Y 0) 271 g2)]) (fun l => c_start l D Y _ h x y g (List.mem_append_left _ (List.mem_of_getElem? (i := 0) rfl)) ) rfl rfl rfl rfl (by decide) rfl (Or.inr (List.mem_append_left _ (List.mem_of_getElem? (i := 0) rfl))) rfl gX8_canBeWith_X8_start ⟨rfl, by decide +kernel⟩ (by decide) rfl rfl (Nat.le_of_ble_eq_true rfl) (by decide) dX8_canBeWith_33 (fun w_6 h_7 => ?_)
          subst h_7
          refine j_perm (ws' := [(h, oC 7 [.ref x, .ref y]), (x, aI (Y 0) 271 row0), (y, aI (Y 0) 271 g2)]) [0, 2, 1] rfl rfl ?_
          refine j_aload_n (pc := 36) C 0 1 rfl rfl dX8_canBeWith_36 ?_
          refine j_aload_n (pc := 37) C 1 2 rfl rfl dX8_canBeWith_37 ?_
          refine j_iload_n (pc := 38) C 3 4 rfl rfl dX8_canBeWith_38 ?_
          refine j_iconst (pc := 39) C dX8_canBeWith_39 ?_
          refine j_callVv (pc := 40) (As := [.ref pa, vI who, vI 1]) (na := 3) (st := []) C [0, 1, 2] [] (wr := []) (fun l => c_addAllBut l D Y _ h x y row0 g2 pa pad np ps who 1 (List.mem_append_right _ hpa) (fun i hi => List.mem_append_right _ (hpc i hi)) (by first | assumption | omega) (by first | assumption | omega) (by omega) (by decide) mt_row0) rfl rfl rfl rfl (by decide) rfl (Or.inl (List.mem_of_getElem? (i := 0) rfl)) rfl gX8_canBeWith_X8_addAllBut ⟨rfl, by decide +kernel⟩ (by decide) rfl rfl (Nat.le_of_ble_eq_true rfl) (by decide) dX8_canBeWith_40 (fun w_9 h_10 => ?_)
          obtain ⟨xq_11, yq_12, gq_13, hq_14, rfl, hm_15⟩ := h_10
          refine j_perm (ws' := [(h, oC 7 [.ref xq_11, .ref yq_12]), (xq_11, aI (Y 0) 271 gq_13), (yq_12, aI (Y 0) 271 hq_14)]) [0, 1, 2] rfl rfl ?_
          have HM28 := hm_15
          refine j_iconst (pc := 43) C dX8_canBeWith_43 ?_
          refine j_istore (pc := 44) (lc' := [(5, vI 1), (4, .ref (pad who)), (0, .ref h), (1, .ref pa), (2, vI n), (3, vI who)]) C (by decide) rfl dX8_canBeWith_44 ?_
          have hL46 : ∀ (N46 : Nat) (j : Int) (x2 : Nat) (y2 : Nat) (u : Int → Int) (u2 : Int → Int), ((pw (ps who) - j).toNat) < N46 → (1 ≤ j ∧ j ≤ pw (ps who)) → (mtI 1 1000 (AC 1 (smQ (BQ ps who np) (DJ (ps who) 1 (j - 1)))) u) → jW X 6 0 0 [(h, oC 7 [.ref x2, .ref y2]), (x2, aI (Y 0) 271 u), (y2, aI (Y 0) 271 u2)] [(0, .ref h), (1, .ref pa), (2, vI n), (3, vI who), (4, .ref (pad who)), (5, vI j)] 46 [] := by
            intro N46
            induction N46 with
            | zero => intro j x2 y2 u u2 hm46 i46_0 i46_1; omega
            | succ N46 ih46 =>
              intro j x2 y2 u u2 hm46 i46_0 i46_1
              refine j_iload (pc := 46) C 5 rfl dX8_canBeWith_46 ?_
              refine j_aload (pc := 48) C 4 rfl dX8_canBeWith_48 ?_
              refine j_getP (pc := 50) C (Or.inr hpw) hPw.1 fX8_canBeWith_X5 fX8_canBeWith_X6 fX8_canBeWith_X7 fX8_canBeWith_X0 1 (by decide) (List.mem_of_getElem? (i := 1) rfl) (Or.inl rfl) rfl dX8_canBeWith_50 ?_
              refine j_icmp_ge (pc := 53) C 70 rfl (by omega) dX8_canBeWith_53 (fun h_16p53 => ?_) (fun h_16p53 => ?_)
              · skip
                have hll := lossP_in (ps who)
                refine j_aload_n (pc := 70) C 0 0 rfl rfl dX8_canBeWith_70 ?_
                refine j_iload_n (pc := 71) C 2 2 rfl rfl dX8_canBeWith_71 ?_
                refine j_aload (pc := 72) C 4 rfl dX8_canBeWith_72 ?_
                have kk_17 : jW X 6 0 0 [(h, oC 7 [.ref x2, .ref y2]), (x2, aI (Y 0) 271 u), (y2, aI (Y 0) 271 u2)] [(0, .ref h), (1, .ref pa), (2, vI n), (3, vI who), (4, .ref (pad who)), (5, vI j)] 77 [vI (lossP (ps who)), vI n, .ref h] := by
                  refine j_iadd (pc := 77) C dX8_canBeWith_77 ?_
                  refine j_callVi (pc := 78) (As := [vI (n + lossP (ps who))]) (na := 1) (st := []) C [] [0, 1, 2] (wr := [(h, oC 7 [.ref x2, .ref y2]), (x2, aI (Y 0) 271 u), (y2, aI (Y 0) 271 u2)]) (fun l => c_costOf l D Y _ h x2 y2 u (n + lossP (ps who)) (List.mem_append_left _ (List.mem_of_getElem? (i := 0) rfl)) (List.mem_append_left _ (List.mem_of_getElem? (i := 1) rfl)) (by omega)) rfl rfl rfl rfl (by decide) rfl (Or.inr (List.mem_append_left _ (List.mem_of_getElem? (i := 0) rfl))) rfl gX8_canBeWith_X8_costOf ⟨rfl, by decide +kernel⟩ (by decide) rfl rfl (Nat.le_of_ble_eq_true rfl) (by decide) dX8_canBeWith_78 (fun e_18 w_19 h_20 => ?_)
                  obtain ⟨rfl, rfl⟩ := h_20
                  refine j_perm (ws' := [(h, oC 7 [.ref x2, .ref y2]), (x2, aI (Y 0) 271 u), (y2, aI (Y 0) 271 u2)]) [0, 1, 2] rfl rfl ?_
                  have hco := can_in (n := n) (ps := ps) hwho hPw hzz (by rw [show pw (ps who) - 1 = j - 1 by omega]; exact (bQ_up (smQ_b (BQ_bb hwho hps) (DJ_b hPw 1 (j - 1))) (show 9 * (np - 1) + (j - 1) ≤ 54 by omega))) (by rw [show pw (ps who) - 1 = j - 1 by omega]; exact i46_1)
                  have hcc := cost_c (Or.inl rfl) (bQ_up (smQ_b (BQ_bb hwho hps) (DJ_b hPw 1 (j - 1))) (show 9 * (np - 1) + (j - 1) ≤ 54 by omega)) i46_1 (n + lossP (ps who))
                  refine j_sipush (pc := 81) (w := 1000) C rfl dX8_canBeWith_81 ?_
                  refine j_icmp_eq (pc := 84) C 91 rfl (by omega) dX8_canBeWith_84 (fun h_21p84 => ?_) (fun h_21p84 => ?_)
                  · skip
                    refine j_iconst (pc := 91) C dX8_canBeWith_91 ?_
                    exact Rt _ _ _ _ _ _ (by decide) (by decide) (by decide) ⟨_, _, _, _, by rw [hco]; first | (rw [if_pos (by omega)]; done) | (rw [if_neg (by omega)]; done), rfl⟩ dX8_canBeWith_92
                  · skip
                    refine j_iconst (pc := 87) C dX8_canBeWith_87 ?_
                    refine j_goto (pc := 88) C 92 rfl dX8_canBeWith_88 ?_
                    exact Rt _ _ _ _ _ _ (by decide) (by decide) (by decide) ⟨_, _, _, _, by rw [hco]; first | (rw [if_pos (by omega)]; done) | (rw [if_neg (by omega)]; done), rfl⟩ dX8_canBeWith_92
                rcases (show pk (ps who) = 0 ∨ pk (ps who) = 1 ∨ pk (ps who) = 2 ∨ pk (ps who) = 3 by have := hPw.1; omega) with h_22 | h_22 | h_22 | h_22
                · have hpm := hpw
                  rw [pC_0 h_22] at hpm
                  refine j_callVi (pc := 74) (As := []) (na := 0) (st := [vI n, .ref h]) C [] [0, 1, 2] (wr := [(h, oC 7 [.ref x2, .ref y2]), (x2, aI (Y 0) 271 u), (y2, aI (Y 0) 271 u2)]) (fun l => c_X5_loss l D Y _ (pad who)  ) rfl rfl rfl rfl (by decide) rfl (Or.inr (List.mem_append_right _ hpm)) rfl gX8_canBeWith_X5_loss ⟨rfl, by decide +kernel⟩ (by decide) rfl rfl (Nat.le_of_ble_eq_true rfl) (by decide) dX8_canBeWith_74 (fun e w1 hq => ?_)
                  obtain ⟨rfl, rfl⟩ := hq
                  refine j_perm (ws' := [(h, oC 7 [.ref x2, .ref y2]), (x2, aI (Y 0) 271 u), (y2, aI (Y 0) 271 u2)]) [0, 1, 2] rfl rfl ?_
                  exact j_st rfl rfl (by unfold lossP; simp [h_22]) kk_17
                · have hpm := hpw
                  rw [pC_1 h_22] at hpm
                  refine j_callUi (pc := 74) (As := []) (na := 0) (st := [vI n, .ref h]) C [] [0, 1, 2] (wr := [(h, oC 7 [.ref x2, .ref y2]), (x2, aI (Y 0) 271 u), (y2, aI (Y 0) 271 u2)]) (fun l => c_X5_loss l D Y _ (pad who)  ) rfl rfl rfl rfl (by decide) rfl (Or.inr (List.mem_append_right _ hpm)) rfl gX8_canBeWith_X5_loss_u54X6 rfl (by decide +kernel) (by decide) rfl rfl (Nat.le_of_ble_eq_true rfl) (by decide) dX8_canBeWith_74 (fun e w1 hq => ?_)
                  obtain ⟨rfl, rfl⟩ := hq
                  refine j_perm (ws' := [(h, oC 7 [.ref x2, .ref y2]), (x2, aI (Y 0) 271 u), (y2, aI (Y 0) 271 u2)]) [0, 1, 2] rfl rfl ?_
                  exact j_st rfl rfl (by unfold lossP; simp [h_22]) kk_17
                · have hpm := hpw
                  rw [pC_2 h_22] at hpm
                  refine j_callOi (pc := 74) (As := []) (na := 0) (st := [vI n, .ref h]) C [] [0, 1, 2] (wr := [(h, oC 7 [.ref x2, .ref y2]), (x2, aI (Y 0) 271 u), (y2, aI (Y 0) 271 u2)]) (fun l => c_X7_loss l D Y _ (pad who)  ) rfl rfl rfl rfl (by decide) rfl (Or.inr (List.mem_append_right _ hpm)) rfl gX8_canBeWith_X7_loss_u54X7 (List.mem_of_getElem? (i := 68) rfl) (by decide +kernel) (by decide) rfl rfl (Nat.le_of_ble_eq_true rfl) (by decide) dX8_canBeWith_74 (fun e w1 hq => ?_)
                  obtain ⟨rfl, rfl⟩ := hq
                  refine j_perm (ws' := [(h, oC 7 [.ref x2, .ref y2]), (x2, aI (Y 0) 271 u), (y2, aI (Y 0) 271 u2)]) [0, 1, 2] rfl rfl ?_
                  exact j_st rfl rfl (by unfold lossP; simp [h_22]) kk_17
                · have hpm := hpw
                  rw [pC_3 h_22] at hpm
                  refine j_callOi (pc := 74) (As := []) (na := 0) (st := [vI n, .ref h]) C [] [0, 1, 2] (wr := [(h, oC 7 [.ref x2, .ref y2]), (x2, aI (Y 0) 271 u), (y2, aI (Y 0) 271 u2)]) (fun l => c_X7_loss l D Y _ (pad who)  ) rfl rfl rfl rfl (by decide) rfl (Or.inr (List.mem_append_right _ hpm)) rfl gX8_canBeWith_X7_loss_u54X0 (List.mem_of_getElem? (i := 68) rfl) (by decide +kernel) (by decide) rfl rfl (Nat.le_of_ble_eq_true rfl) (by decide) dX8_canBeWith_74 (fun e w1 hq => ?_)
                  obtain ⟨rfl, rfl⟩ := hq
                  refine j_perm (ws' := [(h, oC 7 [.ref x2, .ref y2]), (x2, aI (Y 0) 271 u), (y2, aI (Y 0) 271 u2)]) [0, 1, 2] rfl rfl ?_
                  exact j_st rfl rfl (by unfold lossP; simp [h_22]) kk_17
              · skip
                refine j_aload_n (pc := 56) C 0 0 rfl rfl dX8_canBeWith_56 ?_
                refine j_aload (pc := 57) C 4 rfl dX8_canBeWith_57 ?_
                refine j_iconst (pc := 59) C dX8_canBeWith_59 ?_
                refine j_iconst (pc := 60) C dX8_canBeWith_60 ?_
                refine j_callVv (pc := 61) (As := [.ref (pad who), vI 1, vI 1]) (na := 3) (st := []) C [0, 1, 2] [] (wr := []) (fun l => c_addWalker l D Y _ h x2 y2 u u2 (pad who) (ps who) 1 1 (List.mem_append_right _ hpw) hPw (Or.inr rfl) (by decide) (mt_rng (Or.inl rfl) (bQ_up (smQ_b (BQ_bb hwho hps) (DJ_b hPw 1 (j - 1))) (show 9 * (np - 1) + (j - 1) ≤ 54 by omega)) i46_1)) rfl rfl rfl rfl (by decide) rfl (Or.inl (List.mem_of_getElem? (i := 0) rfl)) rfl gX8_canBeWith_X8_addWalker ⟨rfl, by decide +kernel⟩ (by decide) rfl rfl (Nat.le_of_ble_eq_true rfl) (by decide) dX8_canBeWith_61 (fun w_24 h_25 => ?_)
                subst h_25
                refine j_perm (ws' := [(h, oC 7 [.ref y2, .ref x2]), (x2, aI (Y 0) 271 u), (y2, aI (Y 0) 271 (fo (stepF (ps who) 1 1 u) 271 (fun _ => 1000)))]) [0, 1, 2] rfl rfl ?_
                refine j_iinc (pc := 64) (lc' := [(5, vI (j + 1)), (0, .ref h), (1, .ref pa), (2, vI n), (3, vI who), (4, .ref (pad who))]) C 5 rfl (by decide) rfl dX8_canBeWith_64 ?_
                refine j_goto (pc := 67) C 46 rfl dX8_canBeWith_67 ?_
                refine j_perm (ws' := [(h, oC 7 [.ref y2, .ref x2]), (y2, aI (Y 0) 271 (fo (stepF (ps who) 1 1 u) 271 (fun _ => 1000))), (x2, aI (Y 0) 271 u)]) [0, 2, 1] rfl rfl ?_
                refine j_locals (lc' := [(0, .ref h), (1, .ref pa), (2, vI n), (3, vI who), (4, .ref (pad who)), (5, vI (j + 1))]) [1, 2, 3, 4, 5, 0] rfl ?_
                exact ih46 (j + 1) y2 x2 (fo (stepF (ps who) 1 1 u) 271 (fun _ => 1000)) u (by omega) (by omega) (by rw [show j + 1 - 1 = (j - 1) + 1 by omega, ← stQ_sm _ _ _ (by omega)]; exact mt_walk (Or.inl rfl) hPw (bQ_up (smQ_b (BQ_bb hwho hps) (DJ_b hPw 1 (j - 1))) (show 9 * (np - 1) + (j - 1) ≤ 53 by omega)) i46_1)
          refine j_locals (lc' := [(0, .ref h), (1, .ref pa), (2, vI n), (3, vI who), (4, .ref (pad who)), (5, vI 1)]) [2, 3, 4, 5, 1, 0] rfl ?_
          exact hL46 _ 1 xq_11 yq_12 gq_13 hq_14 (Nat.lt_succ_self _) (by omega) (by rw [show (1 : Int) - 1 = 0 by decide, sm_DJ0]; exact HM28)
        · skip
          refine j_iconst (pc := 30) C dX8_canBeWith_30 ?_
          exact Rt _ _ _ _ _ _ (by decide) (by decide) (by decide) ⟨_, _, _, _, by rw [can_in0 hwho hPw (by omega)], rfl⟩ dX8_canBeWith_31
      rcases (show pk (ps who) = 0 ∨ pk (ps who) = 1 ∨ pk (ps who) = 2 ∨ pk (ps who) = 3 by have := hPw.1; omega) with h_26 | h_26 | h_26 | h_26
      · have hpm := hpw
        rw [pC_0 h_26] at hpm
        refine j_callVi (pc := 24) (As := []) (na := 0) (st := []) C [] [0, 1, 2] (wr := [(h, oC 7 [.ref x, .ref y]), (x, aI (Y 0) 271 g), (y, aI (Y 0) 271 g2)]) (fun l => c_canSin l D Y _ (pad who) (ps who) (List.mem_append_right _ hpw) hPw) rfl rfl rfl rfl (by decide) rfl (Or.inr (List.mem_append_right _ hpm)) rfl gX8_canBeWith_X5_canSin ⟨rfl, by decide +kernel⟩ (by decide) rfl rfl (Nat.le_of_ble_eq_true rfl) (by decide) dX8_canBeWith_24 (fun e w1 hq => ?_)
        obtain ⟨rfl, rfl⟩ := hq
        refine j_perm (ws' := [(h, oC 7 [.ref x, .ref y]), (x, aI (Y 0) 271 g), (y, aI (Y 0) 271 g2)]) [0, 1, 2] rfl rfl ?_
        exact j_st rfl rfl (by rfl) kk_3
      · have hpm := hpw
        rw [pC_1 h_26] at hpm
        refine j_callUi (pc := 24) (As := []) (na := 0) (st := []) C [] [0, 1, 2] (wr := [(h, oC 7 [.ref x, .ref y]), (x, aI (Y 0) 271 g), (y, aI (Y 0) 271 g2)]) (fun l => c_canSin l D Y _ (pad who) (ps who) (List.mem_append_right _ hpw) hPw) rfl rfl rfl rfl (by decide) rfl (Or.inr (List.mem_append_right _ hpm)) rfl gX8_canBeWith_X5_canSin_u50X6 rfl (by decide +kernel) (by decide) rfl rfl (Nat.le_of_ble_eq_true rfl) (by decide) dX8_canBeWith_24 (fun e w1 hq => ?_)
        obtain ⟨rfl, rfl⟩ := hq
        refine j_perm (ws' := [(h, oC 7 [.ref x, .ref y]), (x, aI (Y 0) 271 g), (y, aI (Y 0) 271 g2)]) [0, 1, 2] rfl rfl ?_
        exact j_st rfl rfl (by rfl) kk_3
      · have hpm := hpw
        rw [pC_2 h_26] at hpm
        refine j_callUi (pc := 24) (As := []) (na := 0) (st := []) C [] [0, 1, 2] (wr := [(h, oC 7 [.ref x, .ref y]), (x, aI (Y 0) 271 g), (y, aI (Y 0) 271 g2)]) (fun l => c_canSin l D Y _ (pad who) (ps who) (List.mem_append_right _ hpw) hPw) rfl rfl rfl rfl (by decide) rfl (Or.inr (List.mem_append_right _ hpm)) rfl gX8_canBeWith_X5_canSin_u50X7 rfl (by decide +kernel) (by decide) rfl rfl (Nat.le_of_ble_eq_true rfl) (by decide) dX8_canBeWith_24 (fun e w1 hq => ?_)
        obtain ⟨rfl, rfl⟩ := hq
        refine j_perm (ws' := [(h, oC 7 [.ref x, .ref y]), (x, aI (Y 0) 271 g), (y, aI (Y 0) 271 g2)]) [0, 1, 2] rfl rfl ?_
        exact j_st rfl rfl (by rfl) kk_3
      · have hpm := hpw
        rw [pC_3 h_26] at hpm
        refine j_callUi (pc := 24) (As := []) (na := 0) (st := []) C [] [0, 1, 2] (wr := [(h, oC 7 [.ref x, .ref y]), (x, aI (Y 0) 271 g), (y, aI (Y 0) 271 g2)]) (fun l => c_canSin l D Y _ (pad who) (ps who) (List.mem_append_right _ hpw) hPw) rfl rfl rfl rfl (by decide) rfl (Or.inr (List.mem_append_right _ hpm)) rfl gX8_canBeWith_X5_canSin_u50X0 rfl (by decide +kernel) (by decide) rfl rfl (Nat.le_of_ble_eq_true rfl) (by decide) dX8_canBeWith_24 (fun e w1 hq => ?_)
        obtain ⟨rfl, rfl⟩ := hq
        refine j_perm (ws' := [(h, oC 7 [.ref x, .ref y]), (x, aI (Y 0) 271 g), (y, aI (Y 0) 271 g2)]) [0, 1, 2] rfl rfl ?_
        exact j_st rfl rfl (by rfl) kk_3
    · skip
      exfalso; omega

set_option maxHeartbeats 4000000 in
set_option maxRecDepth 100000 in
theorem c_whoMust (l : Launch) (D : va_G) (Y : Nat → ClassId) (RO : va_W) (h : Nat) (x : Nat) (y : Nat) (g : Int → Int) (g2 : Int → Int) (pa : Nat) (pad : Int → Nat) (np : Int) (ps : Int → PT) (n : Int) (hpa : (pa, aQ (Y 3) 6 (orow np pad)) ∈ RO) (hpc : ∀ i, 0 ≤ i ∧ i < np → pC (pad i) (ps i) ∈ RO) (hnp : 0 ≤ np ∧ np ≤ 6) (hps : ∀ i, 0 ≤ i ∧ i < np → okP (ps i)) (hn : -54 ≤ n ∧ n ≤ 216) : jMi l yX8_whoMust wsX8_whoMust { frames := 4, cells := 0, slots := 0, locals := 100 } D Y RO [.ref h, .ref pa, vI n] [(h, oC 7 [.ref x, .ref y]), (x, aI (Y 0) 271 g), (y, aI (Y 0) 271 g2)] (fun e w1 => ∃ (xq yq : Nat) (gq hq : Int → Int), e = (if canI ps np n (-1) 0 0 = 0 then 0 else fo (mustF ps np n) np 0) ∧ w1 = [(h, oC 7 [.ref xq, .ref yq]), (xq, aI (Y 0) 271 gq), (yq, aI (Y 0) 271 hq)]) := by
  refine j_ofi RX8 rfl rfl rfl (Nat.le_of_ble_eq_true rfl) (fun X C Rt => ?_)
  refine j_aload_n (pc := 0) C 0 0 rfl rfl dX8_whoMust_0 ?_
  refine j_aload_n (pc := 1) C 1 1 rfl rfl dX8_whoMust_1 ?_
  refine j_iload_n (pc := 2) C 2 2 rfl rfl dX8_whoMust_2 ?_
  refine j_iconst (pc := 3) C dX8_whoMust_3 ?_
  refine j_callVi (pc := 4) (As := [.ref pa, vI n, vI 1]) (na := 3) (st := []) C [0, 1, 2] [] (wr := []) (fun l => c_leastCost l D Y _ h x y g g2 pa pad np ps n 1 (List.mem_append_right _ hpa) (fun i hi => List.mem_append_right _ (hpc i hi)) (by first | assumption | omega) (by first | assumption | omega) (by first | assumption | omega) (by decide)) rfl rfl rfl rfl (by decide) rfl (Or.inl (List.mem_of_getElem? (i := 0) rfl)) rfl gX8_whoMust_X8_leastCost ⟨rfl, by decide +kernel⟩ (by decide) rfl rfl (Nat.le_of_ble_eq_true rfl) (by decide) dX8_whoMust_4 (fun e_1 w_2 h_3 => ?_)
  obtain ⟨xq_4, yq_5, gq_6, hq_7, rfl, rfl, hm_8⟩ := h_3
  refine j_perm (ws' := [(h, oC 7 [.ref xq_4, .ref yq_5]), (xq_4, aI (Y 0) 271 gq_6), (yq_5, aI (Y 0) 271 hq_7)]) [0, 1, 2] rfl rfl ?_
  have hm4 := hm_8
  have hcc := cost_c (Or.inl rfl) (bQ_up (BQ_b (but := -1) hnp.1 hps) (show 9 * np ≤ 54 by omega)) hm4 n
  have hca := can_all (n := n) hnp (Or.inl rfl) (bQ_up (BQ_b (but := -1) hnp.1 hps) (show 9 * np ≤ 54 by omega)) hm4
  refine j_sipush (pc := 7) (w := 1000) C rfl dX8_whoMust_7 ?_
  refine j_icmp_ne (pc := 10) C 15 rfl (by omega) dX8_whoMust_10 (fun h_9p10 => ?_) (fun h_9p10 => ?_)
  · skip
    refine j_iconst (pc := 15) C dX8_whoMust_15 ?_
    refine j_istore_n (pc := 16) (lc' := [(3, vI 0), (0, .ref h), (1, .ref pa), (2, vI n)]) C 3 rfl (by decide) rfl dX8_whoMust_16 ?_
    refine j_iconst (pc := 17) C dX8_whoMust_17 ?_
    refine j_istore (pc := 18) (lc' := [(4, vI 0), (3, vI 0), (0, .ref h), (1, .ref pa), (2, vI n)]) C (by decide) rfl dX8_whoMust_18 ?_
    have hL20 : ∀ (N20 : Nat) (i : Int) (b : Int) (x1 : Nat) (y1 : Nat) (z : Int → Int) (z2 : Int → Int), ((6 - i).toNat) < N20 → (0 ≤ i ∧ i ≤ 6) → (b = fo (mustF ps np n) (if i < np then i else np) 0) → (-2147483648 ≤ b ∧ b ≤ 2147483647) → jW X 5 0 0 [(h, oC 7 [.ref x1, .ref y1]), (x1, aI (Y 0) 271 z), (y1, aI (Y 0) 271 z2)] [(0, .ref h), (1, .ref pa), (2, vI n), (3, vI b), (4, vI i)] 20 [] := by
      intro N20
      induction N20 with
      | zero => intro i b x1 y1 z z2 hm20 i20_0 i20_1 i20_2; omega
      | succ N20 ih20 =>
        intro i b x1 y1 z z2 hm20 i20_0 i20_1 i20_2
        refine j_iload (pc := 20) C 4 rfl dX8_whoMust_20 ?_
        refine j_aload_n (pc := 22) C 1 1 rfl rfl dX8_whoMust_22 ?_
        refine j_alenP (pc := 23) C (Or.inr hpa) rfl dX8_whoMust_23 ?_
        refine j_icmp_ge (pc := 24) C 58 rfl (by omega) dX8_whoMust_24 (fun h_10p24 => ?_) (fun h_10p24 => ?_)
        · skip
          refine j_iload_n (pc := 58) C 3 3 rfl rfl dX8_whoMust_58 ?_
          exact Rt _ _ _ _ _ _ (by decide) (by decide) ⟨_, _, _, _, by rw [if_neg (show ¬ canI ps np n (-1) 0 0 = 0 by rw [hca, if_neg (by omega)]; decide), i20_1]; congr 1; split <;> omega, rfl⟩ dX8_whoMust_59
        · skip
          refine j_aload_n (pc := 27) C 1 1 rfl rfl dX8_whoMust_27 ?_
          refine j_iload (pc := 28) C 4 rfl dX8_whoMust_28 ?_
          refine j_aaldP (pc := 30) C (Or.inr hpa) rfl (by omega) (by decide) dX8_whoMust_30 ?_
          by_cases hq_11 : i < np
          · rw [show orow np pad i = some (pad i) from orow_in ⟨by omega, hq_11⟩]
            have hp11 := hpc i ⟨by omega, hq_11⟩
            have hP11 := hps i ⟨by omega, hq_11⟩
            have hw11 := hP11.2.2.2.2.1
            refine j_ifnull (pc := 31) C dX8_whoMust_31 ?_
            refine j_aload_n (pc := 34) C 0 0 rfl rfl dX8_whoMust_34 ?_
            refine j_aload_n (pc := 35) C 1 1 rfl rfl dX8_whoMust_35 ?_
            refine j_iload_n (pc := 36) C 2 2 rfl rfl dX8_whoMust_36 ?_
            refine j_iload (pc := 37) C 4 rfl dX8_whoMust_37 ?_
            refine j_callVi (pc := 39) (As := [.ref pa, vI n, vI i]) (na := 3) (st := []) C [0, 1, 2] [] (wr := []) (fun l => c_canBeWithout l D Y _ h x1 y1 z z2 pa pad np ps n i (List.mem_append_right _ hpa) (fun i hi => List.mem_append_right _ (hpc i hi)) (by first | assumption | omega) (by first | assumption | omega) (by first | assumption | omega) (by omega)) rfl rfl rfl rfl (by decide) rfl (Or.inl (List.mem_of_getElem? (i := 0) rfl)) rfl gX8_whoMust_X8_canBeWithout ⟨rfl, by decide +kernel⟩ (by decide) rfl rfl (Nat.le_of_ble_eq_true rfl) (by decide) dX8_whoMust_39 (fun e_12 w_13 h_14 => ?_)
            obtain ⟨xq_15, yq_16, gq_17, hq_18, rfl, rfl⟩ := h_14
            refine j_perm (ws' := [(h, oC 7 [.ref xq_15, .ref yq_16]), (xq_15, aI (Y 0) 271 gq_17), (yq_16, aI (Y 0) 271 hq_18)]) [0, 1, 2] rfl rfl ?_
            have hcI := canI_c ps np n i 0 0
            refine j_if_ne (pc := 42) C 52 rfl (by omega) dX8_whoMust_42 (fun h_19p42 => ?_) (fun h_19p42 => ?_)
            · skip
              refine j_iinc (pc := 52) (lc' := [(4, vI (i + 1)), (0, .ref h), (1, .ref pa), (2, vI n), (3, vI b)]) C 4 rfl (by decide) rfl dX8_whoMust_52 ?_
              refine j_goto (pc := 55) C 20 rfl dX8_whoMust_55 ?_
              refine j_locals (lc' := [(0, .ref h), (1, .ref pa), (2, vI n), (3, vI b), (4, vI (i + 1))]) [1, 2, 3, 4, 0] rfl ?_
              exact ih20 (i + 1) b xq_15 yq_16 gq_17 hq_18 (by omega) (by omega) (by first | (rw [if_neg (by omega)]; rw [if_neg (by omega)] at i20_1; exact i20_1) | (rw [show (if i + 1 < np then i + 1 else np) = i + 1 by split <;> omega, fo_succ _ (by omega)]; rw [if_pos (by omega)] at i20_1; rw [← i20_1]; first | rw [mustF_y (by omega)] | rw [mustF_n (by omega) i20_2])) (by first | omega | exact orI_in _ _)
            · skip
              refine j_iload_n (pc := 45) C 3 3 rfl rfl dX8_whoMust_45 ?_
              refine j_iconst (pc := 46) C dX8_whoMust_46 ?_
              refine j_iload (pc := 47) C 4 rfl dX8_whoMust_47 ?_
              refine j_ishl (pc := 49) C dX8_whoMust_49 ?_
              refine j_ior (pc := 50) C dX8_whoMust_50 ?_
              refine j_istore_n (pc := 51) (lc' := [(3, vI (orI b (shlI 1 i))), (0, .ref h), (1, .ref pa), (2, vI n), (4, vI i)]) C 3 rfl (by decide) rfl dX8_whoMust_51 ?_
              refine j_iinc (pc := 52) (lc' := [(4, vI (i + 1)), (3, vI (orI b (shlI 1 i))), (0, .ref h), (1, .ref pa), (2, vI n)]) C 4 rfl (by decide) rfl dX8_whoMust_52 ?_
              refine j_goto (pc := 55) C 20 rfl dX8_whoMust_55 ?_
              refine j_locals (lc' := [(0, .ref h), (1, .ref pa), (2, vI n), (3, vI (orI b (shlI 1 i))), (4, vI (i + 1))]) [2, 3, 4, 1, 0] rfl ?_
              exact ih20 (i + 1) (orI b (shlI 1 i)) xq_15 yq_16 gq_17 hq_18 (by omega) (by omega) (by first | (rw [if_neg (by omega)]; rw [if_neg (by omega)] at i20_1; exact i20_1) | (rw [show (if i + 1 < np then i + 1 else np) = i + 1 by split <;> omega, fo_succ _ (by omega)]; rw [if_pos (by omega)] at i20_1; rw [← i20_1]; first | rw [mustF_y (by omega)] | rw [mustF_n (by omega) i20_2])) (by first | omega | exact orI_in _ _)
          · rw [show orow np pad i = none from orow_out (by omega)]
            refine j_ifnullN (pc := 31) C 52 rfl dX8_whoMust_31 ?_
            refine j_iinc (pc := 52) (lc' := [(4, vI (i + 1)), (0, .ref h), (1, .ref pa), (2, vI n), (3, vI b)]) C 4 rfl (by decide) rfl dX8_whoMust_52 ?_
            refine j_goto (pc := 55) C 20 rfl dX8_whoMust_55 ?_
            refine j_locals (lc' := [(0, .ref h), (1, .ref pa), (2, vI n), (3, vI b), (4, vI (i + 1))]) [1, 2, 3, 4, 0] rfl ?_
            exact ih20 (i + 1) b x1 y1 z z2 (by omega) (by omega) (by first | (rw [if_neg (by omega)]; rw [if_neg (by omega)] at i20_1; exact i20_1) | (rw [show (if i + 1 < np then i + 1 else np) = i + 1 by split <;> omega, fo_succ _ (by omega)]; rw [if_pos (by omega)] at i20_1; rw [← i20_1]; first | rw [mustF_y (by omega)] | rw [mustF_n (by omega) i20_2])) (by first | omega | exact orI_in _ _)
    refine j_locals (lc' := [(0, .ref h), (1, .ref pa), (2, vI n), (3, vI 0), (4, vI 0)]) [2, 3, 4, 1, 0] rfl ?_
    exact hL20 _ 0 0 xq_4 yq_5 gq_6 hq_7 (Nat.lt_succ_self _) (by omega) (by rw [show (if (0 : Int) < np then 0 else np) = 0 by split <;> omega]; rfl) (by decide)
  · skip
    refine j_iconst (pc := 13) C dX8_whoMust_13 ?_
    exact Rt _ _ _ _ _ _ (by decide) (by decide) ⟨_, _, _, _, by rw [if_pos (show canI ps np n (-1) 0 0 = 0 by rw [hca]; exact if_pos (by omega))], rfl⟩ dX8_whoMust_14

set_option maxHeartbeats 4000000 in
set_option maxRecDepth 100000 in
theorem c_whoMay (l : Launch) (D : va_G) (Y : Nat → ClassId) (RO : va_W) (h : Nat) (x : Nat) (y : Nat) (g : Int → Int) (g2 : Int → Int) (pa : Nat) (pad : Int → Nat) (np : Int) (ps : Int → PT) (n : Int) (hpa : (pa, aQ (Y 3) 6 (orow np pad)) ∈ RO) (hpc : ∀ i, 0 ≤ i ∧ i < np → pC (pad i) (ps i) ∈ RO) (hnp : 0 ≤ np ∧ np ≤ 6) (hps : ∀ i, 0 ≤ i ∧ i < np → okP (ps i)) (hn : -54 ≤ n ∧ n ≤ 216) : jMi l yX8_whoMay wsX8_whoMay { frames := 4, cells := 0, slots := 0, locals := 100 } D Y RO [.ref h, .ref pa, vI n] [(h, oC 7 [.ref x, .ref y]), (x, aI (Y 0) 271 g), (y, aI (Y 0) 271 g2)] (fun e w1 => ∃ (xq yq : Nat) (gq hq : Int → Int), e = (fo (mayF ps np n) np 0) ∧ w1 = [(h, oC 7 [.ref xq, .ref yq]), (xq, aI (Y 0) 271 gq), (yq, aI (Y 0) 271 hq)]) := by
  refine j_ofi RX8 rfl rfl rfl (Nat.le_of_ble_eq_true rfl) (fun X C Rt => ?_)
  refine j_iconst (pc := 0) C dX8_whoMay_0 ?_
  refine j_istore_n (pc := 1) (lc' := [(3, vI 0), (0, .ref h), (1, .ref pa), (2, vI n)]) C 3 rfl (by decide) rfl dX8_whoMay_1 ?_
  refine j_iconst (pc := 2) C dX8_whoMay_2 ?_
  refine j_istore (pc := 3) (lc' := [(4, vI 0), (3, vI 0), (0, .ref h), (1, .ref pa), (2, vI n)]) C (by decide) rfl dX8_whoMay_3 ?_
  have hL5 : ∀ (N5 : Nat) (i : Int) (b : Int) (x1 : Nat) (y1 : Nat) (z : Int → Int) (z2 : Int → Int), ((6 - i).toNat) < N5 → (0 ≤ i ∧ i ≤ 6) → (b = fo (mayF ps np n) (if i < np then i else np) 0) → (-2147483648 ≤ b ∧ b ≤ 2147483647) → jW X 5 0 0 [(h, oC 7 [.ref x1, .ref y1]), (x1, aI (Y 0) 271 z), (y1, aI (Y 0) 271 z2)] [(0, .ref h), (1, .ref pa), (2, vI n), (3, vI b), (4, vI i)] 5 [] := by
    intro N5
    induction N5 with
    | zero => intro i b x1 y1 z z2 hm5 i5_0 i5_1 i5_2; omega
    | succ N5 ih5 =>
      intro i b x1 y1 z z2 hm5 i5_0 i5_1 i5_2
      refine j_iload (pc := 5) C 4 rfl dX8_whoMay_5 ?_
      refine j_aload_n (pc := 7) C 1 1 rfl rfl dX8_whoMay_7 ?_
      refine j_alenP (pc := 8) C (Or.inr hpa) rfl dX8_whoMay_8 ?_
      refine j_icmp_ge (pc := 9) C 43 rfl (by omega) dX8_whoMay_9 (fun h_1p9 => ?_) (fun h_1p9 => ?_)
      · skip
        refine j_iload_n (pc := 43) C 3 3 rfl rfl dX8_whoMay_43 ?_
        exact Rt _ _ _ _ _ _ (by decide) (by decide) ⟨_, _, _, _, by rw [i5_1]; congr 1; split <;> omega, rfl⟩ dX8_whoMay_44
      · skip
        refine j_aload_n (pc := 12) C 1 1 rfl rfl dX8_whoMay_12 ?_
        refine j_iload (pc := 13) C 4 rfl dX8_whoMay_13 ?_
        refine j_aaldP (pc := 15) C (Or.inr hpa) rfl (by omega) (by decide) dX8_whoMay_15 ?_
        by_cases hq_2 : i < np
        · rw [show orow np pad i = some (pad i) from orow_in ⟨by omega, hq_2⟩]
          have hp2 := hpc i ⟨by omega, hq_2⟩
          have hP2 := hps i ⟨by omega, hq_2⟩
          have hw2 := hP2.2.2.2.2.1
          refine j_ifnull (pc := 16) C dX8_whoMay_16 ?_
          refine j_aload_n (pc := 19) C 0 0 rfl rfl dX8_whoMay_19 ?_
          refine j_aload_n (pc := 20) C 1 1 rfl rfl dX8_whoMay_20 ?_
          refine j_iload_n (pc := 21) C 2 2 rfl rfl dX8_whoMay_21 ?_
          refine j_iload (pc := 22) C 4 rfl dX8_whoMay_22 ?_
          refine j_callVi (pc := 24) (As := [.ref pa, vI n, vI i]) (na := 3) (st := []) C [0, 1, 2] [] (wr := []) (fun l => c_canBeWith l D Y _ h x1 y1 z z2 pa pad np ps n i (List.mem_append_right _ hpa) (fun i hi => List.mem_append_right _ (hpc i hi)) (by first | assumption | omega) (by first | assumption | omega) (by first | assumption | omega) (by omega)) rfl rfl rfl rfl (by decide) rfl (Or.inl (List.mem_of_getElem? (i := 0) rfl)) rfl gX8_whoMay_X8_canBeWith ⟨rfl, by decide +kernel⟩ (by decide) rfl rfl (Nat.le_of_ble_eq_true rfl) (by decide) dX8_whoMay_24 (fun e_3 w_4 h_5 => ?_)
          obtain ⟨xq_6, yq_7, gq_8, hq_9, rfl, rfl⟩ := h_5
          refine j_perm (ws' := [(h, oC 7 [.ref xq_6, .ref yq_7]), (xq_6, aI (Y 0) 271 gq_8), (yq_7, aI (Y 0) 271 hq_9)]) [0, 1, 2] rfl rfl ?_
          have hcI := canI_c ps np n i 1 9
          refine j_if_eq (pc := 27) C 37 rfl (by omega) dX8_whoMay_27 (fun h_10p27 => ?_) (fun h_10p27 => ?_)
          · skip
            refine j_iinc (pc := 37) (lc' := [(4, vI (i + 1)), (0, .ref h), (1, .ref pa), (2, vI n), (3, vI b)]) C 4 rfl (by decide) rfl dX8_whoMay_37 ?_
            refine j_goto (pc := 40) C 5 rfl dX8_whoMay_40 ?_
            refine j_locals (lc' := [(0, .ref h), (1, .ref pa), (2, vI n), (3, vI b), (4, vI (i + 1))]) [1, 2, 3, 4, 0] rfl ?_
            exact ih5 (i + 1) b xq_6 yq_7 gq_8 hq_9 (by omega) (by omega) (by first | (rw [if_neg (by omega)]; rw [if_neg (by omega)] at i5_1; exact i5_1) | (rw [show (if i + 1 < np then i + 1 else np) = i + 1 by split <;> omega, fo_succ _ (by omega)]; rw [if_pos (by omega)] at i5_1; rw [← i5_1]; first | rw [mayF_y (by omega)] | rw [mayF_n (by omega) i5_2])) (by first | omega | exact orI_in _ _)
          · skip
            refine j_iload_n (pc := 30) C 3 3 rfl rfl dX8_whoMay_30 ?_
            refine j_iconst (pc := 31) C dX8_whoMay_31 ?_
            refine j_iload (pc := 32) C 4 rfl dX8_whoMay_32 ?_
            refine j_ishl (pc := 34) C dX8_whoMay_34 ?_
            refine j_ior (pc := 35) C dX8_whoMay_35 ?_
            refine j_istore_n (pc := 36) (lc' := [(3, vI (orI b (shlI 1 i))), (0, .ref h), (1, .ref pa), (2, vI n), (4, vI i)]) C 3 rfl (by decide) rfl dX8_whoMay_36 ?_
            refine j_iinc (pc := 37) (lc' := [(4, vI (i + 1)), (3, vI (orI b (shlI 1 i))), (0, .ref h), (1, .ref pa), (2, vI n)]) C 4 rfl (by decide) rfl dX8_whoMay_37 ?_
            refine j_goto (pc := 40) C 5 rfl dX8_whoMay_40 ?_
            refine j_locals (lc' := [(0, .ref h), (1, .ref pa), (2, vI n), (3, vI (orI b (shlI 1 i))), (4, vI (i + 1))]) [2, 3, 4, 1, 0] rfl ?_
            exact ih5 (i + 1) (orI b (shlI 1 i)) xq_6 yq_7 gq_8 hq_9 (by omega) (by omega) (by first | (rw [if_neg (by omega)]; rw [if_neg (by omega)] at i5_1; exact i5_1) | (rw [show (if i + 1 < np then i + 1 else np) = i + 1 by split <;> omega, fo_succ _ (by omega)]; rw [if_pos (by omega)] at i5_1; rw [← i5_1]; first | rw [mayF_y (by omega)] | rw [mayF_n (by omega) i5_2])) (by first | omega | exact orI_in _ _)
        · rw [show orow np pad i = none from orow_out (by omega)]
          refine j_ifnullN (pc := 16) C 37 rfl dX8_whoMay_16 ?_
          refine j_iinc (pc := 37) (lc' := [(4, vI (i + 1)), (0, .ref h), (1, .ref pa), (2, vI n), (3, vI b)]) C 4 rfl (by decide) rfl dX8_whoMay_37 ?_
          refine j_goto (pc := 40) C 5 rfl dX8_whoMay_40 ?_
          refine j_locals (lc' := [(0, .ref h), (1, .ref pa), (2, vI n), (3, vI b), (4, vI (i + 1))]) [1, 2, 3, 4, 0] rfl ?_
          exact ih5 (i + 1) b x1 y1 z z2 (by omega) (by omega) (by first | (rw [if_neg (by omega)]; rw [if_neg (by omega)] at i5_1; exact i5_1) | (rw [show (if i + 1 < np then i + 1 else np) = i + 1 by split <;> omega, fo_succ _ (by omega)]; rw [if_pos (by omega)] at i5_1; rw [← i5_1]; first | rw [mayF_y (by omega)] | rw [mayF_n (by omega) i5_2])) (by first | omega | exact orI_in _ _)
  refine j_locals (lc' := [(0, .ref h), (1, .ref pa), (2, vI n), (3, vI 0), (4, vI 0)]) [2, 3, 4, 1, 0] rfl ?_
  exact hL5 _ 0 0 x y g g2 (Nat.lt_succ_self _) (by omega) (by rw [show (if (0 : Int) < np then 0 else np) = 0 by split <;> omega]; rfl) (by decide)
