theorem fX9_digest_X4 : ∀ w ∈ u_ws RX4 TX4 2, w ∈ wsX9_digest := j_words [320, 321] (by decide +kernel)
theorem fX9_digest_X9 : ∀ w ∈ u_ws RX9 TX9 11, w ∈ wsX9_digest := j_words [309, 310, 311, 312, 313, 314, 315, 316, 317, 318, 319] (by decide +kernel)
set_option maxHeartbeats 4000000 in
set_option maxRecDepth 100000 in
theorem k_digest (l : Launch) (D : va_G) (Y : Nat → ClassId) (RO : va_W) (k : Nat → Nat) (nc : Int) (np : Int) (ik : Int) (cad : Int → Nat) (cs : Int → CT) (pad : Int → Nat) (ps : Int → PT) (S : MS) (U : MS) (x : Nat) (y : Nat) (g : Int → Int) (g2 : Int → Int) (pl : Int) (pg : Int → Int) (ko : ((k 0), oC 8 [.ref (k 1), .ref (k 2), vI nc, .ref (k 3), vI np, .ref (k 4), .ref (k 7), vI ik, .ref (k 10), .ref (k 13), .ref (k 14)]) ∈ RO) (kc : ((k 2), aQ (Y 2) 4 (orow nc cad)) ∈ RO) (hcc : ∀ i, 0 ≤ i ∧ i < nc → (cad i, oC 1 [vI (cw (cs i)), vI (cz (cs i)), vI (ce (cs i))]) ∈ RO) (kp : ((k 3), aQ (Y 3) 6 (orow np pad)) ∈ RO) (hpc : ∀ i, 0 ≤ i ∧ i < np → pC (pad i) (ps i) ∈ RO) (pgo : ((k 1), oC 3 [.ref (k 17), vI pl]) ∈ RO) (pgc : ((k 17), aI (Y 0) 16 pg) ∈ RO) (hS : okS S) (hw : ms_w S ≤ 9999) (hnc : 0 ≤ nc ∧ nc ≤ 4) (hcs : ∀ i, 0 ≤ i ∧ i < nc → okC (cs i)) (hnp : 0 ≤ np ∧ np ≤ 6) (hps : ∀ i, 0 ≤ i ∧ i < np → okP (ps i)) (hp : okPg pg pl) : jMl l yX9_digest wsX9_digest { frames := 6, cells := 0, slots := 0, locals := 146 } D Y RO [.ref (k 0)] [((k 4), oC 2 [.ref (k 5), .ref (k 6), vI (ms_w S), vI (ms_l S), vI (ms_s S), vI (ms_a S), vI (ms_t S), vI (ms_p S)]), ((k 5), aI (Y 0) 7 (ms_h S)), ((k 6), aI (Y 0) 420 (ms_m S)), ((k 10), oC 2 [.ref (k 11), .ref (k 12), vI (ms_w U), vI (ms_l U), vI (ms_s U), vI (ms_a U), vI (ms_t U), vI (ms_p U)]), ((k 11), aI (Y 0) 7 (ms_h U)), ((k 12), aI (Y 0) 420 (ms_m U)), ((k 14), oC 7 [.ref x, .ref y]), (x, aI (Y 0) 271 g), (y, aI (Y 0) 271 g2)] (fun e w1 => e = (rDig np nc pl cs ps pg S) ∧ ∃ (V : MS) (xq yq : Nat) (gq hq : Int → Int), w1 = [((k 4), oC 2 [.ref (k 5), .ref (k 6), vI (ms_w S), vI (ms_l S), vI (ms_s S), vI (ms_a S), vI (ms_t S), vI (ms_p S)]), ((k 5), aI (Y 0) 7 (ms_h S)), ((k 6), aI (Y 0) 420 (ms_m S)), ((k 10), oC 2 [.ref (k 11), .ref (k 12), vI (ms_w V), vI (ms_l V), vI (ms_s V), vI (ms_a V), vI (ms_t V), vI (ms_p V)]), ((k 11), aI (Y 0) 7 (ms_h V)), ((k 12), aI (Y 0) 420 (ms_m V)), ((k 14), oC 7 [.ref xq, .ref yq]), (xq, aI (Y 0) 271 gq), (yq, aI (Y 0) 271 hq)]) := by
  refine j_ofl RX9 rfl rfl rfl (Nat.le_of_ble_eq_true rfl) (fun X C Rt => ?_)
  have hpl := hp.1
  refine j_aload_n (pc := 0) C 0 0 rfl rfl dX9_digest_0 ?_
  refine j_ldc2 (pc := 1) (w := 563) C (List.mem_of_getElem? (i := 1) rfl) dX9_digest_1 ?_
  refine j_callVl (pc := 4) (As := [vL 563]) (na := 1) (st := []) C [] [0, 1, 2, 3, 4, 5, 6, 7, 8] (wr := [((k 4), oC 2 [.ref (k 5), .ref (k 6), vI (ms_w S), vI (ms_l S), vI (ms_s S), vI (ms_a S), vI (ms_t S), vI (ms_p S)]), ((k 5), aI (Y 0) 7 (ms_h S)), ((k 6), aI (Y 0) 420 (ms_m S)), ((k 10), oC 2 [.ref (k 11), .ref (k 12), vI (ms_w U), vI (ms_l U), vI (ms_s U), vI (ms_a U), vI (ms_t U), vI (ms_p U)]), ((k 11), aI (Y 0) 7 (ms_h U)), ((k 12), aI (Y 0) 420 (ms_m U)), ((k 14), oC 7 [.ref x, .ref y]), (x, aI (Y 0) 271 g), (y, aI (Y 0) 271 g2)]) (fun l => k_withCairns l D Y _ k nc np ik S 563 (List.mem_append_right _ ko) (List.mem_append_left _ (List.mem_of_getElem? (i := 0) rfl)) (List.mem_append_left _ (List.mem_of_getElem? (i := 1) rfl)) (List.mem_append_left _ (List.mem_of_getElem? (i := 2) rfl)) hS) rfl rfl rfl rfl (by decide) rfl (Or.inr (List.mem_append_right _ ko)) rfl gX9_digest_X9_withCairns ⟨rfl, by decide +kernel⟩ (by decide) rfl rfl (Nat.le_of_ble_eq_true rfl) (by decide) dX9_digest_4 (fun e_1 w_2 h_3 => ?_)
  obtain ⟨rfl, rfl⟩ := h_3
  refine j_perm (ws' := [((k 4), oC 2 [.ref (k 5), .ref (k 6), vI (ms_w S), vI (ms_l S), vI (ms_s S), vI (ms_a S), vI (ms_t S), vI (ms_p S)]), ((k 5), aI (Y 0) 7 (ms_h S)), ((k 6), aI (Y 0) 420 (ms_m S)), ((k 10), oC 2 [.ref (k 11), .ref (k 12), vI (ms_w U), vI (ms_l U), vI (ms_s U), vI (ms_a U), vI (ms_t U), vI (ms_p U)]), ((k 11), aI (Y 0) 7 (ms_h U)), ((k 12), aI (Y 0) 420 (ms_m U)), ((k 14), oC 7 [.ref x, .ref y]), (x, aI (Y 0) 271 g), (y, aI (Y 0) 271 g2)]) [0, 1, 2, 3, 4, 5, 6, 7, 8] rfl rfl ?_
  refine j_lstore_n (pc := 7) (lc' := [(1, vL (fo (cairnF S) 7 563)), (0, .ref (k 0))]) C 1 rfl (by decide) rfl dX9_digest_7 ?_
  refine j_aload_n (pc := 8) C 0 1 rfl rfl dX9_digest_8 ?_
  refine j_lload_n (pc := 9) C 1 0 rfl rfl dX9_digest_9 ?_
  refine j_callVl (pc := 10) (As := [vL (fo (cairnF S) 7 563)]) (na := 1) (st := []) C [] [0, 1, 2, 3, 4, 5, 6, 7, 8] (wr := [((k 4), oC 2 [.ref (k 5), .ref (k 6), vI (ms_w S), vI (ms_l S), vI (ms_s S), vI (ms_a S), vI (ms_t S), vI (ms_p S)]), ((k 5), aI (Y 0) 7 (ms_h S)), ((k 6), aI (Y 0) 420 (ms_m S)), ((k 10), oC 2 [.ref (k 11), .ref (k 12), vI (ms_w U), vI (ms_l U), vI (ms_s U), vI (ms_a U), vI (ms_t U), vI (ms_p U)]), ((k 11), aI (Y 0) 7 (ms_h U)), ((k 12), aI (Y 0) 420 (ms_m U)), ((k 14), oC 7 [.ref x, .ref y]), (x, aI (Y 0) 271 g), (y, aI (Y 0) 271 g2)]) (fun l => k_withParishes l D Y _ k nc np ik pad ps (fo (cairnF S) 7 563) (List.mem_append_right _ ko) (List.mem_append_right _ kp) (fun i hi => List.mem_append_right _ (hpc i hi)) (by first | assumption | omega) (by first | assumption | omega)) rfl rfl rfl rfl (by decide) rfl (Or.inr (List.mem_append_right _ ko)) rfl gX9_digest_X9_withParishes ⟨rfl, by decide +kernel⟩ (by decide) rfl rfl (Nat.le_of_ble_eq_true rfl) (by decide) dX9_digest_10 (fun e_4 w_5 h_6 => ?_)
  obtain ⟨rfl, rfl⟩ := h_6
  refine j_perm (ws' := [((k 4), oC 2 [.ref (k 5), .ref (k 6), vI (ms_w S), vI (ms_l S), vI (ms_s S), vI (ms_a S), vI (ms_t S), vI (ms_p S)]), ((k 5), aI (Y 0) 7 (ms_h S)), ((k 6), aI (Y 0) 420 (ms_m S)), ((k 10), oC 2 [.ref (k 11), .ref (k 12), vI (ms_w U), vI (ms_l U), vI (ms_s U), vI (ms_a U), vI (ms_t U), vI (ms_p U)]), ((k 11), aI (Y 0) 7 (ms_h U)), ((k 12), aI (Y 0) 420 (ms_m U)), ((k 14), oC 7 [.ref x, .ref y]), (x, aI (Y 0) 271 g), (y, aI (Y 0) 271 g2)]) [0, 1, 2, 3, 4, 5, 6, 7, 8] rfl rfl ?_
  refine j_lstore_n (pc := 13) (lc' := [(1, vL (fo (parF ps) np (fo (cairnF S) 7 563))), (0, .ref (k 0))]) C 1 rfl (by decide) rfl dX9_digest_13 ?_
  refine j_aload_n (pc := 14) C 0 1 rfl rfl dX9_digest_14 ?_
  refine j_lload_n (pc := 15) C 1 0 rfl rfl dX9_digest_15 ?_
  refine j_callVl (pc := 16) (As := [vL (fo (parF ps) np (fo (cairnF S) 7 563))]) (na := 1) (st := []) C [0, 1, 2, 3, 4, 5] [6, 7, 8] (wr := [((k 14), oC 7 [.ref x, .ref y]), (x, aI (Y 0) 271 g), (y, aI (Y 0) 271 g2)]) (fun l => k_withCustoms l D Y _ k nc np ik cad cs pad ps S U (fo (parF ps) np (fo (cairnF S) 7 563)) (List.mem_append_right _ ko) (List.mem_append_right _ kc) (fun i hi => List.mem_append_right _ (hcc i hi)) (List.mem_append_right _ kp) (fun i hi => List.mem_append_right _ (hpc i hi)) (by first | assumption | omega) (by first | assumption | omega) (by first | assumption | omega) (by first | assumption | omega) (by first | assumption | omega) (by first | assumption | omega)) rfl rfl rfl rfl (by decide) rfl (Or.inr (List.mem_append_right _ ko)) rfl gX9_digest_X9_withCustoms ⟨rfl, by decide +kernel⟩ (by decide) rfl rfl (Nat.le_of_ble_eq_true rfl) (by decide) dX9_digest_16 (fun e_7 w_8 h_9 => ?_)
  obtain ⟨rfl, V_10, rfl⟩ := h_9
  refine j_perm (ws' := [((k 4), oC 2 [.ref (k 5), .ref (k 6), vI (ms_w S), vI (ms_l S), vI (ms_s S), vI (ms_a S), vI (ms_t S), vI (ms_p S)]), ((k 5), aI (Y 0) 7 (ms_h S)), ((k 6), aI (Y 0) 420 (ms_m S)), ((k 10), oC 2 [.ref (k 11), .ref (k 12), vI (ms_w V_10), vI (ms_l V_10), vI (ms_s V_10), vI (ms_a V_10), vI (ms_t V_10), vI (ms_p V_10)]), ((k 11), aI (Y 0) 7 (ms_h V_10)), ((k 12), aI (Y 0) 420 (ms_m V_10)), ((k 14), oC 7 [.ref x, .ref y]), (x, aI (Y 0) 271 g), (y, aI (Y 0) 271 g2)]) [3, 4, 5, 6, 7, 8, 0, 1, 2] rfl rfl ?_
  refine j_lstore_n (pc := 19) (lc' := [(1, vL (fo (cusF cs ps np S) nc (fo (parF ps) np (fo (cairnF S) 7 563)))), (0, .ref (k 0))]) C 1 rfl (by decide) rfl dX9_digest_19 ?_
  refine j_iconst (pc := 20) C dX9_digest_20 ?_
  refine j_istore_n (pc := 21) (lc' := [(3, vI 0), (1, vL (fo (cusF cs ps np S) nc (fo (parF ps) np (fo (cairnF S) 7 563)))), (0, .ref (k 0))]) C 3 rfl (by decide) rfl dX9_digest_21 ?_
  have hL22 : ∀ (N22 : Nat) (u : Int) (w : Int) (x1 : Nat) (y1 : Nat) (z : Int → Int) (z2 : Int → Int), ((4 - w).toNat) < N22 → (0 ≤ w ∧ w ≤ 4) → (u = fo (bndF ps np) w (fo (cusF cs ps np S) nc (fo (parF ps) np (fo (cairnF S) 7 563)))) → jW X 4 0 0 [((k 4), oC 2 [.ref (k 5), .ref (k 6), vI (ms_w S), vI (ms_l S), vI (ms_s S), vI (ms_a S), vI (ms_t S), vI (ms_p S)]), ((k 5), aI (Y 0) 7 (ms_h S)), ((k 6), aI (Y 0) 420 (ms_m S)), ((k 10), oC 2 [.ref (k 11), .ref (k 12), vI (ms_w V_10), vI (ms_l V_10), vI (ms_s V_10), vI (ms_a V_10), vI (ms_t V_10), vI (ms_p V_10)]), ((k 11), aI (Y 0) 7 (ms_h V_10)), ((k 12), aI (Y 0) 420 (ms_m V_10)), ((k 14), oC 7 [.ref x1, .ref y1]), (x1, aI (Y 0) 271 z), (y1, aI (Y 0) 271 z2)] [(0, .ref (k 0)), (1, vL u), (3, vI w)] 22 [] := by
    intro N22
    induction N22 with
    | zero => intro u w x1 y1 z z2 hm22 i22_0 i22_1; omega
    | succ N22 ih22 =>
      intro u w x1 y1 z z2 hm22 i22_0 i22_1
      refine j_iload_n (pc := 22) C 3 2 rfl rfl dX9_digest_22 ?_
      refine j_iconst (pc := 23) C dX9_digest_23 ?_
      refine j_icmp_gt (pc := 24) C 47 rfl (by omega) dX9_digest_24 (fun h_11p24 => ?_) (fun h_11p24 => ?_)
      · skip
        refine j_iconst (pc := 47) C dX9_digest_47 ?_
        refine j_istore_n (pc := 48) (lc' := [(3, vI 0), (0, .ref (k 0)), (1, vL u)]) C 3 rfl (by decide) rfl dX9_digest_48 ?_
        have hL49 : ∀ (N49 : Nat) (u2 : Int) (i : Int), ((pl - i).toNat) < N49 → (0 ≤ i ∧ i ≤ pl) → (u2 = fo (pgF pg) i u) → jW X 4 0 0 [((k 4), oC 2 [.ref (k 5), .ref (k 6), vI (ms_w S), vI (ms_l S), vI (ms_s S), vI (ms_a S), vI (ms_t S), vI (ms_p S)]), ((k 5), aI (Y 0) 7 (ms_h S)), ((k 6), aI (Y 0) 420 (ms_m S)), ((k 10), oC 2 [.ref (k 11), .ref (k 12), vI (ms_w V_10), vI (ms_l V_10), vI (ms_s V_10), vI (ms_a V_10), vI (ms_t V_10), vI (ms_p V_10)]), ((k 11), aI (Y 0) 7 (ms_h V_10)), ((k 12), aI (Y 0) 420 (ms_m V_10)), ((k 14), oC 7 [.ref x1, .ref y1]), (x1, aI (Y 0) 271 z), (y1, aI (Y 0) 271 z2)] [(0, .ref (k 0)), (1, vL u2), (3, vI i)] 49 [] := by
          intro N49
          induction N49 with
          | zero => intro u2 i hm49 i49_0 i49_1; omega
          | succ N49 ih49 =>
            intro u2 i hm49 i49_0 i49_1
            refine j_iload_n (pc := 49) C 3 2 rfl rfl dX9_digest_49 ?_
            refine j_aload_n (pc := 50) C 0 0 rfl rfl dX9_digest_50 ?_
            refine j_get (pc := 51) C (Or.inr ko) rfl fX9_digest_X9 0 (by decide) (List.mem_of_getElem? (i := 3) rfl) (Or.inl rfl) rfl dX9_digest_51 ?_
            refine j_get (pc := 54) C (Or.inr pgo) rfl fX9_digest_X4 1 (by decide) (List.mem_of_getElem? (i := 4) rfl) (Or.inl rfl) rfl dX9_digest_54 ?_
            refine j_icmp_ge (pc := 57) C 89 rfl (by omega) dX9_digest_57 (fun h_12p57 => ?_) (fun h_12p57 => ?_)
            · skip
              refine j_iconst (pc := 89) C dX9_digest_89 ?_
              refine j_istore_n (pc := 90) (lc' := [(3, vI 0), (0, .ref (k 0)), (1, vL u2)]) C 3 rfl (by decide) rfl dX9_digest_90 ?_
              have hL91 : ∀ (N91 : Nat) (u3 : Int) (w3 : Int), ((10 - w3).toNat) < N91 → (0 ≤ w3 ∧ w3 ≤ 10) → (u3 = fo (couF np nc pl S) w3 u2) → jW X 4 0 0 [((k 4), oC 2 [.ref (k 5), .ref (k 6), vI (ms_w S), vI (ms_l S), vI (ms_s S), vI (ms_a S), vI (ms_t S), vI (ms_p S)]), ((k 5), aI (Y 0) 7 (ms_h S)), ((k 6), aI (Y 0) 420 (ms_m S)), ((k 10), oC 2 [.ref (k 11), .ref (k 12), vI (ms_w V_10), vI (ms_l V_10), vI (ms_s V_10), vI (ms_a V_10), vI (ms_t V_10), vI (ms_p V_10)]), ((k 11), aI (Y 0) 7 (ms_h V_10)), ((k 12), aI (Y 0) 420 (ms_m V_10)), ((k 14), oC 7 [.ref x1, .ref y1]), (x1, aI (Y 0) 271 z), (y1, aI (Y 0) 271 z2)] [(0, .ref (k 0)), (1, vL u3), (3, vI w3)] 91 [] := by
                intro N91
                induction N91 with
                | zero => intro u3 w3 hm91 i91_0 i91_1; omega
                | succ N91 ih91 =>
                  intro u3 w3 hm91 i91_0 i91_1
                  refine j_iload_n (pc := 91) C 3 2 rfl rfl dX9_digest_91 ?_
                  refine j_bipush (pc := 92) (w := 9) C rfl dX9_digest_92 ?_
                  refine j_icmp_gt (pc := 94) C 116 rfl (by omega) dX9_digest_94 (fun h_13p94 => ?_) (fun h_13p94 => ?_)
                  · skip
                    refine j_lload_n (pc := 116) C 1 1 rfl rfl dX9_digest_116 ?_
                    exact Rt _ _ _ _ _ _ (by decide) (by decide) ⟨by unfold rDig; rw [i91_1, show w3 = 10 by omega, i49_1, show i = pl by omega, i22_1, show w = 4 by omega], _, _, _, _, _, rfl⟩ dX9_digest_117
                  · skip
                    refine j_ldc2 (pc := 97) (w := 31) C (List.mem_of_getElem? (i := 2) rfl) dX9_digest_97 ?_
                    refine j_lload_n (pc := 100) C 1 1 rfl rfl dX9_digest_100 ?_
                    refine j_lmul (pc := 101) C dX9_digest_101 ?_
                    refine j_aload_n (pc := 102) C 0 0 rfl rfl dX9_digest_102 ?_
                    refine j_iload_n (pc := 103) C 3 2 rfl rfl dX9_digest_103 ?_
                    refine j_callVi (pc := 104) (As := [vI w3]) (na := 1) (st := [vL (31 * u3)]) C [] [0, 1, 2, 3, 4, 5, 6, 7, 8] (wr := [((k 4), oC 2 [.ref (k 5), .ref (k 6), vI (ms_w S), vI (ms_l S), vI (ms_s S), vI (ms_a S), vI (ms_t S), vI (ms_p S)]), ((k 5), aI (Y 0) 7 (ms_h S)), ((k 6), aI (Y 0) 420 (ms_m S)), ((k 10), oC 2 [.ref (k 11), .ref (k 12), vI (ms_w V_10), vI (ms_l V_10), vI (ms_s V_10), vI (ms_a V_10), vI (ms_t V_10), vI (ms_p V_10)]), ((k 11), aI (Y 0) 7 (ms_h V_10)), ((k 12), aI (Y 0) 420 (ms_m V_10)), ((k 14), oC 7 [.ref x1, .ref y1]), (x1, aI (Y 0) 271 z), (y1, aI (Y 0) 271 z2)]) (fun l => k_count l D Y _ k nc np ik S pl w3 (List.mem_append_right _ ko) (List.mem_append_left _ (List.mem_of_getElem? (i := 0) rfl)) (List.mem_append_left _ (List.mem_of_getElem? (i := 1) rfl)) (List.mem_append_left _ (List.mem_of_getElem? (i := 2) rfl)) (List.mem_append_right _ pgo) (by first | assumption | omega)) rfl rfl rfl rfl (by decide) rfl (Or.inr (List.mem_append_right _ ko)) rfl gX9_digest_X9_count ⟨rfl, by decide +kernel⟩ (by decide) rfl rfl (Nat.le_of_ble_eq_true rfl) (by decide) dX9_digest_104 (fun e_14 w_15 h_16 => ?_)
                    obtain ⟨rfl, rfl⟩ := h_16
                    refine j_perm (ws' := [((k 4), oC 2 [.ref (k 5), .ref (k 6), vI (ms_w S), vI (ms_l S), vI (ms_s S), vI (ms_a S), vI (ms_t S), vI (ms_p S)]), ((k 5), aI (Y 0) 7 (ms_h S)), ((k 6), aI (Y 0) 420 (ms_m S)), ((k 10), oC 2 [.ref (k 11), .ref (k 12), vI (ms_w V_10), vI (ms_l V_10), vI (ms_s V_10), vI (ms_a V_10), vI (ms_t V_10), vI (ms_p V_10)]), ((k 11), aI (Y 0) 7 (ms_h V_10)), ((k 12), aI (Y 0) 420 (ms_m V_10)), ((k 14), oC 7 [.ref x1, .ref y1]), (x1, aI (Y 0) 271 z), (y1, aI (Y 0) 271 z2)]) [0, 1, 2, 3, 4, 5, 6, 7, 8] rfl rfl ?_
                    rw [vI_n32 (rCount w3 np nc pl S)]
                    have hn_17 := n32_in (rCount w3 np nc pl S)
                    refine j_i2l (pc := 107) C (by omega) dX9_digest_107 ?_
                    refine j_ladd (pc := 108) C dX9_digest_108 ?_
                    refine j_lstore_n (pc := 109) (lc' := [(1, vL ((31 * u3) + (n32 (rCount w3 np nc pl S)))), (0, .ref (k 0)), (3, vI w3)]) C 1 rfl (by decide) rfl dX9_digest_109 ?_
                    refine j_iinc (pc := 110) (lc' := [(3, vI (w3 + 1)), (1, vL ((31 * u3) + (n32 (rCount w3 np nc pl S)))), (0, .ref (k 0))]) C 2 rfl (by decide) rfl dX9_digest_110 ?_
                    refine j_goto (pc := 113) C 91 rfl dX9_digest_113 ?_
                    refine j_locals (lc' := [(0, .ref (k 0)), (1, vL ((31 * u3) + (n32 (rCount w3 np nc pl S)))), (3, vI (w3 + 1))]) [2, 1, 0] rfl ?_
                    exact ih91 ((31 * u3) + (n32 (rCount w3 np nc pl S))) (w3 + 1) (by omega) (by omega) (by rw [fo_succ _ (by omega), ← i91_1]; rfl)
              refine j_locals (lc' := [(0, .ref (k 0)), (1, vL u2), (3, vI 0)]) [1, 2, 0] rfl ?_
              exact hL91 _ u2 0 (Nat.lt_succ_self _) (by omega) (fo_zero _ _).symm
            · skip
              refine j_iload_n (pc := 60) C 3 2 rfl rfl dX9_digest_60 ?_
              refine j_bipush (pc := 61) (w := 16) C rfl dX9_digest_61 ?_
              refine j_icmp_ge (pc := 63) C 89 rfl (by omega) dX9_digest_63 (fun h_18p63 => ?_) (fun h_18p63 => ?_)
              · skip
                refine j_iconst (pc := 89) C dX9_digest_89 ?_
                refine j_istore_n (pc := 90) (lc' := [(3, vI 0), (0, .ref (k 0)), (1, vL u2)]) C 3 rfl (by decide) rfl dX9_digest_90 ?_
                have hL91 : ∀ (N91 : Nat) (u3 : Int) (w3 : Int), ((10 - w3).toNat) < N91 → (0 ≤ w3 ∧ w3 ≤ 10) → (u3 = fo (couF np nc pl S) w3 u2) → jW X 4 0 0 [((k 4), oC 2 [.ref (k 5), .ref (k 6), vI (ms_w S), vI (ms_l S), vI (ms_s S), vI (ms_a S), vI (ms_t S), vI (ms_p S)]), ((k 5), aI (Y 0) 7 (ms_h S)), ((k 6), aI (Y 0) 420 (ms_m S)), ((k 10), oC 2 [.ref (k 11), .ref (k 12), vI (ms_w V_10), vI (ms_l V_10), vI (ms_s V_10), vI (ms_a V_10), vI (ms_t V_10), vI (ms_p V_10)]), ((k 11), aI (Y 0) 7 (ms_h V_10)), ((k 12), aI (Y 0) 420 (ms_m V_10)), ((k 14), oC 7 [.ref x1, .ref y1]), (x1, aI (Y 0) 271 z), (y1, aI (Y 0) 271 z2)] [(0, .ref (k 0)), (1, vL u3), (3, vI w3)] 91 [] := by
                  intro N91
                  induction N91 with
                  | zero => intro u3 w3 hm91 i91_0 i91_1; omega
                  | succ N91 ih91 =>
                    intro u3 w3 hm91 i91_0 i91_1
                    refine j_iload_n (pc := 91) C 3 2 rfl rfl dX9_digest_91 ?_
                    refine j_bipush (pc := 92) (w := 9) C rfl dX9_digest_92 ?_
                    refine j_icmp_gt (pc := 94) C 116 rfl (by omega) dX9_digest_94 (fun h_19p94 => ?_) (fun h_19p94 => ?_)
                    · skip
                      refine j_lload_n (pc := 116) C 1 1 rfl rfl dX9_digest_116 ?_
                      exact Rt _ _ _ _ _ _ (by decide) (by decide) ⟨by unfold rDig; rw [i91_1, show w3 = 10 by omega, i49_1, show i = pl by omega, i22_1, show w = 4 by omega], _, _, _, _, _, rfl⟩ dX9_digest_117
                    · skip
                      refine j_ldc2 (pc := 97) (w := 31) C (List.mem_of_getElem? (i := 2) rfl) dX9_digest_97 ?_
                      refine j_lload_n (pc := 100) C 1 1 rfl rfl dX9_digest_100 ?_
                      refine j_lmul (pc := 101) C dX9_digest_101 ?_
                      refine j_aload_n (pc := 102) C 0 0 rfl rfl dX9_digest_102 ?_
                      refine j_iload_n (pc := 103) C 3 2 rfl rfl dX9_digest_103 ?_
                      refine j_callVi (pc := 104) (As := [vI w3]) (na := 1) (st := [vL (31 * u3)]) C [] [0, 1, 2, 3, 4, 5, 6, 7, 8] (wr := [((k 4), oC 2 [.ref (k 5), .ref (k 6), vI (ms_w S), vI (ms_l S), vI (ms_s S), vI (ms_a S), vI (ms_t S), vI (ms_p S)]), ((k 5), aI (Y 0) 7 (ms_h S)), ((k 6), aI (Y 0) 420 (ms_m S)), ((k 10), oC 2 [.ref (k 11), .ref (k 12), vI (ms_w V_10), vI (ms_l V_10), vI (ms_s V_10), vI (ms_a V_10), vI (ms_t V_10), vI (ms_p V_10)]), ((k 11), aI (Y 0) 7 (ms_h V_10)), ((k 12), aI (Y 0) 420 (ms_m V_10)), ((k 14), oC 7 [.ref x1, .ref y1]), (x1, aI (Y 0) 271 z), (y1, aI (Y 0) 271 z2)]) (fun l => k_count l D Y _ k nc np ik S pl w3 (List.mem_append_right _ ko) (List.mem_append_left _ (List.mem_of_getElem? (i := 0) rfl)) (List.mem_append_left _ (List.mem_of_getElem? (i := 1) rfl)) (List.mem_append_left _ (List.mem_of_getElem? (i := 2) rfl)) (List.mem_append_right _ pgo) (by first | assumption | omega)) rfl rfl rfl rfl (by decide) rfl (Or.inr (List.mem_append_right _ ko)) rfl gX9_digest_X9_count ⟨rfl, by decide +kernel⟩ (by decide) rfl rfl (Nat.le_of_ble_eq_true rfl) (by decide) dX9_digest_104 (fun e_20 w_21 h_22 => ?_)
                      obtain ⟨rfl, rfl⟩ := h_22
                      refine j_perm (ws' := [((k 4), oC 2 [.ref (k 5), .ref (k 6), vI (ms_w S), vI (ms_l S), vI (ms_s S), vI (ms_a S), vI (ms_t S), vI (ms_p S)]), ((k 5), aI (Y 0) 7 (ms_h S)), ((k 6), aI (Y 0) 420 (ms_m S)), ((k 10), oC 2 [.ref (k 11), .ref (k 12), vI (ms_w V_10), vI (ms_l V_10), vI (ms_s V_10), vI (ms_a V_10), vI (ms_t V_10), vI (ms_p V_10)]), ((k 11), aI (Y 0) 7 (ms_h V_10)), ((k 12), aI (Y 0) 420 (ms_m V_10)), ((k 14), oC 7 [.ref x1, .ref y1]), (x1, aI (Y 0) 271 z), (y1, aI (Y 0) 271 z2)]) [0, 1, 2, 3, 4, 5, 6, 7, 8] rfl rfl ?_
                      rw [vI_n32 (rCount w3 np nc pl S)]
                      have hn_23 := n32_in (rCount w3 np nc pl S)
                      refine j_i2l (pc := 107) C (by omega) dX9_digest_107 ?_
                      refine j_ladd (pc := 108) C dX9_digest_108 ?_
                      refine j_lstore_n (pc := 109) (lc' := [(1, vL ((31 * u3) + (n32 (rCount w3 np nc pl S)))), (0, .ref (k 0)), (3, vI w3)]) C 1 rfl (by decide) rfl dX9_digest_109 ?_
                      refine j_iinc (pc := 110) (lc' := [(3, vI (w3 + 1)), (1, vL ((31 * u3) + (n32 (rCount w3 np nc pl S)))), (0, .ref (k 0))]) C 2 rfl (by decide) rfl dX9_digest_110 ?_
                      refine j_goto (pc := 113) C 91 rfl dX9_digest_113 ?_
                      refine j_locals (lc' := [(0, .ref (k 0)), (1, vL ((31 * u3) + (n32 (rCount w3 np nc pl S)))), (3, vI (w3 + 1))]) [2, 1, 0] rfl ?_
                      exact ih91 ((31 * u3) + (n32 (rCount w3 np nc pl S))) (w3 + 1) (by omega) (by omega) (by rw [fo_succ _ (by omega), ← i91_1]; rfl)
                refine j_locals (lc' := [(0, .ref (k 0)), (1, vL u2), (3, vI 0)]) [1, 2, 0] rfl ?_
                exact hL91 _ u2 0 (Nat.lt_succ_self _) (by omega) (fo_zero _ _).symm
              · skip
                refine j_ldc2 (pc := 66) (w := 31) C (List.mem_of_getElem? (i := 2) rfl) dX9_digest_66 ?_
                refine j_lload_n (pc := 69) C 1 1 rfl rfl dX9_digest_69 ?_
                refine j_lmul (pc := 70) C dX9_digest_70 ?_
                refine j_aload_n (pc := 71) C 0 0 rfl rfl dX9_digest_71 ?_
                refine j_get (pc := 72) C (Or.inr ko) rfl fX9_digest_X9 0 (by decide) (List.mem_of_getElem? (i := 3) rfl) (Or.inl rfl) rfl dX9_digest_72 ?_
                refine j_get (pc := 75) C (Or.inr pgo) rfl fX9_digest_X4 0 (by decide) (List.mem_of_getElem? (i := 5) rfl) (Or.inl rfl) rfl dX9_digest_75 ?_
                refine j_iload_n (pc := 78) C 3 2 rfl rfl dX9_digest_78 ?_
                refine j_iald (pc := 79) C (Or.inr pgc) rfl (by omega) (by decide) dX9_digest_79 ?_
                rw [vI_n32 (pg i)]
                have hn_24 := n32_in (pg i)
                refine j_i2l (pc := 80) C (by omega) dX9_digest_80 ?_
                refine j_ladd (pc := 81) C dX9_digest_81 ?_
                refine j_lstore_n (pc := 82) (lc' := [(1, vL ((31 * u2) + (n32 (pg i)))), (0, .ref (k 0)), (3, vI i)]) C 1 rfl (by decide) rfl dX9_digest_82 ?_
                refine j_iinc (pc := 83) (lc' := [(3, vI (i + 1)), (1, vL ((31 * u2) + (n32 (pg i)))), (0, .ref (k 0))]) C 2 rfl (by decide) rfl dX9_digest_83 ?_
                refine j_goto (pc := 86) C 49 rfl dX9_digest_86 ?_
                refine j_locals (lc' := [(0, .ref (k 0)), (1, vL ((31 * u2) + (n32 (pg i)))), (3, vI (i + 1))]) [2, 1, 0] rfl ?_
                exact ih49 ((31 * u2) + (n32 (pg i))) (i + 1) (by omega) (by omega) (by rw [fo_succ _ (by omega), ← i49_1]; rfl)
        refine j_locals (lc' := [(0, .ref (k 0)), (1, vL u), (3, vI 0)]) [1, 2, 0] rfl ?_
        exact hL49 _ u 0 (Nat.lt_succ_self _) (by omega) (fo_zero _ _).symm
      · skip
        refine j_ldc2 (pc := 27) (w := 31) C (List.mem_of_getElem? (i := 2) rfl) dX9_digest_27 ?_
        refine j_lload_n (pc := 30) C 1 1 rfl rfl dX9_digest_30 ?_
        refine j_lmul (pc := 31) C dX9_digest_31 ?_
        refine j_aload_n (pc := 32) C 0 0 rfl rfl dX9_digest_32 ?_
        refine j_iconst (pc := 33) C dX9_digest_33 ?_
        refine j_iload_n (pc := 34) C 3 2 rfl rfl dX9_digest_34 ?_
        refine j_callVi (pc := 35) (As := [vI 1, vI w]) (na := 2) (st := [vL (31 * u)]) C [6, 7, 8] [0, 1, 2, 3, 4, 5] (wr := [((k 4), oC 2 [.ref (k 5), .ref (k 6), vI (ms_w S), vI (ms_l S), vI (ms_s S), vI (ms_a S), vI (ms_t S), vI (ms_p S)]), ((k 5), aI (Y 0) 7 (ms_h S)), ((k 6), aI (Y 0) 420 (ms_m S)), ((k 10), oC 2 [.ref (k 11), .ref (k 12), vI (ms_w V_10), vI (ms_l V_10), vI (ms_s V_10), vI (ms_a V_10), vI (ms_t V_10), vI (ms_p V_10)]), ((k 11), aI (Y 0) 7 (ms_h V_10)), ((k 12), aI (Y 0) 420 (ms_m V_10))]) (fun l => k_bounds l D Y _ k nc np ik pad ps x1 y1 z z2 1 w (List.mem_append_right _ ko) (List.mem_append_right _ kp) (fun i hi => List.mem_append_right _ (hpc i hi)) (by first | assumption | omega) (by first | assumption | omega) (by first | assumption | omega) (by first | assumption | omega)) rfl rfl rfl rfl (by decide) rfl (Or.inr (List.mem_append_right _ ko)) rfl gX9_digest_X9_bounds ⟨rfl, by decide +kernel⟩ (by decide) rfl rfl (Nat.le_of_ble_eq_true rfl) (by decide) dX9_digest_35 (fun e_25 w_26 h_27 => ?_)
        obtain ⟨xq_28, yq_29, gq_30, hq_31, rfl, rfl⟩ := h_27
        refine j_perm (ws' := [((k 4), oC 2 [.ref (k 5), .ref (k 6), vI (ms_w S), vI (ms_l S), vI (ms_s S), vI (ms_a S), vI (ms_t S), vI (ms_p S)]), ((k 5), aI (Y 0) 7 (ms_h S)), ((k 6), aI (Y 0) 420 (ms_m S)), ((k 10), oC 2 [.ref (k 11), .ref (k 12), vI (ms_w V_10), vI (ms_l V_10), vI (ms_s V_10), vI (ms_a V_10), vI (ms_t V_10), vI (ms_p V_10)]), ((k 11), aI (Y 0) 7 (ms_h V_10)), ((k 12), aI (Y 0) 420 (ms_m V_10)), ((k 14), oC 7 [.ref xq_28, .ref yq_29]), (xq_28, aI (Y 0) 271 gq_30), (yq_29, aI (Y 0) 271 hq_31)]) [0, 1, 2, 3, 4, 5, 6, 7, 8] rfl rfl ?_
        rw [vI_n32 (rBounds 1 w np ps)]
        have hn_32 := n32_in (rBounds 1 w np ps)
        refine j_i2l (pc := 38) C (by omega) dX9_digest_38 ?_
        refine j_ladd (pc := 39) C dX9_digest_39 ?_
        refine j_lstore_n (pc := 40) (lc' := [(1, vL ((31 * u) + (n32 (rBounds 1 w np ps)))), (0, .ref (k 0)), (3, vI w)]) C 1 rfl (by decide) rfl dX9_digest_40 ?_
        refine j_iinc (pc := 41) (lc' := [(3, vI (w + 1)), (1, vL ((31 * u) + (n32 (rBounds 1 w np ps)))), (0, .ref (k 0))]) C 2 rfl (by decide) rfl dX9_digest_41 ?_
        refine j_goto (pc := 44) C 22 rfl dX9_digest_44 ?_
        refine j_locals (lc' := [(0, .ref (k 0)), (1, vL ((31 * u) + (n32 (rBounds 1 w np ps)))), (3, vI (w + 1))]) [2, 1, 0] rfl ?_
        exact ih22 ((31 * u) + (n32 (rBounds 1 w np ps))) (w + 1) xq_28 yq_29 gq_30 hq_31 (by omega) (by omega) (by rw [fo_succ _ (by omega), ← i22_1]; rfl)
  refine j_locals (lc' := [(0, .ref (k 0)), (1, vL (fo (cusF cs ps np S) nc (fo (parF ps) np (fo (cairnF S) 7 563)))), (3, vI 0)]) [2, 1, 0] rfl ?_
  exact hL22 _ (fo (cusF cs ps np S) nc (fo (parF ps) np (fo (cairnF S) 7 563))) 0 x y g g2 (Nat.lt_succ_self _) (by omega) (fo_zero _ _).symm
