set_option maxHeartbeats 4000000 in
set_option maxRecDepth 100000 in
theorem l_custom (l : Launch) (D : va_G) (Y : Nat → ClassId) (RO : va_W) (k : Nat → Nat) (np : Int) (nc : Int) (S : MS) (pg : Int → Int) (cs : Int → CT) (ps : Int → PT) (W : va_W) (x : Int) (cq : Nat) (g0 : Int → Int)  (hWK : KWs Y k np nc 0 S pg cs ps W) (hx : 0 ≤ x ∧ x ≤ 2147483647) (hnc4 : nc < 4) : jMi l yL_custom wsL_custom { frames := 5, cells := 1, slots := 3, locals := 102 } D Y RO [.ref (k 0), vI x, vI nc, .ref cq] ([(cq, aI (Y 0) 3 g0)] ++ W) (fun e w1 => e = 1 ∧ ∃ (g1 : Int → Int) (C1 : CT) (pg1 : Int → Int) (W1 : va_W), RCu C1 g1 ∧ okC C1 ∧ KWs Y k np (nc + 1) 0 S pg1 (up cs nc C1) ps W1 ∧ w1 = ([(cq, aI (Y 0) 3 g1)] ++ W1)) := by
  refine j_ofz RL rfl rfl rfl (Nat.le_of_ble_eq_true rfl) (fun X C Rt => ?_)
  have hnc0 := hWK.2.2.2.1
  refine j_aload_n (pc := 0) C 3 3 rfl rfl dL_custom_0 ?_
  refine j_iconst (pc := 1) C dL_custom_1 ?_
  refine j_iload_n (pc := 2) C 1 1 rfl rfl dL_custom_2 ?_
  refine j_bipush (pc := 3) (w := 11) C rfl dL_custom_3 ?_
  refine j_irem (pc := 5) C (by omega) dL_custom_5 ?_
  obtain ⟨c0_1, ec0_1, rc0_1⟩ : ∃ z : Int, (x % 11) = z ∧ (0 ≤ z ∧ z ≤ 10) := ⟨_, rfl, (by omega)⟩
  refine j_st (st' := [vI c0_1, vI 0, .ref cq]) rfl rfl (congrArg (fun z => vI z :: [vI 0, .ref cq]) ec0_1) ?_
  refine j_iast (pc := 6) (ws' := ([(cq, aI (Y 0) 3 (up g0 0 c0_1))] ++ W)) C 0 rfl rfl (by omega) (by decide) rfl dL_custom_6 ?_
  refine j_aload_n (pc := 7) C 3 3 rfl rfl dL_custom_7 ?_
  refine j_iconst (pc := 8) C dL_custom_8 ?_
  refine j_iload_n (pc := 9) C 1 1 rfl rfl dL_custom_9 ?_
  refine j_bipush (pc := 10) (w := 16) C rfl dL_custom_10 ?_
  refine j_idiv (pc := 12) C (by omega) dL_custom_12 ?_
  refine j_bipush (pc := 13) (w := 11) C rfl dL_custom_13 ?_
  refine j_irem (pc := 15) C (by omega) dL_custom_15 ?_
  obtain ⟨c1_2, ec1_2, rc1_2⟩ : ∃ z : Int, ((x / 16) % 11) = z ∧ (0 ≤ z ∧ z ≤ 10) := ⟨_, rfl, (by omega)⟩
  refine j_st (st' := [vI c1_2, vI 1, .ref cq]) rfl rfl (congrArg (fun z => vI z :: [vI 1, .ref cq]) ec1_2) ?_
  refine j_iast (pc := 16) (ws' := ([(cq, aI (Y 0) 3 (up (up g0 0 c0_1) 1 c1_2))] ++ W)) C 0 rfl rfl (by omega) (by decide) rfl dL_custom_16 ?_
  refine j_aload_n (pc := 17) C 3 3 rfl rfl dL_custom_17 ?_
  refine j_iconst (pc := 18) C dL_custom_18 ?_
  refine j_iload_n (pc := 19) C 1 1 rfl rfl dL_custom_19 ?_
  refine j_sipush (pc := 20) (w := 256) C rfl dL_custom_20 ?_
  refine j_idiv (pc := 23) C (by omega) dL_custom_23 ?_
  refine j_iconst (pc := 24) C dL_custom_24 ?_
  refine j_irem (pc := 25) C (by omega) dL_custom_25 ?_
  refine j_if_ne (pc := 26) C 42 rfl (by omega) dL_custom_26 (fun h_3p26 => ?_) (fun h_3p26 => ?_)
  · skip
    refine j_iconst (pc := 42) C dL_custom_42 ?_
    refine j_iast (pc := 43) (ws' := ([(cq, aI (Y 0) 3 (up (up (up g0 0 c0_1) 1 c1_2) 2 0))] ++ W)) C 0 rfl rfl (by omega) (by decide) rfl dL_custom_43 ?_
    refine j_aload_n (pc := 44) C 0 0 rfl rfl dL_custom_44 ?_
    refine j_bipush (pc := 45) (w := 119) C rfl dL_custom_45 ?_
    refine j_tailSi (pc := 47) (M0 := [(cq, aI (Y 0) 3 (up (up (up g0 0 c0_1) 1 c1_2) 2 0))]) (PL := W) (wc := []) (As := [.ref (k 0), vI 119]) (na := 2) (st := []) C [] [0] (wr := [(cq, aI (Y 0) 3 (up (up (up g0 0 c0_1) 1 c1_2) 2 0))]) (fun l => l_put l D Y _ k np nc 0 S pg cs ps W 119 hWK (by first | assumption | omega) (by first | assumption | omega)) rfl rfl rfl rfl (by decide) rfl gL_custom_L_put (by decide +kernel) (by decide) rfl rfl (Nat.le_of_ble_eq_true rfl) (by decide) dL_custom_47 (fun e_4 w_5 h_6 => ?_)
    obtain ⟨rfl, qw_5⟩ := h_6
    refine j_st (ws' := [(cq, aI (Y 0) 3 (up (up (up g0 0 c0_1) 1 c1_2) 2 0))] ++ w_5) rfl rfl rfl ?_
    refine j_permT (L' := [(cq, aI (Y 0) 3 (up (up (up g0 0 c0_1) 1 c1_2) 2 0))]) [0] rfl rfl ?_
    refine j_if_eq (pc := 50) C 120 rfl (by omega) dL_custom_50 (fun h_7 => absurd h_7 (by decide)) (fun _ => ?_)
    refine j_aload_n (pc := 53) C 0 0 rfl rfl dL_custom_53 ?_
    refine j_aload_n (pc := 54) C 3 3 rfl rfl dL_custom_54 ?_
    refine j_iconst (pc := 55) C dL_custom_55 ?_
    refine j_iald (pc := 56) C (Or.inl (List.mem_of_getElem? (i := 0) rfl)) rfl (by omega) (by decide) dL_custom_56 ?_
    refine j_st (st' := [vI c0_1, .ref (k 0)]) rfl rfl (congrArg (fun z => vI z :: [.ref (k 0)]) (show (up (up (up g0 0 c0_1) 1 c1_2) 2 0) 0 = c0_1 from rfl)) ?_
    refine j_lawSi (pc := 57) (M0 := [(cq, aI (Y 0) 3 (up (up (up g0 0 c0_1) 1 c1_2) 2 0))]) (PL := w_5) (wc := []) (As := [vI c0_1]) (na := 1) (st := [.ref (k 0)]) C [] [0] (wr := [(cq, aI (Y 0) 3 (up (up (up g0 0 c0_1) 1 c1_2) 2 0))]) (fun l => l_letter l D Y _ c0_1 (by first | assumption | omega)) rfl rfl rfl rfl (by decide) rfl gL_custom_L_letter (by decide +kernel) (by decide) rfl rfl (Nat.le_of_ble_eq_true rfl) (by decide) dL_custom_57 (fun e_8 w_9 h_10 => ?_)
    obtain ⟨rfl, rfl⟩ := h_10
    refine j_permT (L' := [(cq, aI (Y 0) 3 (up (up (up g0 0 c0_1) 1 c1_2) 2 0))]) [0] rfl rfl ?_
    have hl_c0 := ltC_rule (r := c0_1) (show 0 ≤ c0_1 ∧ c0_1 ≤ 10 by omega)
    refine j_tailSi (pc := 60) (M0 := [(cq, aI (Y 0) 3 (up (up (up g0 0 c0_1) 1 c1_2) 2 0))]) (PL := w_5) (wc := []) (As := [.ref (k 0), vI (ltC c0_1)]) (na := 2) (st := []) C [] [0] (wr := [(cq, aI (Y 0) 3 (up (up (up g0 0 c0_1) 1 c1_2) 2 0))]) (fun l => l_put l D Y _ k np nc 1 S (up pg 0 119) cs ps w_5 (ltC c0_1) qw_5 (by first | assumption | omega) (by first | assumption | omega)) rfl rfl rfl rfl (by decide) rfl gL_custom_L_put (by decide +kernel) (by decide) rfl rfl (Nat.le_of_ble_eq_true rfl) (by decide) dL_custom_60 (fun e_11 w_12 h_13 => ?_)
    obtain ⟨rfl, qw_12⟩ := h_13
    refine j_st (ws' := [(cq, aI (Y 0) 3 (up (up (up g0 0 c0_1) 1 c1_2) 2 0))] ++ w_12) rfl rfl rfl ?_
    refine j_permT (L' := [(cq, aI (Y 0) 3 (up (up (up g0 0 c0_1) 1 c1_2) 2 0))]) [0] rfl rfl ?_
    refine j_if_eq (pc := 63) C 120 rfl (by omega) dL_custom_63 (fun h_14 => absurd h_14 (by decide)) (fun _ => ?_)
    refine j_aload_n (pc := 66) C 0 0 rfl rfl dL_custom_66 ?_
    refine j_bipush (pc := 67) (w := 115) C rfl dL_custom_67 ?_
    refine j_tailSi (pc := 69) (M0 := [(cq, aI (Y 0) 3 (up (up (up g0 0 c0_1) 1 c1_2) 2 0))]) (PL := w_12) (wc := []) (As := [.ref (k 0), vI 115]) (na := 2) (st := []) C [] [0] (wr := [(cq, aI (Y 0) 3 (up (up (up g0 0 c0_1) 1 c1_2) 2 0))]) (fun l => l_put l D Y _ k np nc 2 S (up (up pg 0 119) 1 (ltC c0_1)) cs ps w_12 115 qw_12 (by first | assumption | omega) (by first | assumption | omega)) rfl rfl rfl rfl (by decide) rfl gL_custom_L_put (by decide +kernel) (by decide) rfl rfl (Nat.le_of_ble_eq_true rfl) (by decide) dL_custom_69 (fun e_15 w_16 h_17 => ?_)
    obtain ⟨rfl, qw_16⟩ := h_17
    refine j_st (ws' := [(cq, aI (Y 0) 3 (up (up (up g0 0 c0_1) 1 c1_2) 2 0))] ++ w_16) rfl rfl rfl ?_
    refine j_permT (L' := [(cq, aI (Y 0) 3 (up (up (up g0 0 c0_1) 1 c1_2) 2 0))]) [0] rfl rfl ?_
    refine j_if_eq (pc := 72) C 120 rfl (by omega) dL_custom_72 (fun h_18 => absurd h_18 (by decide)) (fun _ => ?_)
    refine j_aload_n (pc := 75) C 0 0 rfl rfl dL_custom_75 ?_
    refine j_aload_n (pc := 76) C 3 3 rfl rfl dL_custom_76 ?_
    refine j_iconst (pc := 77) C dL_custom_77 ?_
    refine j_iald (pc := 78) C (Or.inl (List.mem_of_getElem? (i := 0) rfl)) rfl (by omega) (by decide) dL_custom_78 ?_
    refine j_st (st' := [vI c1_2, .ref (k 0)]) rfl rfl (congrArg (fun z => vI z :: [.ref (k 0)]) (show (up (up (up g0 0 c0_1) 1 c1_2) 2 0) 1 = c1_2 from rfl)) ?_
    refine j_lawSi (pc := 79) (M0 := [(cq, aI (Y 0) 3 (up (up (up g0 0 c0_1) 1 c1_2) 2 0))]) (PL := w_16) (wc := []) (As := [vI c1_2]) (na := 1) (st := [.ref (k 0)]) C [] [0] (wr := [(cq, aI (Y 0) 3 (up (up (up g0 0 c0_1) 1 c1_2) 2 0))]) (fun l => l_letter l D Y _ c1_2 (by first | assumption | omega)) rfl rfl rfl rfl (by decide) rfl gL_custom_L_letter (by decide +kernel) (by decide) rfl rfl (Nat.le_of_ble_eq_true rfl) (by decide) dL_custom_79 (fun e_19 w_20 h_21 => ?_)
    obtain ⟨rfl, rfl⟩ := h_21
    refine j_permT (L' := [(cq, aI (Y 0) 3 (up (up (up g0 0 c0_1) 1 c1_2) 2 0))]) [0] rfl rfl ?_
    have hl_c1 := ltC_rule (r := c1_2) (show 0 ≤ c1_2 ∧ c1_2 ≤ 10 by omega)
    refine j_tailSi (pc := 82) (M0 := [(cq, aI (Y 0) 3 (up (up (up g0 0 c0_1) 1 c1_2) 2 0))]) (PL := w_16) (wc := []) (As := [.ref (k 0), vI (ltC c1_2)]) (na := 2) (st := []) C [] [0] (wr := [(cq, aI (Y 0) 3 (up (up (up g0 0 c0_1) 1 c1_2) 2 0))]) (fun l => l_put l D Y _ k np nc 3 S (up (up (up pg 0 119) 1 (ltC c0_1)) 2 115) cs ps w_16 (ltC c1_2) qw_16 (by first | assumption | omega) (by first | assumption | omega)) rfl rfl rfl rfl (by decide) rfl gL_custom_L_put (by decide +kernel) (by decide) rfl rfl (Nat.le_of_ble_eq_true rfl) (by decide) dL_custom_82 (fun e_22 w_23 h_24 => ?_)
    obtain ⟨rfl, qw_23⟩ := h_24
    refine j_st (ws' := [(cq, aI (Y 0) 3 (up (up (up g0 0 c0_1) 1 c1_2) 2 0))] ++ w_23) rfl rfl rfl ?_
    refine j_permT (L' := [(cq, aI (Y 0) 3 (up (up (up g0 0 c0_1) 1 c1_2) 2 0))]) [0] rfl rfl ?_
    refine j_if_eq (pc := 85) C 120 rfl (by omega) dL_custom_85 (fun h_25 => absurd h_25 (by decide)) (fun _ => ?_)
    refine j_aload_n (pc := 88) C 3 3 rfl rfl dL_custom_88 ?_
    refine j_iconst (pc := 89) C dL_custom_89 ?_
    refine j_iald (pc := 90) C (Or.inl (List.mem_of_getElem? (i := 0) rfl)) rfl (by omega) (by decide) dL_custom_90 ?_
    refine j_st (st' := [vI 0]) rfl rfl (congrArg (fun z => vI z :: []) (up_same _ _ _)) ?_
    refine j_if_eq (pc := 91) C 116 rfl (by omega) dL_custom_91 (fun _ => ?_) (fun h_26 => absurd h_26 (by decide))
    refine j_iconst (pc := 116) C dL_custom_116 ?_
    refine j_goto (pc := 117) C 121 rfl dL_custom_117 ?_
    refine j_istore (pc := 121) (lc' := [(4, vI 1), (0, .ref (k 0)), (1, vI x), (2, vI nc), (3, .ref cq)]) C (by decide) rfl dL_custom_121 ?_
    refine j_iload (pc := 123) C 0 rfl dL_custom_123 ?_
    refine j_if_eq (pc := 125) C 153 rfl (by omega) dL_custom_125 (fun h_27 => absurd h_27 (by decide)) (fun _ => ?_)
    have hq := cus4 (pg := (up (up (up (up pg 0 119) 1 (ltC c0_1)) 2 115) 3 (ltC c1_2))) (a := c0_1) (b := c1_2) (show 0 ≤ c0_1 ∧ c0_1 ≤ 10 by omega) (show 0 ≤ c1_2 ∧ c1_2 ≤ 10 by omega) rfl rfl rfl rfl
    refine j_aload_n (pc := 128) C 0 1 rfl rfl dL_custom_128 ?_
    refine tc_fault (pc := 129) (st := []) C qw_23  gL_custom_X9_fault (by decide) rfl (by decide) dL_custom_129 (fun W_28 hW_29 => ?_)
    refine j_st (st' := [vI 4]) rfl rfl (congrArg (fun z => vI z :: []) (show (faultI (up (up (up (up pg 0 119) 1 (ltC c0_1)) 2 115) 3 (ltC c1_2)) 4) = 4 from hq.1)) ?_
    refine j_aload_n (pc := 132) C 0 1 rfl rfl dL_custom_132 ?_
    refine j_bipush (pc := 133) (w := 9) C rfl dL_custom_133 ?_
    refine tc_count (pc := 135) (st := [vI 4]) C hW_29 (by omega) gL_custom_X9_count (by decide) rfl (by decide) dL_custom_135 (fun W_30 hW_31 => ?_)
    refine j_st (st' := [vI 4, vI 4]) rfl rfl (congrArg (fun z => vI z :: [vI 4]) (show (rCount 9 np nc 4 S) = 4 from rfl)) ?_
    refine j_icmp_ne (pc := 138) C 153 rfl (by omega) dL_custom_138 (fun h_32 => absurd h_32 (by decide)) (fun _ => ?_)
    refine j_aload_n (pc := 141) C 0 1 rfl rfl dL_custom_141 ?_
    refine tc_custom (pc := 142) (st := []) C hW_31 ⟨hq.2.1, hnc4⟩ gL_custom_X9_custom (by decide) rfl (by decide) dL_custom_142 (fun W_33 hW_34 => ?_)
    refine j_st (st' := [vI nc]) rfl rfl (congrArg (fun z => vI z :: []) (show (rCustom (up (up (up (up pg 0 119) 1 (ltC c0_1)) 2 115) 3 (ltC c1_2)) 4 nc) = nc from by unfold rCustom; rw [if_neg (not_not_intro hq.2.1), if_neg (by omega)])) ?_
    refine j_iload_n (pc := 145) C 2 3 rfl rfl dL_custom_145 ?_
    refine j_icmpSn (pc := 146) C 153 rfl dL_custom_146 ?_
    refine j_iconst (pc := 149) C dL_custom_149 ?_
    refine j_goto (pc := 150) C 154 rfl dL_custom_150 ?_
    rw [show cusI (up (up (up (up pg 0 119) 1 (ltC c0_1)) 2 115) 3 (ltC c1_2)) (3 + 1) = (c0_1, c1_2, 0) from hq.2.2] at hW_34
    exact Rt _ _ _ _ _ _ (by decide) (by decide) (by decide) ⟨rfl, _, (c0_1, c1_2, 0), _, _, ⟨rfl, rfl, rfl⟩, ⟨(show 0 ≤ c0_1 ∧ c0_1 ≤ 10 by omega), (show 0 ≤ c1_2 ∧ c1_2 ≤ 10 by omega), (show 0 ≤ 0 ∧ 0 ≤ 9 by omega)⟩, hW_34, rfl⟩ dL_custom_154
  · skip
    refine j_iconst (pc := 29) C dL_custom_29 ?_
    refine j_iload_n (pc := 30) C 1 1 rfl rfl dL_custom_30 ?_
    refine j_sipush (pc := 31) (w := 1024) C rfl dL_custom_31 ?_
    refine j_idiv (pc := 34) C (by omega) dL_custom_34 ?_
    refine j_bipush (pc := 35) (w := 9) C rfl dL_custom_35 ?_
    refine j_irem (pc := 37) C (by omega) dL_custom_37 ?_
    refine j_iadd (pc := 38) C dL_custom_38 ?_
    obtain ⟨c2_35, ec2_35, rc2_35⟩ : ∃ z : Int, (1 + ((x / 1024) % 9)) = z ∧ (1 ≤ z ∧ z ≤ 9) := ⟨_, rfl, (by omega)⟩
    refine j_st (st' := [vI c2_35, vI 2, .ref cq]) rfl rfl (congrArg (fun z => vI z :: [vI 2, .ref cq]) ec2_35) ?_
    refine j_goto (pc := 39) C 43 rfl dL_custom_39 ?_
    refine j_iast (pc := 43) (ws' := ([(cq, aI (Y 0) 3 (up (up (up g0 0 c0_1) 1 c1_2) 2 c2_35))] ++ W)) C 0 rfl rfl (by omega) (by decide) rfl dL_custom_43 ?_
    refine j_aload_n (pc := 44) C 0 0 rfl rfl dL_custom_44 ?_
    refine j_bipush (pc := 45) (w := 119) C rfl dL_custom_45 ?_
    refine j_tailSi (pc := 47) (M0 := [(cq, aI (Y 0) 3 (up (up (up g0 0 c0_1) 1 c1_2) 2 c2_35))]) (PL := W) (wc := []) (As := [.ref (k 0), vI 119]) (na := 2) (st := []) C [] [0] (wr := [(cq, aI (Y 0) 3 (up (up (up g0 0 c0_1) 1 c1_2) 2 c2_35))]) (fun l => l_put l D Y _ k np nc 0 S pg cs ps W 119 hWK (by first | assumption | omega) (by first | assumption | omega)) rfl rfl rfl rfl (by decide) rfl gL_custom_L_put (by decide +kernel) (by decide) rfl rfl (Nat.le_of_ble_eq_true rfl) (by decide) dL_custom_47 (fun e_36 w_37 h_38 => ?_)
    obtain ⟨rfl, qw_37⟩ := h_38
    refine j_st (ws' := [(cq, aI (Y 0) 3 (up (up (up g0 0 c0_1) 1 c1_2) 2 c2_35))] ++ w_37) rfl rfl rfl ?_
    refine j_permT (L' := [(cq, aI (Y 0) 3 (up (up (up g0 0 c0_1) 1 c1_2) 2 c2_35))]) [0] rfl rfl ?_
    refine j_if_eq (pc := 50) C 120 rfl (by omega) dL_custom_50 (fun h_39 => absurd h_39 (by decide)) (fun _ => ?_)
    refine j_aload_n (pc := 53) C 0 0 rfl rfl dL_custom_53 ?_
    refine j_aload_n (pc := 54) C 3 3 rfl rfl dL_custom_54 ?_
    refine j_iconst (pc := 55) C dL_custom_55 ?_
    refine j_iald (pc := 56) C (Or.inl (List.mem_of_getElem? (i := 0) rfl)) rfl (by omega) (by decide) dL_custom_56 ?_
    refine j_st (st' := [vI c0_1, .ref (k 0)]) rfl rfl (congrArg (fun z => vI z :: [.ref (k 0)]) (show (up (up (up g0 0 c0_1) 1 c1_2) 2 c2_35) 0 = c0_1 from rfl)) ?_
    refine j_lawSi (pc := 57) (M0 := [(cq, aI (Y 0) 3 (up (up (up g0 0 c0_1) 1 c1_2) 2 c2_35))]) (PL := w_37) (wc := []) (As := [vI c0_1]) (na := 1) (st := [.ref (k 0)]) C [] [0] (wr := [(cq, aI (Y 0) 3 (up (up (up g0 0 c0_1) 1 c1_2) 2 c2_35))]) (fun l => l_letter l D Y _ c0_1 (by first | assumption | omega)) rfl rfl rfl rfl (by decide) rfl gL_custom_L_letter (by decide +kernel) (by decide) rfl rfl (Nat.le_of_ble_eq_true rfl) (by decide) dL_custom_57 (fun e_40 w_41 h_42 => ?_)
    obtain ⟨rfl, rfl⟩ := h_42
    refine j_permT (L' := [(cq, aI (Y 0) 3 (up (up (up g0 0 c0_1) 1 c1_2) 2 c2_35))]) [0] rfl rfl ?_
    have hl_c0 := ltC_rule (r := c0_1) (show 0 ≤ c0_1 ∧ c0_1 ≤ 10 by omega)
    refine j_tailSi (pc := 60) (M0 := [(cq, aI (Y 0) 3 (up (up (up g0 0 c0_1) 1 c1_2) 2 c2_35))]) (PL := w_37) (wc := []) (As := [.ref (k 0), vI (ltC c0_1)]) (na := 2) (st := []) C [] [0] (wr := [(cq, aI (Y 0) 3 (up (up (up g0 0 c0_1) 1 c1_2) 2 c2_35))]) (fun l => l_put l D Y _ k np nc 1 S (up pg 0 119) cs ps w_37 (ltC c0_1) qw_37 (by first | assumption | omega) (by first | assumption | omega)) rfl rfl rfl rfl (by decide) rfl gL_custom_L_put (by decide +kernel) (by decide) rfl rfl (Nat.le_of_ble_eq_true rfl) (by decide) dL_custom_60 (fun e_43 w_44 h_45 => ?_)
    obtain ⟨rfl, qw_44⟩ := h_45
    refine j_st (ws' := [(cq, aI (Y 0) 3 (up (up (up g0 0 c0_1) 1 c1_2) 2 c2_35))] ++ w_44) rfl rfl rfl ?_
    refine j_permT (L' := [(cq, aI (Y 0) 3 (up (up (up g0 0 c0_1) 1 c1_2) 2 c2_35))]) [0] rfl rfl ?_
    refine j_if_eq (pc := 63) C 120 rfl (by omega) dL_custom_63 (fun h_46 => absurd h_46 (by decide)) (fun _ => ?_)
    refine j_aload_n (pc := 66) C 0 0 rfl rfl dL_custom_66 ?_
    refine j_bipush (pc := 67) (w := 115) C rfl dL_custom_67 ?_
    refine j_tailSi (pc := 69) (M0 := [(cq, aI (Y 0) 3 (up (up (up g0 0 c0_1) 1 c1_2) 2 c2_35))]) (PL := w_44) (wc := []) (As := [.ref (k 0), vI 115]) (na := 2) (st := []) C [] [0] (wr := [(cq, aI (Y 0) 3 (up (up (up g0 0 c0_1) 1 c1_2) 2 c2_35))]) (fun l => l_put l D Y _ k np nc 2 S (up (up pg 0 119) 1 (ltC c0_1)) cs ps w_44 115 qw_44 (by first | assumption | omega) (by first | assumption | omega)) rfl rfl rfl rfl (by decide) rfl gL_custom_L_put (by decide +kernel) (by decide) rfl rfl (Nat.le_of_ble_eq_true rfl) (by decide) dL_custom_69 (fun e_47 w_48 h_49 => ?_)
    obtain ⟨rfl, qw_48⟩ := h_49
    refine j_st (ws' := [(cq, aI (Y 0) 3 (up (up (up g0 0 c0_1) 1 c1_2) 2 c2_35))] ++ w_48) rfl rfl rfl ?_
    refine j_permT (L' := [(cq, aI (Y 0) 3 (up (up (up g0 0 c0_1) 1 c1_2) 2 c2_35))]) [0] rfl rfl ?_
    refine j_if_eq (pc := 72) C 120 rfl (by omega) dL_custom_72 (fun h_50 => absurd h_50 (by decide)) (fun _ => ?_)
    refine j_aload_n (pc := 75) C 0 0 rfl rfl dL_custom_75 ?_
    refine j_aload_n (pc := 76) C 3 3 rfl rfl dL_custom_76 ?_
    refine j_iconst (pc := 77) C dL_custom_77 ?_
    refine j_iald (pc := 78) C (Or.inl (List.mem_of_getElem? (i := 0) rfl)) rfl (by omega) (by decide) dL_custom_78 ?_
    refine j_st (st' := [vI c1_2, .ref (k 0)]) rfl rfl (congrArg (fun z => vI z :: [.ref (k 0)]) (show (up (up (up g0 0 c0_1) 1 c1_2) 2 c2_35) 1 = c1_2 from rfl)) ?_
    refine j_lawSi (pc := 79) (M0 := [(cq, aI (Y 0) 3 (up (up (up g0 0 c0_1) 1 c1_2) 2 c2_35))]) (PL := w_48) (wc := []) (As := [vI c1_2]) (na := 1) (st := [.ref (k 0)]) C [] [0] (wr := [(cq, aI (Y 0) 3 (up (up (up g0 0 c0_1) 1 c1_2) 2 c2_35))]) (fun l => l_letter l D Y _ c1_2 (by first | assumption | omega)) rfl rfl rfl rfl (by decide) rfl gL_custom_L_letter (by decide +kernel) (by decide) rfl rfl (Nat.le_of_ble_eq_true rfl) (by decide) dL_custom_79 (fun e_51 w_52 h_53 => ?_)
    obtain ⟨rfl, rfl⟩ := h_53
    refine j_permT (L' := [(cq, aI (Y 0) 3 (up (up (up g0 0 c0_1) 1 c1_2) 2 c2_35))]) [0] rfl rfl ?_
    have hl_c1 := ltC_rule (r := c1_2) (show 0 ≤ c1_2 ∧ c1_2 ≤ 10 by omega)
    refine j_tailSi (pc := 82) (M0 := [(cq, aI (Y 0) 3 (up (up (up g0 0 c0_1) 1 c1_2) 2 c2_35))]) (PL := w_48) (wc := []) (As := [.ref (k 0), vI (ltC c1_2)]) (na := 2) (st := []) C [] [0] (wr := [(cq, aI (Y 0) 3 (up (up (up g0 0 c0_1) 1 c1_2) 2 c2_35))]) (fun l => l_put l D Y _ k np nc 3 S (up (up (up pg 0 119) 1 (ltC c0_1)) 2 115) cs ps w_48 (ltC c1_2) qw_48 (by first | assumption | omega) (by first | assumption | omega)) rfl rfl rfl rfl (by decide) rfl gL_custom_L_put (by decide +kernel) (by decide) rfl rfl (Nat.le_of_ble_eq_true rfl) (by decide) dL_custom_82 (fun e_54 w_55 h_56 => ?_)
    obtain ⟨rfl, qw_55⟩ := h_56
    refine j_st (ws' := [(cq, aI (Y 0) 3 (up (up (up g0 0 c0_1) 1 c1_2) 2 c2_35))] ++ w_55) rfl rfl rfl ?_
    refine j_permT (L' := [(cq, aI (Y 0) 3 (up (up (up g0 0 c0_1) 1 c1_2) 2 c2_35))]) [0] rfl rfl ?_
    refine j_if_eq (pc := 85) C 120 rfl (by omega) dL_custom_85 (fun h_57 => absurd h_57 (by decide)) (fun _ => ?_)
    refine j_aload_n (pc := 88) C 3 3 rfl rfl dL_custom_88 ?_
    refine j_iconst (pc := 89) C dL_custom_89 ?_
    refine j_iald (pc := 90) C (Or.inl (List.mem_of_getElem? (i := 0) rfl)) rfl (by omega) (by decide) dL_custom_90 ?_
    refine j_st (st' := [vI c2_35]) rfl rfl (congrArg (fun z => vI z :: []) (up_same _ _ _)) ?_
    refine j_st (st' := [vI c2_35]) rfl rfl (congrArg (fun z => vI z :: []) (show c2_35 = c2_35 from rfl)) ?_
    refine j_if_eq (pc := 91) C 116 rfl (by omega) dL_custom_91 (fun h_58p91 => ?_) (fun h_58p91 => ?_)
    · skip
      exfalso; omega
    · skip
      refine j_aload_n (pc := 94) C 0 0 rfl rfl dL_custom_94 ?_
      refine j_bipush (pc := 95) (w := 102) C rfl dL_custom_95 ?_
      refine j_tailSi (pc := 97) (M0 := [(cq, aI (Y 0) 3 (up (up (up g0 0 c0_1) 1 c1_2) 2 c2_35))]) (PL := w_55) (wc := []) (As := [.ref (k 0), vI 102]) (na := 2) (st := []) C [] [0] (wr := [(cq, aI (Y 0) 3 (up (up (up g0 0 c0_1) 1 c1_2) 2 c2_35))]) (fun l => l_put l D Y _ k np nc 4 S (up (up (up (up pg 0 119) 1 (ltC c0_1)) 2 115) 3 (ltC c1_2)) cs ps w_55 102 qw_55 (by first | assumption | omega) (by first | assumption | omega)) rfl rfl rfl rfl (by decide) rfl gL_custom_L_put (by decide +kernel) (by decide) rfl rfl (Nat.le_of_ble_eq_true rfl) (by decide) dL_custom_97 (fun e_59 w_60 h_61 => ?_)
      obtain ⟨rfl, qw_60⟩ := h_61
      refine j_st (ws' := [(cq, aI (Y 0) 3 (up (up (up g0 0 c0_1) 1 c1_2) 2 c2_35))] ++ w_60) rfl rfl rfl ?_
      refine j_permT (L' := [(cq, aI (Y 0) 3 (up (up (up g0 0 c0_1) 1 c1_2) 2 c2_35))]) [0] rfl rfl ?_
      refine j_if_eq (pc := 100) C 120 rfl (by omega) dL_custom_100 (fun h_62 => absurd h_62 (by decide)) (fun _ => ?_)
      refine j_aload_n (pc := 103) C 0 0 rfl rfl dL_custom_103 ?_
      refine j_bipush (pc := 104) (w := 48) C rfl dL_custom_104 ?_
      refine j_aload_n (pc := 106) C 3 3 rfl rfl dL_custom_106 ?_
      refine j_iconst (pc := 107) C dL_custom_107 ?_
      refine j_iald (pc := 108) C (Or.inl (List.mem_of_getElem? (i := 0) rfl)) rfl (by omega) (by decide) dL_custom_108 ?_
      refine j_st (st' := [vI c2_35, vI 48, .ref (k 0)]) rfl rfl (congrArg (fun z => vI z :: [vI 48, .ref (k 0)]) (up_same _ _ _)) ?_
      refine j_st (st' := [vI c2_35, vI 48, .ref (k 0)]) rfl rfl (congrArg (fun z => vI z :: [vI 48, .ref (k 0)]) (show c2_35 = c2_35 from rfl)) ?_
      refine j_iadd (pc := 109) C dL_custom_109 ?_
      refine j_tailSi (pc := 110) (M0 := [(cq, aI (Y 0) 3 (up (up (up g0 0 c0_1) 1 c1_2) 2 c2_35))]) (PL := w_60) (wc := []) (As := [.ref (k 0), vI (48 + c2_35)]) (na := 2) (st := []) C [] [0] (wr := [(cq, aI (Y 0) 3 (up (up (up g0 0 c0_1) 1 c1_2) 2 c2_35))]) (fun l => l_put l D Y _ k np nc 5 S (up (up (up (up (up pg 0 119) 1 (ltC c0_1)) 2 115) 3 (ltC c1_2)) 4 102) cs ps w_60 (48 + c2_35) qw_60 (by first | assumption | omega) (by first | assumption | omega)) rfl rfl rfl rfl (by decide) rfl gL_custom_L_put (by decide +kernel) (by decide) rfl rfl (Nat.le_of_ble_eq_true rfl) (by decide) dL_custom_110 (fun e_63 w_64 h_65 => ?_)
      obtain ⟨rfl, qw_64⟩ := h_65
      refine j_st (ws' := [(cq, aI (Y 0) 3 (up (up (up g0 0 c0_1) 1 c1_2) 2 c2_35))] ++ w_64) rfl rfl rfl ?_
      refine j_permT (L' := [(cq, aI (Y 0) 3 (up (up (up g0 0 c0_1) 1 c1_2) 2 c2_35))]) [0] rfl rfl ?_
      refine j_if_eq (pc := 113) C 120 rfl (by omega) dL_custom_113 (fun h_66 => absurd h_66 (by decide)) (fun _ => ?_)
      refine j_iconst (pc := 116) C dL_custom_116 ?_
      refine j_goto (pc := 117) C 121 rfl dL_custom_117 ?_
      refine j_istore (pc := 121) (lc' := [(4, vI 1), (0, .ref (k 0)), (1, vI x), (2, vI nc), (3, .ref cq)]) C (by decide) rfl dL_custom_121 ?_
      refine j_iload (pc := 123) C 0 rfl dL_custom_123 ?_
      refine j_if_eq (pc := 125) C 153 rfl (by omega) dL_custom_125 (fun h_67 => absurd h_67 (by decide)) (fun _ => ?_)
      have hq := cus6 (pg := (up (up (up (up (up (up pg 0 119) 1 (ltC c0_1)) 2 115) 3 (ltC c1_2)) 4 102) 5 (48 + c2_35))) (a := c0_1) (b := c1_2) (e := c2_35) (show 0 ≤ c0_1 ∧ c0_1 ≤ 10 by omega) (show 0 ≤ c1_2 ∧ c1_2 ≤ 10 by omega) (by omega) rfl rfl rfl rfl rfl rfl
      refine j_aload_n (pc := 128) C 0 1 rfl rfl dL_custom_128 ?_
      refine tc_fault (pc := 129) (st := []) C qw_64  gL_custom_X9_fault (by decide) rfl (by decide) dL_custom_129 (fun W_68 hW_69 => ?_)
      refine j_st (st' := [vI 6]) rfl rfl (congrArg (fun z => vI z :: []) (show (faultI (up (up (up (up (up (up pg 0 119) 1 (ltC c0_1)) 2 115) 3 (ltC c1_2)) 4 102) 5 (48 + c2_35)) 6) = 6 from hq.1)) ?_
      refine j_aload_n (pc := 132) C 0 1 rfl rfl dL_custom_132 ?_
      refine j_bipush (pc := 133) (w := 9) C rfl dL_custom_133 ?_
      refine tc_count (pc := 135) (st := [vI 6]) C hW_69 (by omega) gL_custom_X9_count (by decide) rfl (by decide) dL_custom_135 (fun W_70 hW_71 => ?_)
      refine j_st (st' := [vI 6, vI 6]) rfl rfl (congrArg (fun z => vI z :: [vI 6]) (show (rCount 9 np nc 6 S) = 6 from rfl)) ?_
      refine j_icmp_ne (pc := 138) C 153 rfl (by omega) dL_custom_138 (fun h_72 => absurd h_72 (by decide)) (fun _ => ?_)
      refine j_aload_n (pc := 141) C 0 1 rfl rfl dL_custom_141 ?_
      refine tc_custom (pc := 142) (st := []) C hW_71 ⟨hq.2.1, hnc4⟩ gL_custom_X9_custom (by decide) rfl (by decide) dL_custom_142 (fun W_73 hW_74 => ?_)
      refine j_st (st' := [vI nc]) rfl rfl (congrArg (fun z => vI z :: []) (show (rCustom (up (up (up (up (up (up pg 0 119) 1 (ltC c0_1)) 2 115) 3 (ltC c1_2)) 4 102) 5 (48 + c2_35)) 6 nc) = nc from by unfold rCustom; rw [if_neg (not_not_intro hq.2.1), if_neg (by omega)])) ?_
      refine j_iload_n (pc := 145) C 2 3 rfl rfl dL_custom_145 ?_
      refine j_icmpSn (pc := 146) C 153 rfl dL_custom_146 ?_
      refine j_iconst (pc := 149) C dL_custom_149 ?_
      refine j_goto (pc := 150) C 154 rfl dL_custom_150 ?_
      rw [show cusI (up (up (up (up (up (up pg 0 119) 1 (ltC c0_1)) 2 115) 3 (ltC c1_2)) 4 102) 5 (48 + c2_35)) (5 + 1) = (c0_1, c1_2, c2_35) from hq.2.2] at hW_74
      exact Rt _ _ _ _ _ _ (by decide) (by decide) (by decide) ⟨rfl, _, (c0_1, c1_2, c2_35), _, _, ⟨rfl, rfl, rfl⟩, ⟨(show 0 ≤ c0_1 ∧ c0_1 ≤ 10 by omega), (show 0 ≤ c1_2 ∧ c1_2 ≤ 10 by omega), (show 0 ≤ c2_35 ∧ c2_35 ≤ 9 by omega)⟩, hW_74, rfl⟩ dL_custom_154

set_option maxHeartbeats 4000000 in
set_option maxRecDepth 100000 in
theorem l_parishes (l : Launch) (D : va_G) (Y : Nat → ClassId) (RO : va_W) (b L : Nat) (xs : Nat → Int32) (hL : L ≤ 3072) (k : Nat → Nat) (nc : Int) (pl : Int) (S : MS) (pg : Int → Int) (cs : Int → CT) (ps : Int → PT) (W : va_W) (at_ : Int) (many : Int) (most : Int) (wq : Nat) (g0 : Int → Int)  (hWK : KWs Y k 0 nc pl S pg cs ps W) (hat : 0 ≤ at_ ∧ at_ ≤ 100) (hmany : 0 ≤ many ∧ many ≤ 6) (hmost : 1 ≤ most ∧ most ≤ 9) : jMiX l yL_parishes wsL_parishes { frames := 6, cells := 6, slots := 24, locals := 200 } D Y RO b L xs [.ref (k 0), .ref b, vI at_, vI many, vI most, .ref wq] ([(wq, aI (Y 0) 30 g0)] ++ W) (fun e w1 => e = 1 ∧ ∃ (g1 : Int → Int) (ps1 : Int → PT) (W1 : va_W), RWho many ps1 g1 ∧ KWs Y k many nc pl S pg cs ps1 W1 ∧ w1 = ([(wq, aI (Y 0) 30 g1)] ++ W1)) := by
  refine j_ofzX RL rfl rfl rfl (Nat.le_of_ble_eq_true rfl) (fun X C hSc Rt => ?_)
  refine j_iconst (pc := 0) C dL_parishes_0 ?_
  refine j_istore (pc := 1) (lc' := [(6, vI 0), (0, .ref (k 0)), (1, .ref b), (2, vI at_), (3, vI many), (4, vI most), (5, .ref wq)]) C (by decide) rfl dL_parishes_1 ?_
  have hL3 : ∀ (N3 : Nat) (p : Int) (g2 : Int → Int) (ps2 : Int → PT) (W2 : va_W) (kk : Nat) (nn : Nat), ((many - p).toNat) < N3 → (0 ≤ p ∧ p ≤ many) → (RWho p ps2 g2) → (KWs Y k p nc pl S pg cs ps2 W2) → ((kk : Int) ≤ p) → ((nn : Int) ≤ 4 * p) → jW X 9 kk nn ([(wq, aI (Y 0) 30 g2)] ++ W2) [(0, .ref (k 0)), (1, .ref b), (2, vI at_), (3, vI many), (4, vI most), (5, .ref wq), (6, vI p)] 3 [] := by
    intro N3
    induction N3 with
    | zero => intro p g2 ps2 W2 kk nn hm3 i3_0 i3_1 i3_2 i3_3 i3_4; omega
    | succ N3 ih3 =>
      intro p g2 ps2 W2 kk nn hm3 i3_0 i3_1 i3_2 i3_3 i3_4
      refine j_iload (pc := 3) C 6 rfl dL_parishes_3 ?_
      refine j_iload_n (pc := 5) C 3 3 rfl rfl dL_parishes_5 ?_
      refine j_icmp_ge (pc := 6) C 188 rfl (by omega) dL_parishes_6 (fun h_1p6 => ?_) (fun h_1p6 => ?_)
      · skip
        refine j_iconst (pc := 188) C dL_parishes_188 ?_
        obtain rfl : p = many := by omega
        exact Rt _ _ _ _ _ _ (show kk + 0 ≤ 6 by omega) (show nn + 0 ≤ 24 by omega) (by decide) ⟨rfl, _, _, _, i3_1, i3_2, rfl⟩ dL_parishes_189
      · skip
        refine j_aload_n (pc := 9) C 1 1 rfl rfl dL_parishes_9 ?_
        refine j_iload_n (pc := 10) C 2 2 rfl rfl dL_parishes_10 ?_
        refine j_iload (pc := 11) C 6 rfl dL_parishes_11 ?_
        refine j_iadd (pc := 13) C dL_parishes_13 ?_
        refine j_lawSiX (pc := 14) (M0 := [(wq, aI (Y 0) 30 g2)]) (PL := W2) (wc := []) (As := [.ref b, vI (at_ + p)]) (na := 2) (st := []) C [] [0] (wr := [(wq, aI (Y 0) 30 g2)]) hSc (fun l => l_cell l D Y _ b L xs hL (at_ + p) (by first | assumption | omega)) rfl rfl rfl rfl (by decide) rfl gL_parishes_L_cell (by decide +kernel) (by decide) rfl rfl (Nat.le_of_ble_eq_true rfl) ⟨show kk + 0 + 0 ≤ 6 by omega, show nn + 0 + 0 ≤ 24 by omega⟩ dL_parishes_14 (fun e_2 w_3 h_4 => ?_)
        obtain ⟨ce_2, rfl⟩ := h_4
        refine j_permT (L' := [(wq, aI (Y 0) 30 g2)]) [0] rfl rfl ?_
        refine j_istore (pc := 17) (lc' := [(7, vI e_2), (0, .ref (k 0)), (1, .ref b), (2, vI at_), (3, vI many), (4, vI most), (5, .ref wq), (6, vI p)]) C (by decide) rfl dL_parishes_17 ?_
        refine j_iload (pc := 19) C 0 rfl dL_parishes_19 ?_
        refine j_iconst (pc := 21) C dL_parishes_21 ?_
        refine j_irem (pc := 22) C (by omega) dL_parishes_22 ?_
        obtain ⟨kd_5, ekd_5, rkd_5⟩ : ∃ z : Int, (e_2 % 4) = z ∧ (0 ≤ z ∧ z ≤ 3) := ⟨_, rfl, (by omega)⟩
        refine j_st (st' := [vI kd_5]) rfl rfl (congrArg (fun z => vI z :: []) ekd_5) ?_
        refine j_istore (pc := 23) (lc' := [(8, vI kd_5), (7, vI e_2), (0, .ref (k 0)), (1, .ref b), (2, vI at_), (3, vI many), (4, vI most), (5, .ref wq), (6, vI p)]) C (by decide) rfl dL_parishes_23 ?_
        refine j_aload (pc := 25) C 7 rfl dL_parishes_25 ?_
        refine j_iconst (pc := 27) C dL_parishes_27 ?_
        refine j_iload (pc := 28) C 8 rfl dL_parishes_28 ?_
        refine j_imul (pc := 30) C dL_parishes_30 ?_
        refine j_iload (pc := 31) C 0 rfl dL_parishes_31 ?_
        refine j_iast (pc := 33) (ws' := ([(wq, aI (Y 0) 30 (up g2 (5 * p) kd_5))] ++ W2)) C 0 rfl rfl (by omega) (by decide) rfl dL_parishes_33 ?_
        refine j_aload (pc := 34) C 7 rfl dL_parishes_34 ?_
        refine j_iconst (pc := 36) C dL_parishes_36 ?_
        refine j_iload (pc := 37) C 8 rfl dL_parishes_37 ?_
        refine j_imul (pc := 39) C dL_parishes_39 ?_
        refine j_iconst (pc := 40) C dL_parishes_40 ?_
        refine j_iadd (pc := 41) C dL_parishes_41 ?_
        refine j_iload (pc := 42) C 0 rfl dL_parishes_42 ?_
        refine j_if_ne (pc := 44) C 51 rfl (by omega) dL_parishes_44 (fun h_6p44 => ?_) (fun h_6p44 => ?_)
        · skip
          refine j_iload (pc := 51) C 0 rfl dL_parishes_51 ?_
          refine j_iconst (pc := 53) C dL_parishes_53 ?_
          refine j_icmp_ne (pc := 54) C 69 rfl (by omega) dL_parishes_54 (fun h_7p54 => ?_) (fun h_7p54 => ?_)
          · skip
            refine j_iload (pc := 69) C 1 rfl dL_parishes_69 ?_
            refine j_bipush (pc := 71) (w := 8) C rfl dL_parishes_71 ?_
            refine j_idiv (pc := 73) C (by omega) dL_parishes_73 ?_
            refine j_bipush (pc := 74) (w := 7) C rfl dL_parishes_74 ?_
            refine j_irem (pc := 76) C (by omega) dL_parishes_76 ?_
            obtain ⟨n_8, en_8, rn_8⟩ : ∃ z : Int, ((e_2 / 8) % 7) = z ∧ ((kd_5 = 0 ∧ z = 0) ∨ (kd_5 = 1 ∧ 2 ≤ z ∧ z ≤ 4) ∨ (2 ≤ kd_5 ∧ kd_5 ≤ 3 ∧ 0 ≤ z ∧ z < 7)) := ⟨_, rfl, (by omega)⟩
            refine j_st (st' := [vI n_8, vI ((5 * p) + 1), .ref wq]) rfl rfl (congrArg (fun z => vI z :: [vI ((5 * p) + 1), .ref wq]) en_8) ?_
            refine j_iast (pc := 77) (ws' := ([(wq, aI (Y 0) 30 (up (up g2 (5 * p) kd_5) ((5 * p) + 1) n_8))] ++ W2)) C 0 rfl rfl (by omega) (by decide) rfl dL_parishes_77 ?_
            refine j_aload (pc := 78) C 7 rfl dL_parishes_78 ?_
            refine j_iconst (pc := 80) C dL_parishes_80 ?_
            refine j_iload (pc := 81) C 8 rfl dL_parishes_81 ?_
            refine j_imul (pc := 83) C dL_parishes_83 ?_
            refine j_iconst (pc := 84) C dL_parishes_84 ?_
            refine j_iadd (pc := 85) C dL_parishes_85 ?_
            refine j_iconst (pc := 86) C dL_parishes_86 ?_
            refine j_iload (pc := 87) C 1 rfl dL_parishes_87 ?_
            refine j_bipush (pc := 89) (w := 64) C rfl dL_parishes_89 ?_
            refine j_idiv (pc := 91) C (by omega) dL_parishes_91 ?_
            refine j_iload (pc := 92) C 6 rfl dL_parishes_92 ?_
            have hm1 := Int.emod_nonneg (e_2 / 64) (b := most) (by omega)
            have hm2 := Int.emod_lt_of_pos (e_2 / 64) (show 0 < most by omega)
            refine j_irem (pc := 94) C (by omega) dL_parishes_94 ?_
            refine j_iadd (pc := 95) C dL_parishes_95 ?_
            obtain ⟨w_9, ew_9, rw_9⟩ : ∃ z : Int, (1 + ((e_2 / 64) % most)) = z ∧ (1 ≤ z ∧ z ≤ 9) := ⟨_, rfl, (by omega)⟩
            refine j_st (st' := [vI w_9, vI ((5 * p) + 2), .ref wq]) rfl rfl (congrArg (fun z => vI z :: [vI ((5 * p) + 2), .ref wq]) ew_9) ?_
            refine j_iast (pc := 96) (ws' := ([(wq, aI (Y 0) 30 (up (up (up g2 (5 * p) kd_5) ((5 * p) + 1) n_8) ((5 * p) + 2) w_9))] ++ W2)) C 0 rfl rfl (by omega) (by decide) rfl dL_parishes_96 ?_
            refine j_aload (pc := 97) C 7 rfl dL_parishes_97 ?_
            refine j_iconst (pc := 99) C dL_parishes_99 ?_
            refine j_iload (pc := 100) C 8 rfl dL_parishes_100 ?_
            refine j_imul (pc := 102) C dL_parishes_102 ?_
            refine j_iconst (pc := 103) C dL_parishes_103 ?_
            refine j_iadd (pc := 104) C dL_parishes_104 ?_
            refine j_iload (pc := 105) C 1 rfl dL_parishes_105 ?_
            refine j_sipush (pc := 107) (w := 1024) C rfl dL_parishes_107 ?_
            refine j_idiv (pc := 110) C (by omega) dL_parishes_110 ?_
            refine j_bipush (pc := 111) (w := 11) C rfl dL_parishes_111 ?_
            refine j_irem (pc := 113) C (by omega) dL_parishes_113 ?_
            obtain ⟨wi_10, ewi_10, rwi_10⟩ : ∃ z : Int, ((e_2 / 1024) % 11) = z ∧ (0 ≤ z ∧ z ≤ 10) := ⟨_, rfl, (by omega)⟩
            refine j_st (st' := [vI wi_10, vI ((5 * p) + 3), .ref wq]) rfl rfl (congrArg (fun z => vI z :: [vI ((5 * p) + 3), .ref wq]) ewi_10) ?_
            refine j_iast (pc := 114) (ws' := ([(wq, aI (Y 0) 30 (up (up (up (up g2 (5 * p) kd_5) ((5 * p) + 1) n_8) ((5 * p) + 2) w_9) ((5 * p) + 3) wi_10))] ++ W2)) C 0 rfl rfl (by omega) (by decide) rfl dL_parishes_114 ?_
            refine j_aload (pc := 115) C 7 rfl dL_parishes_115 ?_
            refine j_iconst (pc := 117) C dL_parishes_117 ?_
            refine j_iload (pc := 118) C 8 rfl dL_parishes_118 ?_
            refine j_imul (pc := 120) C dL_parishes_120 ?_
            refine j_iconst (pc := 121) C dL_parishes_121 ?_
            refine j_iadd (pc := 122) C dL_parishes_122 ?_
            refine j_iload (pc := 123) C 1 rfl dL_parishes_123 ?_
            refine j_sipush (pc := 125) (w := 16384) C rfl dL_parishes_125 ?_
            refine j_idiv (pc := 128) C (by omega) dL_parishes_128 ?_
            refine j_bipush (pc := 129) (w := 11) C rfl dL_parishes_129 ?_
            refine j_irem (pc := 131) C (by omega) dL_parishes_131 ?_
            obtain ⟨si_11, esi_11, rsi_11⟩ : ∃ z : Int, ((e_2 / 16384) % 11) = z ∧ (0 ≤ z ∧ z ≤ 10) := ⟨_, rfl, (by omega)⟩
            refine j_st (st' := [vI si_11, vI ((5 * p) + 4), .ref wq]) rfl rfl (congrArg (fun z => vI z :: [vI ((5 * p) + 4), .ref wq]) esi_11) ?_
            refine j_iast (pc := 132) (ws' := ([(wq, aI (Y 0) 30 (up (up (up (up (up g2 (5 * p) kd_5) ((5 * p) + 1) n_8) ((5 * p) + 2) w_9) ((5 * p) + 3) wi_10) ((5 * p) + 4) si_11))] ++ W2)) C 0 rfl rfl (by omega) (by decide) rfl dL_parishes_132 ?_
            refine j_aload_n (pc := 133) C 0 2 rfl rfl dL_parishes_133 ?_
            refine j_iload (pc := 134) C 0 rfl dL_parishes_134 ?_
            refine j_aload (pc := 136) C 7 rfl dL_parishes_136 ?_
            refine j_iconst (pc := 138) C dL_parishes_138 ?_
            refine j_iload (pc := 139) C 8 rfl dL_parishes_139 ?_
            refine j_imul (pc := 141) C dL_parishes_141 ?_
            refine j_iconst (pc := 142) C dL_parishes_142 ?_
            refine j_iadd (pc := 143) C dL_parishes_143 ?_
            refine j_iald (pc := 144) C (Or.inl (List.mem_of_getElem? (i := 0) rfl)) rfl (by omega) (by decide) dL_parishes_144 ?_
            refine j_st (st' := [vI n_8, vI kd_5, .ref (k 0)]) rfl rfl (congrArg (fun z => vI z :: [vI kd_5, .ref (k 0)]) (show (up (up (up (up (up g2 (5 * p) kd_5) ((5 * p) + 1) n_8) ((5 * p) + 2) w_9) ((5 * p) + 3) wi_10) ((5 * p) + 4) si_11) ((5 * p) + 1) = n_8 from by rw [up_ne _ _ _ _ (by omega), up_ne _ _ _ _ (by omega), up_ne _ _ _ _ (by omega), up_same])) ?_
            refine j_aload (pc := 145) C 7 rfl dL_parishes_145 ?_
            refine j_iconst (pc := 147) C dL_parishes_147 ?_
            refine j_iload (pc := 148) C 8 rfl dL_parishes_148 ?_
            refine j_imul (pc := 150) C dL_parishes_150 ?_
            refine j_iconst (pc := 151) C dL_parishes_151 ?_
            refine j_iadd (pc := 152) C dL_parishes_152 ?_
            refine j_iald (pc := 153) C (Or.inl (List.mem_of_getElem? (i := 0) rfl)) rfl (by omega) (by decide) dL_parishes_153 ?_
            refine j_st (st' := [vI w_9, vI n_8, vI kd_5, .ref (k 0)]) rfl rfl (congrArg (fun z => vI z :: [vI n_8, vI kd_5, .ref (k 0)]) (show (up (up (up (up (up g2 (5 * p) kd_5) ((5 * p) + 1) n_8) ((5 * p) + 2) w_9) ((5 * p) + 3) wi_10) ((5 * p) + 4) si_11) ((5 * p) + 2) = w_9 from by rw [up_ne _ _ _ _ (by omega), up_ne _ _ _ _ (by omega), up_same])) ?_
            refine j_aload (pc := 154) C 7 rfl dL_parishes_154 ?_
            refine j_iconst (pc := 156) C dL_parishes_156 ?_
            refine j_iload (pc := 157) C 8 rfl dL_parishes_157 ?_
            refine j_imul (pc := 159) C dL_parishes_159 ?_
            refine j_iconst (pc := 160) C dL_parishes_160 ?_
            refine j_iadd (pc := 161) C dL_parishes_161 ?_
            refine j_iald (pc := 162) C (Or.inl (List.mem_of_getElem? (i := 0) rfl)) rfl (by omega) (by decide) dL_parishes_162 ?_
            refine j_st (st' := [vI wi_10, vI w_9, vI n_8, vI kd_5, .ref (k 0)]) rfl rfl (congrArg (fun z => vI z :: [vI w_9, vI n_8, vI kd_5, .ref (k 0)]) (show (up (up (up (up (up g2 (5 * p) kd_5) ((5 * p) + 1) n_8) ((5 * p) + 2) w_9) ((5 * p) + 3) wi_10) ((5 * p) + 4) si_11) ((5 * p) + 3) = wi_10 from by rw [up_ne _ _ _ _ (by omega), up_same])) ?_
            refine j_aload (pc := 163) C 7 rfl dL_parishes_163 ?_
            refine j_iconst (pc := 165) C dL_parishes_165 ?_
            refine j_iload (pc := 166) C 8 rfl dL_parishes_166 ?_
            refine j_imul (pc := 168) C dL_parishes_168 ?_
            refine j_iconst (pc := 169) C dL_parishes_169 ?_
            refine j_iadd (pc := 170) C dL_parishes_170 ?_
            refine j_iald (pc := 171) C (Or.inl (List.mem_of_getElem? (i := 0) rfl)) rfl (by omega) (by decide) dL_parishes_171 ?_
            refine j_st (st' := [vI si_11, vI wi_10, vI w_9, vI n_8, vI kd_5, .ref (k 0)]) rfl rfl (congrArg (fun z => vI z :: [vI wi_10, vI w_9, vI n_8, vI kd_5, .ref (k 0)]) (up_same _ _ _)) ?_
            have hok : parOk kd_5 n_8 w_9 wi_10 si_11 p := ⟨⟨by unfold kwP; omega, by unfold mbP; omega, by unfold mbP; omega, by unfold mbP; omega⟩, by omega⟩
            refine tc_parish (pc := 172) (st := []) C i3_2 (by omega) (by omega) (by omega) (by omega) (by omega) hok gL_parishes_X9_parish (by decide) rfl ⟨show kk + 0 + 1 ≤ 6 by omega, show nn + 0 + 4 ≤ 24 by omega⟩ dL_parishes_172 (fun W_12 hW_13 => ?_)
            refine j_st (st' := [vI p]) rfl rfl (congrArg (fun z => vI z :: []) (show (rParish kd_5 n_8 w_9 wi_10 si_11 p) = p from by unfold rParish; rw [if_neg (not_not_intro hok.1.1), if_neg (not_not_intro hok.1.2.1), if_neg (not_not_intro hok.1.2.2.1), if_neg (not_not_intro hok.1.2.2.2), if_neg (by omega)])) ?_
            refine j_iload (pc := 175) C 8 rfl dL_parishes_175 ?_
            refine j_icmpSe (pc := 177) C 182 rfl dL_parishes_177 ?_
            refine j_iinc (pc := 182) (lc' := [(6, vI (p + 1)), (8, vI kd_5), (7, vI e_2), (0, .ref (k 0)), (1, .ref b), (2, vI at_), (3, vI many), (4, vI most), (5, .ref wq)]) C 8 rfl (by decide) rfl dL_parishes_182 ?_
            refine j_goto (pc := 185) C 3 rfl dL_parishes_185 ?_
            refine j_locals (lc' := [(0, .ref (k 0)), (1, .ref b), (2, vI at_), (3, vI many), (4, vI most), (5, .ref wq), (6, vI (p + 1))]) [3, 4, 5, 6, 7, 8, 0] rfl ?_
            exact ih3 (p + 1) (up (up (up (up (up g2 (5 * p) kd_5) ((5 * p) + 1) n_8) ((5 * p) + 2) w_9) ((5 * p) + 3) wi_10) ((5 * p) + 4) si_11) (up ps2 p (kd_5, n_8, w_9, wi_10, si_11)) W_12 (kk + 1) (nn + 4) (by omega) (by omega) (RWho_new (by omega) i3_1) hW_13 (by omega) (by omega)
          · skip
            refine j_iconst (pc := 57) C dL_parishes_57 ?_
            refine j_iload (pc := 58) C 1 rfl dL_parishes_58 ?_
            refine j_bipush (pc := 60) (w := 8) C rfl dL_parishes_60 ?_
            refine j_idiv (pc := 62) C (by omega) dL_parishes_62 ?_
            refine j_iconst (pc := 63) C dL_parishes_63 ?_
            refine j_irem (pc := 64) C (by omega) dL_parishes_64 ?_
            refine j_iadd (pc := 65) C dL_parishes_65 ?_
            refine j_goto (pc := 66) C 77 rfl dL_parishes_66 ?_
            obtain ⟨n_14, en_14, rn_14⟩ : ∃ z : Int, (2 + ((e_2 / 8) % 3)) = z ∧ ((kd_5 = 0 ∧ z = 0) ∨ (kd_5 = 1 ∧ 2 ≤ z ∧ z ≤ 4) ∨ (2 ≤ kd_5 ∧ kd_5 ≤ 3 ∧ 0 ≤ z ∧ z < 7)) := ⟨_, rfl, (by omega)⟩
            refine j_st (st' := [vI n_14, vI ((5 * p) + 1), .ref wq]) rfl rfl (congrArg (fun z => vI z :: [vI ((5 * p) + 1), .ref wq]) en_14) ?_
            refine j_iast (pc := 77) (ws' := ([(wq, aI (Y 0) 30 (up (up g2 (5 * p) kd_5) ((5 * p) + 1) n_14))] ++ W2)) C 0 rfl rfl (by omega) (by decide) rfl dL_parishes_77 ?_
            refine j_aload (pc := 78) C 7 rfl dL_parishes_78 ?_
            refine j_iconst (pc := 80) C dL_parishes_80 ?_
            refine j_iload (pc := 81) C 8 rfl dL_parishes_81 ?_
            refine j_imul (pc := 83) C dL_parishes_83 ?_
            refine j_iconst (pc := 84) C dL_parishes_84 ?_
            refine j_iadd (pc := 85) C dL_parishes_85 ?_
            refine j_iconst (pc := 86) C dL_parishes_86 ?_
            refine j_iload (pc := 87) C 1 rfl dL_parishes_87 ?_
            refine j_bipush (pc := 89) (w := 64) C rfl dL_parishes_89 ?_
            refine j_idiv (pc := 91) C (by omega) dL_parishes_91 ?_
            refine j_iload (pc := 92) C 6 rfl dL_parishes_92 ?_
            have hm1 := Int.emod_nonneg (e_2 / 64) (b := most) (by omega)
            have hm2 := Int.emod_lt_of_pos (e_2 / 64) (show 0 < most by omega)
            refine j_irem (pc := 94) C (by omega) dL_parishes_94 ?_
            refine j_iadd (pc := 95) C dL_parishes_95 ?_
            obtain ⟨w_15, ew_15, rw_15⟩ : ∃ z : Int, (1 + ((e_2 / 64) % most)) = z ∧ (1 ≤ z ∧ z ≤ 9) := ⟨_, rfl, (by omega)⟩
            refine j_st (st' := [vI w_15, vI ((5 * p) + 2), .ref wq]) rfl rfl (congrArg (fun z => vI z :: [vI ((5 * p) + 2), .ref wq]) ew_15) ?_
            refine j_iast (pc := 96) (ws' := ([(wq, aI (Y 0) 30 (up (up (up g2 (5 * p) kd_5) ((5 * p) + 1) n_14) ((5 * p) + 2) w_15))] ++ W2)) C 0 rfl rfl (by omega) (by decide) rfl dL_parishes_96 ?_
            refine j_aload (pc := 97) C 7 rfl dL_parishes_97 ?_
            refine j_iconst (pc := 99) C dL_parishes_99 ?_
            refine j_iload (pc := 100) C 8 rfl dL_parishes_100 ?_
            refine j_imul (pc := 102) C dL_parishes_102 ?_
            refine j_iconst (pc := 103) C dL_parishes_103 ?_
            refine j_iadd (pc := 104) C dL_parishes_104 ?_
            refine j_iload (pc := 105) C 1 rfl dL_parishes_105 ?_
            refine j_sipush (pc := 107) (w := 1024) C rfl dL_parishes_107 ?_
            refine j_idiv (pc := 110) C (by omega) dL_parishes_110 ?_
            refine j_bipush (pc := 111) (w := 11) C rfl dL_parishes_111 ?_
            refine j_irem (pc := 113) C (by omega) dL_parishes_113 ?_
            obtain ⟨wi_16, ewi_16, rwi_16⟩ : ∃ z : Int, ((e_2 / 1024) % 11) = z ∧ (0 ≤ z ∧ z ≤ 10) := ⟨_, rfl, (by omega)⟩
            refine j_st (st' := [vI wi_16, vI ((5 * p) + 3), .ref wq]) rfl rfl (congrArg (fun z => vI z :: [vI ((5 * p) + 3), .ref wq]) ewi_16) ?_
            refine j_iast (pc := 114) (ws' := ([(wq, aI (Y 0) 30 (up (up (up (up g2 (5 * p) kd_5) ((5 * p) + 1) n_14) ((5 * p) + 2) w_15) ((5 * p) + 3) wi_16))] ++ W2)) C 0 rfl rfl (by omega) (by decide) rfl dL_parishes_114 ?_
            refine j_aload (pc := 115) C 7 rfl dL_parishes_115 ?_
            refine j_iconst (pc := 117) C dL_parishes_117 ?_
            refine j_iload (pc := 118) C 8 rfl dL_parishes_118 ?_
            refine j_imul (pc := 120) C dL_parishes_120 ?_
            refine j_iconst (pc := 121) C dL_parishes_121 ?_
            refine j_iadd (pc := 122) C dL_parishes_122 ?_
            refine j_iload (pc := 123) C 1 rfl dL_parishes_123 ?_
            refine j_sipush (pc := 125) (w := 16384) C rfl dL_parishes_125 ?_
            refine j_idiv (pc := 128) C (by omega) dL_parishes_128 ?_
            refine j_bipush (pc := 129) (w := 11) C rfl dL_parishes_129 ?_
            refine j_irem (pc := 131) C (by omega) dL_parishes_131 ?_
            obtain ⟨si_17, esi_17, rsi_17⟩ : ∃ z : Int, ((e_2 / 16384) % 11) = z ∧ (0 ≤ z ∧ z ≤ 10) := ⟨_, rfl, (by omega)⟩
            refine j_st (st' := [vI si_17, vI ((5 * p) + 4), .ref wq]) rfl rfl (congrArg (fun z => vI z :: [vI ((5 * p) + 4), .ref wq]) esi_17) ?_
            refine j_iast (pc := 132) (ws' := ([(wq, aI (Y 0) 30 (up (up (up (up (up g2 (5 * p) kd_5) ((5 * p) + 1) n_14) ((5 * p) + 2) w_15) ((5 * p) + 3) wi_16) ((5 * p) + 4) si_17))] ++ W2)) C 0 rfl rfl (by omega) (by decide) rfl dL_parishes_132 ?_
            refine j_aload_n (pc := 133) C 0 2 rfl rfl dL_parishes_133 ?_
            refine j_iload (pc := 134) C 0 rfl dL_parishes_134 ?_
            refine j_aload (pc := 136) C 7 rfl dL_parishes_136 ?_
            refine j_iconst (pc := 138) C dL_parishes_138 ?_
            refine j_iload (pc := 139) C 8 rfl dL_parishes_139 ?_
            refine j_imul (pc := 141) C dL_parishes_141 ?_
            refine j_iconst (pc := 142) C dL_parishes_142 ?_
            refine j_iadd (pc := 143) C dL_parishes_143 ?_
            refine j_iald (pc := 144) C (Or.inl (List.mem_of_getElem? (i := 0) rfl)) rfl (by omega) (by decide) dL_parishes_144 ?_
            refine j_st (st' := [vI n_14, vI kd_5, .ref (k 0)]) rfl rfl (congrArg (fun z => vI z :: [vI kd_5, .ref (k 0)]) (show (up (up (up (up (up g2 (5 * p) kd_5) ((5 * p) + 1) n_14) ((5 * p) + 2) w_15) ((5 * p) + 3) wi_16) ((5 * p) + 4) si_17) ((5 * p) + 1) = n_14 from by rw [up_ne _ _ _ _ (by omega), up_ne _ _ _ _ (by omega), up_ne _ _ _ _ (by omega), up_same])) ?_
            refine j_aload (pc := 145) C 7 rfl dL_parishes_145 ?_
            refine j_iconst (pc := 147) C dL_parishes_147 ?_
            refine j_iload (pc := 148) C 8 rfl dL_parishes_148 ?_
            refine j_imul (pc := 150) C dL_parishes_150 ?_
            refine j_iconst (pc := 151) C dL_parishes_151 ?_
            refine j_iadd (pc := 152) C dL_parishes_152 ?_
            refine j_iald (pc := 153) C (Or.inl (List.mem_of_getElem? (i := 0) rfl)) rfl (by omega) (by decide) dL_parishes_153 ?_
            refine j_st (st' := [vI w_15, vI n_14, vI kd_5, .ref (k 0)]) rfl rfl (congrArg (fun z => vI z :: [vI n_14, vI kd_5, .ref (k 0)]) (show (up (up (up (up (up g2 (5 * p) kd_5) ((5 * p) + 1) n_14) ((5 * p) + 2) w_15) ((5 * p) + 3) wi_16) ((5 * p) + 4) si_17) ((5 * p) + 2) = w_15 from by rw [up_ne _ _ _ _ (by omega), up_ne _ _ _ _ (by omega), up_same])) ?_
            refine j_aload (pc := 154) C 7 rfl dL_parishes_154 ?_
            refine j_iconst (pc := 156) C dL_parishes_156 ?_
            refine j_iload (pc := 157) C 8 rfl dL_parishes_157 ?_
            refine j_imul (pc := 159) C dL_parishes_159 ?_
            refine j_iconst (pc := 160) C dL_parishes_160 ?_
            refine j_iadd (pc := 161) C dL_parishes_161 ?_
            refine j_iald (pc := 162) C (Or.inl (List.mem_of_getElem? (i := 0) rfl)) rfl (by omega) (by decide) dL_parishes_162 ?_
            refine j_st (st' := [vI wi_16, vI w_15, vI n_14, vI kd_5, .ref (k 0)]) rfl rfl (congrArg (fun z => vI z :: [vI w_15, vI n_14, vI kd_5, .ref (k 0)]) (show (up (up (up (up (up g2 (5 * p) kd_5) ((5 * p) + 1) n_14) ((5 * p) + 2) w_15) ((5 * p) + 3) wi_16) ((5 * p) + 4) si_17) ((5 * p) + 3) = wi_16 from by rw [up_ne _ _ _ _ (by omega), up_same])) ?_
            refine j_aload (pc := 163) C 7 rfl dL_parishes_163 ?_
            refine j_iconst (pc := 165) C dL_parishes_165 ?_
            refine j_iload (pc := 166) C 8 rfl dL_parishes_166 ?_
            refine j_imul (pc := 168) C dL_parishes_168 ?_
            refine j_iconst (pc := 169) C dL_parishes_169 ?_
            refine j_iadd (pc := 170) C dL_parishes_170 ?_
            refine j_iald (pc := 171) C (Or.inl (List.mem_of_getElem? (i := 0) rfl)) rfl (by omega) (by decide) dL_parishes_171 ?_
            refine j_st (st' := [vI si_17, vI wi_16, vI w_15, vI n_14, vI kd_5, .ref (k 0)]) rfl rfl (congrArg (fun z => vI z :: [vI wi_16, vI w_15, vI n_14, vI kd_5, .ref (k 0)]) (up_same _ _ _)) ?_
            have hok : parOk kd_5 n_14 w_15 wi_16 si_17 p := ⟨⟨by unfold kwP; omega, by unfold mbP; omega, by unfold mbP; omega, by unfold mbP; omega⟩, by omega⟩
            refine tc_parish (pc := 172) (st := []) C i3_2 (by omega) (by omega) (by omega) (by omega) (by omega) hok gL_parishes_X9_parish (by decide) rfl ⟨show kk + 0 + 1 ≤ 6 by omega, show nn + 0 + 4 ≤ 24 by omega⟩ dL_parishes_172 (fun W_18 hW_19 => ?_)
            refine j_st (st' := [vI p]) rfl rfl (congrArg (fun z => vI z :: []) (show (rParish kd_5 n_14 w_15 wi_16 si_17 p) = p from by unfold rParish; rw [if_neg (not_not_intro hok.1.1), if_neg (not_not_intro hok.1.2.1), if_neg (not_not_intro hok.1.2.2.1), if_neg (not_not_intro hok.1.2.2.2), if_neg (by omega)])) ?_
            refine j_iload (pc := 175) C 8 rfl dL_parishes_175 ?_
            refine j_icmpSe (pc := 177) C 182 rfl dL_parishes_177 ?_
            refine j_iinc (pc := 182) (lc' := [(6, vI (p + 1)), (8, vI kd_5), (7, vI e_2), (0, .ref (k 0)), (1, .ref b), (2, vI at_), (3, vI many), (4, vI most), (5, .ref wq)]) C 8 rfl (by decide) rfl dL_parishes_182 ?_
            refine j_goto (pc := 185) C 3 rfl dL_parishes_185 ?_
            refine j_locals (lc' := [(0, .ref (k 0)), (1, .ref b), (2, vI at_), (3, vI many), (4, vI most), (5, .ref wq), (6, vI (p + 1))]) [3, 4, 5, 6, 7, 8, 0] rfl ?_
            exact ih3 (p + 1) (up (up (up (up (up g2 (5 * p) kd_5) ((5 * p) + 1) n_14) ((5 * p) + 2) w_15) ((5 * p) + 3) wi_16) ((5 * p) + 4) si_17) (up ps2 p (kd_5, n_14, w_15, wi_16, si_17)) W_18 (kk + 1) (nn + 4) (by omega) (by omega) (RWho_new (by omega) i3_1) hW_19 (by omega) (by omega)
        · skip
          refine j_iconst (pc := 47) C dL_parishes_47 ?_
          refine j_goto (pc := 48) C 77 rfl dL_parishes_48 ?_
          obtain ⟨n_20, en_20, rn_20⟩ : ∃ z : Int, 0 = z ∧ ((kd_5 = 0 ∧ z = 0) ∨ (kd_5 = 1 ∧ 2 ≤ z ∧ z ≤ 4) ∨ (2 ≤ kd_5 ∧ kd_5 ≤ 3 ∧ 0 ≤ z ∧ z < 7)) := ⟨_, rfl, (by omega)⟩
          refine j_st (st' := [vI n_20, vI ((5 * p) + 1), .ref wq]) rfl rfl (congrArg (fun z => vI z :: [vI ((5 * p) + 1), .ref wq]) en_20) ?_
          refine j_iast (pc := 77) (ws' := ([(wq, aI (Y 0) 30 (up (up g2 (5 * p) kd_5) ((5 * p) + 1) n_20))] ++ W2)) C 0 rfl rfl (by omega) (by decide) rfl dL_parishes_77 ?_
          refine j_aload (pc := 78) C 7 rfl dL_parishes_78 ?_
          refine j_iconst (pc := 80) C dL_parishes_80 ?_
          refine j_iload (pc := 81) C 8 rfl dL_parishes_81 ?_
          refine j_imul (pc := 83) C dL_parishes_83 ?_
          refine j_iconst (pc := 84) C dL_parishes_84 ?_
          refine j_iadd (pc := 85) C dL_parishes_85 ?_
          refine j_iconst (pc := 86) C dL_parishes_86 ?_
          refine j_iload (pc := 87) C 1 rfl dL_parishes_87 ?_
          refine j_bipush (pc := 89) (w := 64) C rfl dL_parishes_89 ?_
          refine j_idiv (pc := 91) C (by omega) dL_parishes_91 ?_
          refine j_iload (pc := 92) C 6 rfl dL_parishes_92 ?_
          have hm1 := Int.emod_nonneg (e_2 / 64) (b := most) (by omega)
          have hm2 := Int.emod_lt_of_pos (e_2 / 64) (show 0 < most by omega)
          refine j_irem (pc := 94) C (by omega) dL_parishes_94 ?_
          refine j_iadd (pc := 95) C dL_parishes_95 ?_
          obtain ⟨w_21, ew_21, rw_21⟩ : ∃ z : Int, (1 + ((e_2 / 64) % most)) = z ∧ (1 ≤ z ∧ z ≤ 9) := ⟨_, rfl, (by omega)⟩
          refine j_st (st' := [vI w_21, vI ((5 * p) + 2), .ref wq]) rfl rfl (congrArg (fun z => vI z :: [vI ((5 * p) + 2), .ref wq]) ew_21) ?_
          refine j_iast (pc := 96) (ws' := ([(wq, aI (Y 0) 30 (up (up (up g2 (5 * p) kd_5) ((5 * p) + 1) n_20) ((5 * p) + 2) w_21))] ++ W2)) C 0 rfl rfl (by omega) (by decide) rfl dL_parishes_96 ?_
          refine j_aload (pc := 97) C 7 rfl dL_parishes_97 ?_
          refine j_iconst (pc := 99) C dL_parishes_99 ?_
          refine j_iload (pc := 100) C 8 rfl dL_parishes_100 ?_
          refine j_imul (pc := 102) C dL_parishes_102 ?_
          refine j_iconst (pc := 103) C dL_parishes_103 ?_
          refine j_iadd (pc := 104) C dL_parishes_104 ?_
          refine j_iload (pc := 105) C 1 rfl dL_parishes_105 ?_
          refine j_sipush (pc := 107) (w := 1024) C rfl dL_parishes_107 ?_
          refine j_idiv (pc := 110) C (by omega) dL_parishes_110 ?_
          refine j_bipush (pc := 111) (w := 11) C rfl dL_parishes_111 ?_
          refine j_irem (pc := 113) C (by omega) dL_parishes_113 ?_
          obtain ⟨wi_22, ewi_22, rwi_22⟩ : ∃ z : Int, ((e_2 / 1024) % 11) = z ∧ (0 ≤ z ∧ z ≤ 10) := ⟨_, rfl, (by omega)⟩
          refine j_st (st' := [vI wi_22, vI ((5 * p) + 3), .ref wq]) rfl rfl (congrArg (fun z => vI z :: [vI ((5 * p) + 3), .ref wq]) ewi_22) ?_
          refine j_iast (pc := 114) (ws' := ([(wq, aI (Y 0) 30 (up (up (up (up g2 (5 * p) kd_5) ((5 * p) + 1) n_20) ((5 * p) + 2) w_21) ((5 * p) + 3) wi_22))] ++ W2)) C 0 rfl rfl (by omega) (by decide) rfl dL_parishes_114 ?_
          refine j_aload (pc := 115) C 7 rfl dL_parishes_115 ?_
          refine j_iconst (pc := 117) C dL_parishes_117 ?_
          refine j_iload (pc := 118) C 8 rfl dL_parishes_118 ?_
          refine j_imul (pc := 120) C dL_parishes_120 ?_
          refine j_iconst (pc := 121) C dL_parishes_121 ?_
          refine j_iadd (pc := 122) C dL_parishes_122 ?_
          refine j_iload (pc := 123) C 1 rfl dL_parishes_123 ?_
          refine j_sipush (pc := 125) (w := 16384) C rfl dL_parishes_125 ?_
          refine j_idiv (pc := 128) C (by omega) dL_parishes_128 ?_
          refine j_bipush (pc := 129) (w := 11) C rfl dL_parishes_129 ?_
          refine j_irem (pc := 131) C (by omega) dL_parishes_131 ?_
          obtain ⟨si_23, esi_23, rsi_23⟩ : ∃ z : Int, ((e_2 / 16384) % 11) = z ∧ (0 ≤ z ∧ z ≤ 10) := ⟨_, rfl, (by omega)⟩
          refine j_st (st' := [vI si_23, vI ((5 * p) + 4), .ref wq]) rfl rfl (congrArg (fun z => vI z :: [vI ((5 * p) + 4), .ref wq]) esi_23) ?_
          refine j_iast (pc := 132) (ws' := ([(wq, aI (Y 0) 30 (up (up (up (up (up g2 (5 * p) kd_5) ((5 * p) + 1) n_20) ((5 * p) + 2) w_21) ((5 * p) + 3) wi_22) ((5 * p) + 4) si_23))] ++ W2)) C 0 rfl rfl (by omega) (by decide) rfl dL_parishes_132 ?_
          refine j_aload_n (pc := 133) C 0 2 rfl rfl dL_parishes_133 ?_
          refine j_iload (pc := 134) C 0 rfl dL_parishes_134 ?_
          refine j_aload (pc := 136) C 7 rfl dL_parishes_136 ?_
          refine j_iconst (pc := 138) C dL_parishes_138 ?_
          refine j_iload (pc := 139) C 8 rfl dL_parishes_139 ?_
          refine j_imul (pc := 141) C dL_parishes_141 ?_
          refine j_iconst (pc := 142) C dL_parishes_142 ?_
          refine j_iadd (pc := 143) C dL_parishes_143 ?_
          refine j_iald (pc := 144) C (Or.inl (List.mem_of_getElem? (i := 0) rfl)) rfl (by omega) (by decide) dL_parishes_144 ?_
          refine j_st (st' := [vI n_20, vI kd_5, .ref (k 0)]) rfl rfl (congrArg (fun z => vI z :: [vI kd_5, .ref (k 0)]) (show (up (up (up (up (up g2 (5 * p) kd_5) ((5 * p) + 1) n_20) ((5 * p) + 2) w_21) ((5 * p) + 3) wi_22) ((5 * p) + 4) si_23) ((5 * p) + 1) = n_20 from by rw [up_ne _ _ _ _ (by omega), up_ne _ _ _ _ (by omega), up_ne _ _ _ _ (by omega), up_same])) ?_
          refine j_aload (pc := 145) C 7 rfl dL_parishes_145 ?_
          refine j_iconst (pc := 147) C dL_parishes_147 ?_
          refine j_iload (pc := 148) C 8 rfl dL_parishes_148 ?_
          refine j_imul (pc := 150) C dL_parishes_150 ?_
          refine j_iconst (pc := 151) C dL_parishes_151 ?_
          refine j_iadd (pc := 152) C dL_parishes_152 ?_
          refine j_iald (pc := 153) C (Or.inl (List.mem_of_getElem? (i := 0) rfl)) rfl (by omega) (by decide) dL_parishes_153 ?_
          refine j_st (st' := [vI w_21, vI n_20, vI kd_5, .ref (k 0)]) rfl rfl (congrArg (fun z => vI z :: [vI n_20, vI kd_5, .ref (k 0)]) (show (up (up (up (up (up g2 (5 * p) kd_5) ((5 * p) + 1) n_20) ((5 * p) + 2) w_21) ((5 * p) + 3) wi_22) ((5 * p) + 4) si_23) ((5 * p) + 2) = w_21 from by rw [up_ne _ _ _ _ (by omega), up_ne _ _ _ _ (by omega), up_same])) ?_
          refine j_aload (pc := 154) C 7 rfl dL_parishes_154 ?_
          refine j_iconst (pc := 156) C dL_parishes_156 ?_
          refine j_iload (pc := 157) C 8 rfl dL_parishes_157 ?_
          refine j_imul (pc := 159) C dL_parishes_159 ?_
          refine j_iconst (pc := 160) C dL_parishes_160 ?_
          refine j_iadd (pc := 161) C dL_parishes_161 ?_
          refine j_iald (pc := 162) C (Or.inl (List.mem_of_getElem? (i := 0) rfl)) rfl (by omega) (by decide) dL_parishes_162 ?_
          refine j_st (st' := [vI wi_22, vI w_21, vI n_20, vI kd_5, .ref (k 0)]) rfl rfl (congrArg (fun z => vI z :: [vI w_21, vI n_20, vI kd_5, .ref (k 0)]) (show (up (up (up (up (up g2 (5 * p) kd_5) ((5 * p) + 1) n_20) ((5 * p) + 2) w_21) ((5 * p) + 3) wi_22) ((5 * p) + 4) si_23) ((5 * p) + 3) = wi_22 from by rw [up_ne _ _ _ _ (by omega), up_same])) ?_
          refine j_aload (pc := 163) C 7 rfl dL_parishes_163 ?_
          refine j_iconst (pc := 165) C dL_parishes_165 ?_
          refine j_iload (pc := 166) C 8 rfl dL_parishes_166 ?_
          refine j_imul (pc := 168) C dL_parishes_168 ?_
          refine j_iconst (pc := 169) C dL_parishes_169 ?_
          refine j_iadd (pc := 170) C dL_parishes_170 ?_
          refine j_iald (pc := 171) C (Or.inl (List.mem_of_getElem? (i := 0) rfl)) rfl (by omega) (by decide) dL_parishes_171 ?_
          refine j_st (st' := [vI si_23, vI wi_22, vI w_21, vI n_20, vI kd_5, .ref (k 0)]) rfl rfl (congrArg (fun z => vI z :: [vI wi_22, vI w_21, vI n_20, vI kd_5, .ref (k 0)]) (up_same _ _ _)) ?_
          have hok : parOk kd_5 n_20 w_21 wi_22 si_23 p := ⟨⟨by unfold kwP; omega, by unfold mbP; omega, by unfold mbP; omega, by unfold mbP; omega⟩, by omega⟩
          refine tc_parish (pc := 172) (st := []) C i3_2 (by omega) (by omega) (by omega) (by omega) (by omega) hok gL_parishes_X9_parish (by decide) rfl ⟨show kk + 0 + 1 ≤ 6 by omega, show nn + 0 + 4 ≤ 24 by omega⟩ dL_parishes_172 (fun W_24 hW_25 => ?_)
          refine j_st (st' := [vI p]) rfl rfl (congrArg (fun z => vI z :: []) (show (rParish kd_5 n_20 w_21 wi_22 si_23 p) = p from by unfold rParish; rw [if_neg (not_not_intro hok.1.1), if_neg (not_not_intro hok.1.2.1), if_neg (not_not_intro hok.1.2.2.1), if_neg (not_not_intro hok.1.2.2.2), if_neg (by omega)])) ?_
          refine j_iload (pc := 175) C 8 rfl dL_parishes_175 ?_
          refine j_icmpSe (pc := 177) C 182 rfl dL_parishes_177 ?_
          refine j_iinc (pc := 182) (lc' := [(6, vI (p + 1)), (8, vI kd_5), (7, vI e_2), (0, .ref (k 0)), (1, .ref b), (2, vI at_), (3, vI many), (4, vI most), (5, .ref wq)]) C 8 rfl (by decide) rfl dL_parishes_182 ?_
          refine j_goto (pc := 185) C 3 rfl dL_parishes_185 ?_
          refine j_locals (lc' := [(0, .ref (k 0)), (1, .ref b), (2, vI at_), (3, vI many), (4, vI most), (5, .ref wq), (6, vI (p + 1))]) [3, 4, 5, 6, 7, 8, 0] rfl ?_
          exact ih3 (p + 1) (up (up (up (up (up g2 (5 * p) kd_5) ((5 * p) + 1) n_20) ((5 * p) + 2) w_21) ((5 * p) + 3) wi_22) ((5 * p) + 4) si_23) (up ps2 p (kd_5, n_20, w_21, wi_22, si_23)) W_24 (kk + 1) (nn + 4) (by omega) (by omega) (RWho_new (by omega) i3_1) hW_25 (by omega) (by omega)
  refine j_locals (lc' := [(0, .ref (k 0)), (1, .ref b), (2, vI at_), (3, vI many), (4, vI most), (5, .ref wq), (6, vI 0)]) [1, 2, 3, 4, 5, 6, 0] rfl ?_
  exact hL3 _ 0 g0 ps W 0 0 (Nat.lt_succ_self _) (by omega) (fun p h0 h1 => by omega) hWK (by omega) (by omega)
