theorem fX9_lay_X2 : ∀ w ∈ u_ws RX2 TX2 8, w ∈ wsX9_lay := j_words [32, 33, 34, 35, 36, 37, 38, 39] (by decide +kernel)
theorem fX9_lay_X9 : ∀ w ∈ u_ws RX9 TX9 11, w ∈ wsX9_lay := j_words [21, 22, 23, 24, 25, 26, 27, 28, 29, 30, 31] (by decide +kernel)
set_option maxHeartbeats 4000000 in
set_option maxRecDepth 100000 in
theorem k_lay (l : Launch) (D : va_G) (Y : Nat → ClassId) (RO : va_W) (k : Nat → Nat) (nc : Int) (np : Int) (ik : Int) (S : MS) (c : Int) (n : Int) (ko : ((k 0), oC 8 [.ref (k 1), .ref (k 2), vI nc, .ref (k 3), vI np, .ref (k 4), .ref (k 7), vI ik, .ref (k 10), .ref (k 13), .ref (k 14)]) ∈ RO) (hS : okS S) (hc : -2147483648 ≤ c ∧ c ≤ 2147483647) (hn : -2147483648 ≤ n ∧ n ≤ 2147483647) : jMi l yX9_lay wsX9_lay { frames := 3, cells := 0, slots := 0, locals := 66 } D Y RO [.ref (k 0), vI c, vI n] [((k 4), oC 2 [.ref (k 5), .ref (k 6), vI (ms_w S), vI (ms_l S), vI (ms_s S), vI (ms_a S), vI (ms_t S), vI (ms_p S)]), ((k 5), aI (Y 0) 7 (ms_h S)), ((k 6), aI (Y 0) 420 (ms_m S))] (fun e w1 => e = rLay c n S ∧ w1 = [((k 4), oC 2 [.ref (k 5), .ref (k 6), vI (ms_w (sLay c n S)), vI (ms_l (sLay c n S)), vI (ms_s (sLay c n S)), vI (ms_a (sLay c n S)), vI (ms_t (sLay c n S)), vI (ms_p (sLay c n S))]), ((k 5), aI (Y 0) 7 (ms_h (sLay c n S))), ((k 6), aI (Y 0) 420 (ms_m (sLay c n S)))]) := by
  refine j_ofi RX9 rfl rfl rfl (Nat.le_of_ble_eq_true rfl) (fun X C Rt => ?_)
  refine j_iload_n (pc := 0) C 1 1 rfl rfl dX9_lay_0 ?_
  refine j_callSi (pc := 1) (As := [vI c]) (na := 1) (st := []) C [] [0, 1, 2] (wr := [((k 4), oC 2 [.ref (k 5), .ref (k 6), vI (ms_w S), vI (ms_l S), vI (ms_s S), vI (ms_a S), vI (ms_t S), vI (ms_p S)]), ((k 5), aI (Y 0) 7 (ms_h S)), ((k 6), aI (Y 0) 420 (ms_m S))]) (fun l => c_isCairn l D Y _ c (by first | assumption | omega)) rfl rfl rfl rfl (by decide) rfl gX9_lay_X9_isCairn (by decide +kernel) (by decide) rfl rfl (Nat.le_of_ble_eq_true rfl) (by decide) dX9_lay_1 (fun e_1 w_2 h_3 => ?_)
  obtain ⟨rfl, rfl⟩ := h_3
  refine j_perm (ws' := [((k 4), oC 2 [.ref (k 5), .ref (k 6), vI (ms_w S), vI (ms_l S), vI (ms_s S), vI (ms_a S), vI (ms_t S), vI (ms_p S)]), ((k 5), aI (Y 0) 7 (ms_h S)), ((k 6), aI (Y 0) 420 (ms_m S))]) [0, 1, 2] rfl rfl ?_
  refine j_if_neb (pc := 4) C 10 rfl dX9_lay_4 (fun h_4p4 => ?_) (fun h_4p4 => ?_)
  · skip
    refine j_iload_n (pc := 10) C 2 2 rfl rfl dX9_lay_10 ?_
    refine j_iconst (pc := 11) C dX9_lay_11 ?_
    refine j_icmp_lt (pc := 12) C 21 rfl (by omega) dX9_lay_12 (fun h_5p12 => ?_) (fun h_5p12 => ?_)
    · skip
      refine j_bipush (pc := 21) (w := (-102)) C rfl dX9_lay_21 ?_
      exact Rt _ _ _ _ _ _ (by decide) (by decide) ⟨by unfold rLay; rw [if_neg (by omega), if_pos (by omega)], by unfold sLay; rw [if_neg (by omega), if_pos (by omega)]; first | done | rfl⟩ dX9_lay_23
    · skip
      refine j_iload_n (pc := 15) C 2 2 rfl rfl dX9_lay_15 ?_
      refine j_bipush (pc := 16) (w := 60) C rfl dX9_lay_16 ?_
      refine j_icmp_le (pc := 18) C 24 rfl (by omega) dX9_lay_18 (fun h_6p18 => ?_) (fun h_6p18 => ?_)
      · skip
        refine j_aload_n (pc := 24) C 0 0 rfl rfl dX9_lay_24 ?_
        refine j_get (pc := 25) C (Or.inr ko) rfl fX9_lay_X9 5 (by decide) (List.mem_of_getElem? (i := 1) rfl) (Or.inl rfl) rfl dX9_lay_25 ?_
        refine j_iload_n (pc := 28) C 1 1 rfl rfl dX9_lay_28 ?_
        refine j_iload_n (pc := 29) C 2 2 rfl rfl dX9_lay_29 ?_
        refine j_callVv (pc := 30) (As := [vI c, vI n]) (na := 2) (st := []) C [0, 1, 2] [] (wr := []) (fun l => c_layNew l D Y _ (k 4) (k 5) (k 6) S c n hS (by first | assumption | omega) (by first | assumption | omega)) rfl rfl rfl rfl (by decide) rfl (Or.inl (List.mem_of_getElem? (i := 0) rfl)) rfl gX9_lay_X2_layNew ⟨rfl, by decide +kernel⟩ (by decide) rfl rfl (Nat.le_of_ble_eq_true rfl) (by decide) dX9_lay_30 (fun w_8 h_9 => ?_)
        subst h_9
        refine j_perm (ws' := [((k 4), oC 2 [.ref (k 5), .ref (k 6), vI (ms_w (layS c n S)), vI (ms_l (layS c n S)), vI (ms_s (layS c n S)), vI (ms_a (layS c n S)), vI (ms_t (layS c n S)), vI (ms_p (layS c n S))]), ((k 5), aI (Y 0) 7 (ms_h (layS c n S))), ((k 6), aI (Y 0) 420 (ms_m (layS c n S)))]) [0, 1, 2] rfl rfl ?_
        refine j_aload_n (pc := 33) C 0 0 rfl rfl dX9_lay_33 ?_
        refine j_get (pc := 34) C (Or.inr ko) rfl fX9_lay_X9 5 (by decide) (List.mem_of_getElem? (i := 1) rfl) (Or.inl rfl) rfl dX9_lay_34 ?_
        refine j_get (pc := 37) C (Or.inl (List.mem_of_getElem? (i := 0) rfl)) rfl fX9_lay_X2 0 (by decide) (List.mem_of_getElem? (i := 2) rfl) (Or.inl rfl) rfl dX9_lay_37 ?_
        refine j_iload_n (pc := 40) C 1 1 rfl rfl dX9_lay_40 ?_
        refine j_iald (pc := 41) C (Or.inl (List.mem_of_getElem? (i := 1) rfl)) rfl (by omega) (by decide) dX9_lay_41 ?_
        exact Rt _ _ _ _ _ _ (by decide) (by decide) ⟨by unfold rLay; rw [if_neg (by omega), if_neg (by omega)], by unfold sLay; rw [if_neg (by omega), if_neg (by omega)]; first | done | rfl⟩ dX9_lay_42
      · skip
        refine j_bipush (pc := 21) (w := (-102)) C rfl dX9_lay_21 ?_
        exact Rt _ _ _ _ _ _ (by decide) (by decide) ⟨by unfold rLay; rw [if_neg (by omega), if_pos (by omega)], by unfold sLay; rw [if_neg (by omega), if_pos (by omega)]; first | done | rfl⟩ dX9_lay_23
  · skip
    refine j_bipush (pc := 7) (w := (-101)) C rfl dX9_lay_7 ?_
    exact Rt _ _ _ _ _ _ (by decide) (by decide) ⟨by unfold rLay; rw [if_pos (by omega)], by unfold sLay; rw [if_pos (by omega)]; first | done | rfl⟩ dX9_lay_9

theorem fX9_take_X2 : ∀ w ∈ u_ws RX2 TX2 8, w ∈ wsX9_take := j_words [29, 30, 31, 32, 33, 34, 35, 36] (by decide +kernel)
theorem fX9_take_X9 : ∀ w ∈ u_ws RX9 TX9 11, w ∈ wsX9_take := j_words [18, 19, 20, 21, 22, 23, 24, 25, 26, 27, 28] (by decide +kernel)
set_option maxHeartbeats 4000000 in
set_option maxRecDepth 100000 in
theorem k_take (l : Launch) (D : va_G) (Y : Nat → ClassId) (RO : va_W) (k : Nat → Nat) (nc : Int) (np : Int) (ik : Int) (S : MS) (c : Int) (n : Int) (ko : ((k 0), oC 8 [.ref (k 1), .ref (k 2), vI nc, .ref (k 3), vI np, .ref (k 4), .ref (k 7), vI ik, .ref (k 10), .ref (k 13), .ref (k 14)]) ∈ RO) (hS : okS S) (hc : -2147483648 ≤ c ∧ c ≤ 2147483647) (hn : -2147483648 ≤ n ∧ n ≤ 2147483647) : jMi l yX9_take wsX9_take { frames := 2, cells := 0, slots := 0, locals := 44 } D Y RO [.ref (k 0), vI c, vI n] [((k 4), oC 2 [.ref (k 5), .ref (k 6), vI (ms_w S), vI (ms_l S), vI (ms_s S), vI (ms_a S), vI (ms_t S), vI (ms_p S)]), ((k 5), aI (Y 0) 7 (ms_h S)), ((k 6), aI (Y 0) 420 (ms_m S))] (fun e w1 => e = rTake c n S ∧ w1 = [((k 4), oC 2 [.ref (k 5), .ref (k 6), vI (ms_w (sTake c n S)), vI (ms_l (sTake c n S)), vI (ms_s (sTake c n S)), vI (ms_a (sTake c n S)), vI (ms_t (sTake c n S)), vI (ms_p (sTake c n S))]), ((k 5), aI (Y 0) 7 (ms_h (sTake c n S))), ((k 6), aI (Y 0) 420 (ms_m (sTake c n S)))]) := by
  refine j_ofi RX9 rfl rfl rfl (Nat.le_of_ble_eq_true rfl) (fun X C Rt => ?_)
  refine j_iload_n (pc := 0) C 1 1 rfl rfl dX9_take_0 ?_
  refine j_callSi (pc := 1) (As := [vI c]) (na := 1) (st := []) C [] [0, 1, 2] (wr := [((k 4), oC 2 [.ref (k 5), .ref (k 6), vI (ms_w S), vI (ms_l S), vI (ms_s S), vI (ms_a S), vI (ms_t S), vI (ms_p S)]), ((k 5), aI (Y 0) 7 (ms_h S)), ((k 6), aI (Y 0) 420 (ms_m S))]) (fun l => c_isCairn l D Y _ c (by first | assumption | omega)) rfl rfl rfl rfl (by decide) rfl gX9_take_X9_isCairn (by decide +kernel) (by decide) rfl rfl (Nat.le_of_ble_eq_true rfl) (by decide) dX9_take_1 (fun e_1 w_2 h_3 => ?_)
  obtain ⟨rfl, rfl⟩ := h_3
  refine j_perm (ws' := [((k 4), oC 2 [.ref (k 5), .ref (k 6), vI (ms_w S), vI (ms_l S), vI (ms_s S), vI (ms_a S), vI (ms_t S), vI (ms_p S)]), ((k 5), aI (Y 0) 7 (ms_h S)), ((k 6), aI (Y 0) 420 (ms_m S))]) [0, 1, 2] rfl rfl ?_
  refine j_if_neb (pc := 4) C 10 rfl dX9_take_4 (fun h_4p4 => ?_) (fun h_4p4 => ?_)
  · skip
    refine j_iload_n (pc := 10) C 2 2 rfl rfl dX9_take_10 ?_
    refine j_iconst (pc := 11) C dX9_take_11 ?_
    refine j_icmp_lt (pc := 12) C 21 rfl (by omega) dX9_take_12 (fun h_5p12 => ?_) (fun h_5p12 => ?_)
    · skip
      refine j_bipush (pc := 21) (w := (-102)) C rfl dX9_take_21 ?_
      exact Rt _ _ _ _ _ _ (by decide) (by decide) ⟨by unfold rTake; rw [if_neg (by omega), if_pos (by omega)], by unfold sTake; rw [if_neg (by omega), if_pos (by omega)]; first | done | rfl⟩ dX9_take_23
    · skip
      refine j_iload_n (pc := 15) C 2 2 rfl rfl dX9_take_15 ?_
      refine j_bipush (pc := 16) (w := 60) C rfl dX9_take_16 ?_
      refine j_icmp_le (pc := 18) C 24 rfl (by omega) dX9_take_18 (fun h_6p18 => ?_) (fun h_6p18 => ?_)
      · skip
        refine j_aload_n (pc := 24) C 0 0 rfl rfl dX9_take_24 ?_
        refine j_get (pc := 25) C (Or.inr ko) rfl fX9_take_X9 5 (by decide) (List.mem_of_getElem? (i := 1) rfl) (Or.inl rfl) rfl dX9_take_25 ?_
        refine j_iload_n (pc := 28) C 1 1 rfl rfl dX9_take_28 ?_
        refine j_iload_n (pc := 29) C 2 2 rfl rfl dX9_take_29 ?_
        refine j_callVv (pc := 30) (As := [vI c, vI n]) (na := 2) (st := []) C [0, 1, 2] [] (wr := []) (fun l => c_takeOff l D Y _ (k 4) (k 5) (k 6) S c n hS (by first | assumption | omega) (by first | assumption | omega)) rfl rfl rfl rfl (by decide) rfl (Or.inl (List.mem_of_getElem? (i := 0) rfl)) rfl gX9_take_X2_takeOff ⟨rfl, by decide +kernel⟩ (by decide) rfl rfl (Nat.le_of_ble_eq_true rfl) (by decide) dX9_take_30 (fun w_8 h_9 => ?_)
        subst h_9
        refine j_perm (ws' := [((k 4), oC 2 [.ref (k 5), .ref (k 6), vI (ms_w (takeS c n S)), vI (ms_l (takeS c n S)), vI (ms_s (takeS c n S)), vI (ms_a (takeS c n S)), vI (ms_t (takeS c n S)), vI (ms_p (takeS c n S))]), ((k 5), aI (Y 0) 7 (ms_h (takeS c n S))), ((k 6), aI (Y 0) 420 (ms_m (takeS c n S)))]) [0, 1, 2] rfl rfl ?_
        refine j_aload_n (pc := 33) C 0 0 rfl rfl dX9_take_33 ?_
        refine j_get (pc := 34) C (Or.inr ko) rfl fX9_take_X9 5 (by decide) (List.mem_of_getElem? (i := 1) rfl) (Or.inl rfl) rfl dX9_take_34 ?_
        refine j_get (pc := 37) C (Or.inl (List.mem_of_getElem? (i := 0) rfl)) rfl fX9_take_X2 0 (by decide) (List.mem_of_getElem? (i := 2) rfl) (Or.inl rfl) rfl dX9_take_37 ?_
        refine j_iload_n (pc := 40) C 1 1 rfl rfl dX9_take_40 ?_
        refine j_iald (pc := 41) C (Or.inl (List.mem_of_getElem? (i := 1) rfl)) rfl (by omega) (by decide) dX9_take_41 ?_
        exact Rt _ _ _ _ _ _ (by decide) (by decide) ⟨by unfold rTake; rw [if_neg (by omega), if_neg (by omega)], by unfold sTake; rw [if_neg (by omega), if_neg (by omega)]; first | done | rfl⟩ dX9_take_42
      · skip
        refine j_bipush (pc := 21) (w := (-102)) C rfl dX9_take_21 ?_
        exact Rt _ _ _ _ _ _ (by decide) (by decide) ⟨by unfold rTake; rw [if_neg (by omega), if_pos (by omega)], by unfold sTake; rw [if_neg (by omega), if_pos (by omega)]; first | done | rfl⟩ dX9_take_23
  · skip
    refine j_bipush (pc := 7) (w := (-101)) C rfl dX9_take_7 ?_
    exact Rt _ _ _ _ _ _ (by decide) (by decide) ⟨by unfold rTake; rw [if_pos (by omega)], by unfold sTake; rw [if_pos (by omega)]; first | done | rfl⟩ dX9_take_9

theorem fX9_height_X2 : ∀ w ∈ u_ws RX2 TX2 8, w ∈ wsX9_height := j_words [18, 19, 20, 21, 22, 23, 24, 25] (by decide +kernel)
theorem fX9_height_X9 : ∀ w ∈ u_ws RX9 TX9 11, w ∈ wsX9_height := j_words [7, 8, 9, 10, 11, 12, 13, 14, 15, 16, 17] (by decide +kernel)
set_option maxHeartbeats 4000000 in
set_option maxRecDepth 100000 in
theorem k_height (l : Launch) (D : va_G) (Y : Nat → ClassId) (RO : va_W) (k : Nat → Nat) (nc : Int) (np : Int) (ik : Int) (S : MS) (c : Int) (ko : ((k 0), oC 8 [.ref (k 1), .ref (k 2), vI nc, .ref (k 3), vI np, .ref (k 4), .ref (k 7), vI ik, .ref (k 10), .ref (k 13), .ref (k 14)]) ∈ RO) (n0 : ((k 4), oC 2 [.ref (k 5), .ref (k 6), vI (ms_w S), vI (ms_l S), vI (ms_s S), vI (ms_a S), vI (ms_t S), vI (ms_p S)]) ∈ RO) (n1 : ((k 5), aI (Y 0) 7 (ms_h S)) ∈ RO) (hS : okS S) (hc : -2147483648 ≤ c ∧ c ≤ 2147483647) : jMi l yX9_height wsX9_height { frames := 1, cells := 0, slots := 0, locals := 20 } D Y RO [.ref (k 0), vI c] [] (fun e w1 => e = rHeight c S ∧ w1 = []) := by
  refine j_ofi RX9 rfl rfl rfl (Nat.le_of_ble_eq_true rfl) (fun X C Rt => ?_)
  refine j_iload_n (pc := 0) C 1 1 rfl rfl dX9_height_0 ?_
  refine j_callSi (pc := 1) (As := [vI c]) (na := 1) (st := []) C [] [] (wr := []) (fun l => c_isCairn l D Y _ c (by first | assumption | omega)) rfl rfl rfl rfl (by decide) rfl gX9_height_X9_isCairn (by decide +kernel) (by decide) rfl rfl (Nat.le_of_ble_eq_true rfl) (by decide) dX9_height_1 (fun e_1 w_2 h_3 => ?_)
  obtain ⟨rfl, rfl⟩ := h_3
  refine j_perm (ws' := []) [] rfl rfl ?_
  refine j_if_neb (pc := 4) C 10 rfl dX9_height_4 (fun h_4p4 => ?_) (fun h_4p4 => ?_)
  · skip
    refine j_aload_n (pc := 10) C 0 0 rfl rfl dX9_height_10 ?_
    refine j_get (pc := 11) C (Or.inr ko) rfl fX9_height_X9 5 (by decide) (List.mem_of_getElem? (i := 1) rfl) (Or.inl rfl) rfl dX9_height_11 ?_
    refine j_get (pc := 14) C (Or.inr n0) rfl fX9_height_X2 0 (by decide) (List.mem_of_getElem? (i := 2) rfl) (Or.inl rfl) rfl dX9_height_14 ?_
    refine j_iload_n (pc := 17) C 1 1 rfl rfl dX9_height_17 ?_
    refine j_iald (pc := 18) C (Or.inr n1) rfl (by omega) (by decide) dX9_height_18 ?_
    exact Rt _ _ _ _ _ _ (by decide) (by decide) ⟨by unfold rHeight; rw [if_neg (by omega)], rfl⟩ dX9_height_19
  · skip
    refine j_bipush (pc := 7) (w := (-101)) C rfl dX9_height_7 ?_
    exact Rt _ _ _ _ _ _ (by decide) (by decide) ⟨by unfold rHeight; rw [if_pos (by omega)], rfl⟩ dX9_height_9

theorem fX9_mark_X9 : ∀ w ∈ u_ws RX9 TX9 11, w ∈ wsX9_mark := j_words [13, 14, 15, 16, 17, 18, 19, 20, 21, 22, 23] (by decide +kernel)
set_option maxHeartbeats 4000000 in
set_option maxRecDepth 100000 in
theorem k_mark (l : Launch) (D : va_G) (Y : Nat → ClassId) (RO : va_W) (k : Nat → Nat) (nc : Int) (np : Int) (ik : Int) (S : MS) (c : Int) (d : Int) (ko : ((k 0), oC 8 [.ref (k 1), .ref (k 2), vI nc, .ref (k 3), vI np, .ref (k 4), .ref (k 7), vI ik, .ref (k 10), .ref (k 13), .ref (k 14)]) ∈ RO) (n0 : ((k 4), oC 2 [.ref (k 5), .ref (k 6), vI (ms_w S), vI (ms_l S), vI (ms_s S), vI (ms_a S), vI (ms_t S), vI (ms_p S)]) ∈ RO) (n1 : ((k 5), aI (Y 0) 7 (ms_h S)) ∈ RO) (n2 : ((k 6), aI (Y 0) 420 (ms_m S)) ∈ RO) (hS : okS S) (hc : -2147483648 ≤ c ∧ c ≤ 2147483647) (hd : -2147483648 ≤ d ∧ d ≤ 2147483647) : jMi l yX9_mark wsX9_mark { frames := 2, cells := 0, slots := 0, locals := 43 } D Y RO [.ref (k 0), vI c, vI d] [] (fun e w1 => e = rMark c d S ∧ w1 = []) := by
  refine j_ofi RX9 rfl rfl rfl (Nat.le_of_ble_eq_true rfl) (fun X C Rt => ?_)
  refine j_iload_n (pc := 0) C 1 1 rfl rfl dX9_mark_0 ?_
  refine j_callSi (pc := 1) (As := [vI c]) (na := 1) (st := []) C [] [] (wr := []) (fun l => c_isCairn l D Y _ c (by first | assumption | omega)) rfl rfl rfl rfl (by decide) rfl gX9_mark_X9_isCairn (by decide +kernel) (by decide) rfl rfl (Nat.le_of_ble_eq_true rfl) (by decide) dX9_mark_1 (fun e_1 w_2 h_3 => ?_)
  obtain ⟨rfl, rfl⟩ := h_3
  refine j_perm (ws' := []) [] rfl rfl ?_
  refine j_if_neb (pc := 4) C 10 rfl dX9_mark_4 (fun h_4p4 => ?_) (fun h_4p4 => ?_)
  · skip
    refine j_iload_n (pc := 10) C 2 2 rfl rfl dX9_mark_10 ?_
    refine j_if_lt (pc := 11) C 20 rfl (by omega) dX9_mark_11 (fun h_5p11 => ?_) (fun h_5p11 => ?_)
    · skip
      refine j_bipush (pc := 20) (w := (-102)) C rfl dX9_mark_20 ?_
      exact Rt _ _ _ _ _ _ (by decide) (by decide) ⟨by unfold rMark; rw [if_neg (by omega), if_pos (by omega)], rfl⟩ dX9_mark_22
    · skip
      refine j_iload_n (pc := 14) C 2 2 rfl rfl dX9_mark_14 ?_
      refine j_bipush (pc := 15) (w := 60) C rfl dX9_mark_15 ?_
      refine j_icmp_lt (pc := 17) C 23 rfl (by omega) dX9_mark_17 (fun h_6p17 => ?_) (fun h_6p17 => ?_)
      · skip
        refine j_aload_n (pc := 23) C 0 0 rfl rfl dX9_mark_23 ?_
        refine j_get (pc := 24) C (Or.inr ko) rfl fX9_mark_X9 5 (by decide) (List.mem_of_getElem? (i := 1) rfl) (Or.inl rfl) rfl dX9_mark_24 ?_
        refine j_iload_n (pc := 27) C 1 1 rfl rfl dX9_mark_27 ?_
        refine j_iload_n (pc := 28) C 2 2 rfl rfl dX9_mark_28 ?_
        refine j_callVi (pc := 29) (As := [vI c, vI d]) (na := 2) (st := []) C [] [] (wr := []) (fun l => c_markAt l D Y _ (k 4) (k 5) (k 6) S c d (List.mem_append_right _ n0) (List.mem_append_right _ n1) (List.mem_append_right _ n2) hS (by first | assumption | omega) (by first | assumption | omega)) rfl rfl rfl rfl (by decide) rfl (Or.inr (List.mem_append_right _ n0)) rfl gX9_mark_X2_markAt ⟨rfl, by decide +kernel⟩ (by decide) rfl rfl (Nat.le_of_ble_eq_true rfl) (by decide) dX9_mark_29 (fun e_7 w_8 h_9 => ?_)
        obtain ⟨rfl, rfl⟩ := h_9
        refine j_perm (ws' := []) [] rfl rfl ?_
        exact Rt _ _ _ _ _ _ (by decide) (by decide) ⟨by unfold rMark; rw [if_neg (by omega), if_neg (by omega)], rfl⟩ dX9_mark_32
      · skip
        refine j_bipush (pc := 20) (w := (-102)) C rfl dX9_mark_20 ?_
        exact Rt _ _ _ _ _ _ (by decide) (by decide) ⟨by unfold rMark; rw [if_neg (by omega), if_pos (by omega)], rfl⟩ dX9_mark_22
  · skip
    refine j_bipush (pc := 7) (w := (-101)) C rfl dX9_mark_7 ?_
    exact Rt _ _ _ _ _ _ (by decide) (by decide) ⟨by unfold rMark; rw [if_pos (by omega)], rfl⟩ dX9_mark_9

theorem fX9_dated_X2 : ∀ w ∈ u_ws RX2 TX2 8, w ∈ wsX9_dated := j_words [25, 26, 27, 28, 29, 30, 31, 32] (by decide +kernel)
theorem fX9_dated_X9 : ∀ w ∈ u_ws RX9 TX9 11, w ∈ wsX9_dated := j_words [14, 15, 16, 17, 18, 19, 20, 21, 22, 23, 24] (by decide +kernel)
set_option maxHeartbeats 4000000 in
set_option maxRecDepth 100000 in
theorem k_dated (l : Launch) (D : va_G) (Y : Nat → ClassId) (RO : va_W) (k : Nat → Nat) (nc : Int) (np : Int) (ik : Int) (S : MS) (c : Int) (w : Int) (ko : ((k 0), oC 8 [.ref (k 1), .ref (k 2), vI nc, .ref (k 3), vI np, .ref (k 4), .ref (k 7), vI ik, .ref (k 10), .ref (k 13), .ref (k 14)]) ∈ RO) (n0 : ((k 4), oC 2 [.ref (k 5), .ref (k 6), vI (ms_w S), vI (ms_l S), vI (ms_s S), vI (ms_a S), vI (ms_t S), vI (ms_p S)]) ∈ RO) (n1 : ((k 5), aI (Y 0) 7 (ms_h S)) ∈ RO) (n2 : ((k 6), aI (Y 0) 420 (ms_m S)) ∈ RO) (hS : okS S) (hc : -2147483648 ≤ c ∧ c ≤ 2147483647) (hd : -2147483648 ≤ w ∧ w ≤ 2147483647) (hw : ms_w S ≤ 2147482000) : jMi l yX9_dated wsX9_dated { frames := 2, cells := 0, slots := 0, locals := 43 } D Y RO [.ref (k 0), vI c, vI w] [] (fun e w1 => e = rDated c w S ∧ w1 = []) := by
  refine j_ofi RX9 rfl rfl rfl (Nat.le_of_ble_eq_true rfl) (fun X C Rt => ?_)
  refine j_iload_n (pc := 0) C 1 1 rfl rfl dX9_dated_0 ?_
  refine j_callSi (pc := 1) (As := [vI c]) (na := 1) (st := []) C [] [] (wr := []) (fun l => c_isCairn l D Y _ c (by first | assumption | omega)) rfl rfl rfl rfl (by decide) rfl gX9_dated_X9_isCairn (by decide +kernel) (by decide) rfl rfl (Nat.le_of_ble_eq_true rfl) (by decide) dX9_dated_1 (fun e_1 w_2 h_3 => ?_)
  obtain ⟨rfl, rfl⟩ := h_3
  refine j_perm (ws' := []) [] rfl rfl ?_
  refine j_if_neb (pc := 4) C 10 rfl dX9_dated_4 (fun h_4p4 => ?_) (fun h_4p4 => ?_)
  · skip
    refine j_iload_n (pc := 10) C 2 2 rfl rfl dX9_dated_10 ?_
    refine j_if_lt (pc := 11) C 21 rfl (by omega) dX9_dated_11 (fun h_5p11 => ?_) (fun h_5p11 => ?_)
    · skip
      refine j_bipush (pc := 21) (w := (-102)) C rfl dX9_dated_21 ?_
      exact Rt _ _ _ _ _ _ (by decide) (by decide) ⟨by unfold rDated; rw [if_neg (by omega), if_pos (by omega)], rfl⟩ dX9_dated_23
    · skip
      refine j_iload_n (pc := 14) C 2 2 rfl rfl dX9_dated_14 ?_
      refine j_sipush (pc := 15) (w := 9999) C rfl dX9_dated_15 ?_
      refine j_icmp_le (pc := 18) C 24 rfl (by omega) dX9_dated_18 (fun h_6p18 => ?_) (fun h_6p18 => ?_)
      · skip
        have hh := hS.1 c (by omega)
        refine j_iconst (pc := 24) C dX9_dated_24 ?_
        refine j_istore_n (pc := 25) (lc' := [(3, vI 0), (0, .ref (k 0)), (1, vI c), (2, vI w)]) C 3 rfl (by decide) rfl dX9_dated_25 ?_
        refine j_iconst (pc := 26) C dX9_dated_26 ?_
        refine j_istore (pc := 27) (lc' := [(4, vI 0), (3, vI 0), (0, .ref (k 0)), (1, vI c), (2, vI w)]) C (by decide) rfl dX9_dated_27 ?_
        have hL29 : ∀ (N29 : Nat) (b : Int) (i : Int), ((ms_h S c - i).toNat) < N29 → (0 ≤ i ∧ i ≤ ms_h S c) → (b = cntI (fun d => markS c d S) w i) → jW X 5 0 0 [] [(0, .ref (k 0)), (1, vI c), (2, vI w), (3, vI b), (4, vI i)] 29 [] := by
          intro N29
          induction N29 with
          | zero => intro b i hm29 i29_0 i29_1; omega
          | succ N29 ih29 =>
            intro b i hm29 i29_0 i29_1
            refine j_iload (pc := 29) C 4 rfl dX9_dated_29 ?_
            refine j_aload_n (pc := 31) C 0 0 rfl rfl dX9_dated_31 ?_
            refine j_get (pc := 32) C (Or.inr ko) rfl fX9_dated_X9 5 (by decide) (List.mem_of_getElem? (i := 1) rfl) (Or.inl rfl) rfl dX9_dated_32 ?_
            refine j_get (pc := 35) C (Or.inr n0) rfl fX9_dated_X2 0 (by decide) (List.mem_of_getElem? (i := 2) rfl) (Or.inl rfl) rfl dX9_dated_35 ?_
            refine j_iload_n (pc := 38) C 1 1 rfl rfl dX9_dated_38 ?_
            refine j_iald (pc := 39) C (Or.inr n1) rfl (by omega) (by decide) dX9_dated_39 ?_
            have f_7 := hS.1 c (by omega)
            refine j_icmp_ge (pc := 40) C 66 rfl (by omega) dX9_dated_40 (fun h_8p40 => ?_) (fun h_8p40 => ?_)
            · skip
              refine j_iload_n (pc := 66) C 3 3 rfl rfl dX9_dated_66 ?_
              exact Rt _ _ _ _ _ _ (by decide) (by decide) ⟨by unfold rDated; rw [if_neg (by omega), if_neg (by omega), i29_1, show i = ms_h S c by omega], rfl⟩ dX9_dated_67
            · skip
              refine j_aload_n (pc := 43) C 0 0 rfl rfl dX9_dated_43 ?_
              refine j_get (pc := 44) C (Or.inr ko) rfl fX9_dated_X9 5 (by decide) (List.mem_of_getElem? (i := 1) rfl) (Or.inl rfl) rfl dX9_dated_44 ?_
              refine j_iload_n (pc := 47) C 1 1 rfl rfl dX9_dated_47 ?_
              refine j_iload (pc := 48) C 4 rfl dX9_dated_48 ?_
              refine j_callVi (pc := 50) (As := [vI c, vI i]) (na := 2) (st := []) C [] [] (wr := []) (fun l => c_markAt l D Y _ (k 4) (k 5) (k 6) S c i (List.mem_append_right _ n0) (List.mem_append_right _ n1) (List.mem_append_right _ n2) hS (by first | assumption | omega) (by first | assumption | omega)) rfl rfl rfl rfl (by decide) rfl (Or.inr (List.mem_append_right _ n0)) rfl gX9_dated_X2_markAt ⟨rfl, by decide +kernel⟩ (by decide) rfl rfl (Nat.le_of_ble_eq_true rfl) (by decide) dX9_dated_50 (fun e_9 w_10 h_11 => ?_)
              obtain ⟨rfl, rfl⟩ := h_11
              refine j_perm (ws' := []) [] rfl rfl ?_
              have hmk := markS_in (c := c) (d := i) hS
              refine j_iload_n (pc := 53) C 2 2 rfl rfl dX9_dated_53 ?_
              refine j_icmp_ne (pc := 54) C 60 rfl (by omega) dX9_dated_54 (fun h_12p54 => ?_) (fun h_12p54 => ?_)
              · skip
                refine j_iinc (pc := 60) (lc' := [(4, vI (i + 1)), (0, .ref (k 0)), (1, vI c), (2, vI w), (3, vI b)]) C 4 rfl (by decide) rfl dX9_dated_60 ?_
                refine j_goto (pc := 63) C 29 rfl dX9_dated_63 ?_
                refine j_locals (lc' := [(0, .ref (k 0)), (1, vI c), (2, vI w), (3, vI b), (4, vI (i + 1))]) [1, 2, 3, 4, 0] rfl ?_
                exact ih29 b (i + 1) (by omega) (by omega) (by unfold cntI at i29_1 ⊢; rw [fo_succ _ (by omega), ← i29_1]; unfold cntF; first | rw [if_pos (by omega)] | rw [if_neg (by omega)])
              · skip
                refine j_iinc (pc := 57) (lc' := [(3, vI (b + 1)), (0, .ref (k 0)), (1, vI c), (2, vI w), (4, vI i)]) C 3 rfl (by decide) rfl dX9_dated_57 ?_
                refine j_iinc (pc := 60) (lc' := [(4, vI (i + 1)), (3, vI (b + 1)), (0, .ref (k 0)), (1, vI c), (2, vI w)]) C 4 rfl (by decide) rfl dX9_dated_60 ?_
                refine j_goto (pc := 63) C 29 rfl dX9_dated_63 ?_
                refine j_locals (lc' := [(0, .ref (k 0)), (1, vI c), (2, vI w), (3, vI (b + 1)), (4, vI (i + 1))]) [2, 3, 4, 1, 0] rfl ?_
                exact ih29 (b + 1) (i + 1) (by omega) (by omega) (by unfold cntI at i29_1 ⊢; rw [fo_succ _ (by omega), ← i29_1]; unfold cntF; first | rw [if_pos (by omega)] | rw [if_neg (by omega)])
        refine j_locals (lc' := [(0, .ref (k 0)), (1, vI c), (2, vI w), (3, vI 0), (4, vI 0)]) [2, 3, 4, 1, 0] rfl ?_
        exact hL29 _ 0 0 (Nat.lt_succ_self _) (by omega) rfl
      · skip
        refine j_bipush (pc := 21) (w := (-102)) C rfl dX9_dated_21 ?_
        exact Rt _ _ _ _ _ _ (by decide) (by decide) ⟨by unfold rDated; rw [if_neg (by omega), if_pos (by omega)], rfl⟩ dX9_dated_23
  · skip
    refine j_bipush (pc := 7) (w := (-101)) C rfl dX9_dated_7 ?_
    exact Rt _ _ _ _ _ _ (by decide) (by decide) ⟨by unfold rDated; rw [if_pos (by omega)], rfl⟩ dX9_dated_9

theorem fX9_seed_X2 : ∀ w ∈ u_ws RX2 TX2 8, w ∈ wsX9_seed := j_words [14, 15, 16, 17, 18, 19, 20, 21] (by decide +kernel)
theorem fX9_seed_X9 : ∀ w ∈ u_ws RX9 TX9 11, w ∈ wsX9_seed := j_words [3, 4, 5, 6, 7, 8, 9, 10, 11, 12, 13] (by decide +kernel)
set_option maxHeartbeats 4000000 in
set_option maxRecDepth 100000 in
theorem k_seed (l : Launch) (D : va_G) (Y : Nat → ClassId) (RO : va_W) (k : Nat → Nat) (nc : Int) (np : Int) (ik : Int) (S : MS) (v : Int) (ko : ((k 0), oC 8 [.ref (k 1), .ref (k 2), vI nc, .ref (k 3), vI np, .ref (k 4), .ref (k 7), vI ik, .ref (k 10), .ref (k 13), .ref (k 14)]) ∈ RO) (hv : -2147483648 ≤ v ∧ v ≤ 2147483647) : jMi l yX9_seed wsX9_seed { frames := 0, cells := 0, slots := 0, locals := 0 } D Y RO [.ref (k 0), vI v] [((k 4), oC 2 [.ref (k 5), .ref (k 6), vI (ms_w S), vI (ms_l S), vI (ms_s S), vI (ms_a S), vI (ms_t S), vI (ms_p S)]), ((k 5), aI (Y 0) 7 (ms_h S)), ((k 6), aI (Y 0) 420 (ms_m S))] (fun e w1 => e = rSeed v S ∧ w1 = [((k 4), oC 2 [.ref (k 5), .ref (k 6), vI (ms_w (sSeed v S)), vI (ms_l (sSeed v S)), vI (ms_s (sSeed v S)), vI (ms_a (sSeed v S)), vI (ms_t (sSeed v S)), vI (ms_p (sSeed v S))]), ((k 5), aI (Y 0) 7 (ms_h (sSeed v S))), ((k 6), aI (Y 0) 420 (ms_m (sSeed v S)))]) := by
  refine j_ofi RX9 rfl rfl rfl (Nat.le_of_ble_eq_true rfl) (fun X C Rt => ?_)
  refine j_iload_n (pc := 0) C 1 1 rfl rfl dX9_seed_0 ?_
  refine j_if_ge (pc := 1) C 7 rfl (by omega) dX9_seed_1 (fun h_1p1 => ?_) (fun h_1p1 => ?_)
  · skip
    refine j_aload_n (pc := 7) C 0 0 rfl rfl dX9_seed_7 ?_
    refine j_get (pc := 8) C (Or.inr ko) rfl fX9_seed_X9 5 (by decide) (List.mem_of_getElem? (i := 1) rfl) (Or.inl rfl) rfl dX9_seed_8 ?_
    refine j_get (pc := 11) C (Or.inl (List.mem_of_getElem? (i := 0) rfl)) rfl fX9_seed_X2 4 (by decide) (List.mem_of_getElem? (i := 2) rfl) (Or.inl rfl) rfl dX9_seed_11 ?_
    refine j_istore_n (pc := 14) (lc' := [(2, vI (ms_s S)), (0, .ref (k 0)), (1, vI v)]) C 2 rfl (by decide) rfl dX9_seed_14 ?_
    refine j_aload_n (pc := 15) C 0 1 rfl rfl dX9_seed_15 ?_
    refine j_get (pc := 16) C (Or.inr ko) rfl fX9_seed_X9 5 (by decide) (List.mem_of_getElem? (i := 1) rfl) (Or.inl rfl) rfl dX9_seed_16 ?_
    refine j_iload_n (pc := 19) C 1 2 rfl rfl dX9_seed_19 ?_
    refine j_put (pc := 20) (ws' := [((k 4), oC 2 [.ref (k 5), .ref (k 6), vI (ms_w S), vI (ms_l S), vI v, vI (ms_a S), vI (ms_t S), vI (ms_p S)]), ((k 5), aI (Y 0) 7 (ms_h S)), ((k 6), aI (Y 0) 420 (ms_m S))]) C 0 rfl rfl fX9_seed_X2 tyX2_ok nmX2 4 (by decide) (List.mem_of_getElem? (i := 2) rfl) (Or.inl rfl) rfl rfl rfl rfl (Nat.le_of_ble_eq_true rfl) rfl dX9_seed_20 ?_
    refine j_iload_n (pc := 23) C 2 0 rfl rfl dX9_seed_23 ?_
    exact Rt _ _ _ _ _ _ (by decide) (by decide) ⟨by unfold rSeed; rw [if_neg (by omega)], by unfold sSeed; rw [if_neg (by omega)]; first | done | rfl⟩ dX9_seed_24
  · skip
    refine j_bipush (pc := 4) (w := (-102)) C rfl dX9_seed_4 ?_
    exact Rt _ _ _ _ _ _ (by decide) (by decide) ⟨by unfold rSeed; rw [if_pos (by omega)], by unfold sSeed; rw [if_pos (by omega)]; first | done | rfl⟩ dX9_seed_6

theorem fX9_customAt_X9 : ∀ w ∈ u_ws RX9 TX9 11, w ∈ wsX9_customAt := j_words [2, 3, 4, 5, 6, 7, 8, 9, 10, 11, 12] (by decide +kernel)
set_option maxHeartbeats 4000000 in
set_option maxRecDepth 100000 in
theorem k_customAt (l : Launch) (D : va_G) (Y : Nat → ClassId) (RO : va_W) (k : Nat → Nat) (nc : Int) (np : Int) (ik : Int) (cad : Int → Nat) (i : Int) (ko : ((k 0), oC 8 [.ref (k 1), .ref (k 2), vI nc, .ref (k 3), vI np, .ref (k 4), .ref (k 7), vI ik, .ref (k 10), .ref (k 13), .ref (k 14)]) ∈ RO) (kc : ((k 2), aQ (Y 2) 4 (orow nc cad)) ∈ RO) (hi : -2147483648 ≤ i ∧ i ≤ 2147483647) (hnc : 0 ≤ nc ∧ nc ≤ 4) : jMr l yX9_customAt wsX9_customAt { frames := 0, cells := 0, slots := 0, locals := 0 } D Y RO [.ref (k 0), vI i] [] (fun e w1 => e = orow nc cad i ∧ w1 = []) := by
  refine j_ofr RX9 rfl rfl rfl (Nat.le_of_ble_eq_true rfl) (fun X C Rt => ?_)
  refine j_iload_n (pc := 0) C 1 1 rfl rfl dX9_customAt_0 ?_
  refine j_if_lt (pc := 1) C 9 rfl (by omega) dX9_customAt_1 (fun h_1p1 => ?_) (fun h_1p1 => ?_)
  · skip
    refine j_null (pc := 9) C dX9_customAt_9 ?_
    refine j_goto (pc := 10) C 19 rfl dX9_customAt_10 ?_
    exact Rt _ _ _ _ _ none (by decide) (by decide) ⟨(orow_out (by omega)).symm, rfl⟩ dX9_customAt_19
  · skip
    refine j_iload_n (pc := 4) C 1 1 rfl rfl dX9_customAt_4 ?_
    refine j_iconst (pc := 5) C dX9_customAt_5 ?_
    refine j_icmp_lt (pc := 6) C 13 rfl (by omega) dX9_customAt_6 (fun h_2p6 => ?_) (fun h_2p6 => ?_)
    · skip
      refine j_aload_n (pc := 13) C 0 0 rfl rfl dX9_customAt_13 ?_
      refine j_get (pc := 14) C (Or.inr ko) rfl fX9_customAt_X9 1 (by decide) (List.mem_of_getElem? (i := 1) rfl) (Or.inl rfl) rfl dX9_customAt_14 ?_
      refine j_iload_n (pc := 17) C 1 1 rfl rfl dX9_customAt_17 ?_
      refine j_aaldC (pc := 18) C (Or.inr kc) rfl (by omega) (by decide) dX9_customAt_18 ?_
      exact Rt _ _ _ _ _ (orow nc cad i) (by decide) (by decide) ⟨rfl, rfl⟩ dX9_customAt_19
    · skip
      refine j_null (pc := 9) C dX9_customAt_9 ?_
      refine j_goto (pc := 10) C 19 rfl dX9_customAt_10 ?_
      exact Rt _ _ _ _ _ none (by decide) (by decide) ⟨(orow_out (by omega)).symm, rfl⟩ dX9_customAt_19

theorem fX9_weeks_X2 : ∀ w ∈ u_ws RX2 TX2 8, w ∈ wsX9_weeks := j_words [146, 147, 148, 149, 150, 151, 152, 153] (by decide +kernel)
theorem fX9_weeks_X9 : ∀ w ∈ u_ws RX9 TX9 11, w ∈ wsX9_weeks := j_words [135, 136, 137, 138, 139, 140, 141, 142, 143, 144, 145] (by decide +kernel)
set_option maxHeartbeats 4000000 in
set_option maxRecDepth 100000 in
theorem k_weeks (l : Launch) (D : va_G) (Y : Nat → ClassId) (RO : va_W) (k : Nat → Nat) (nc : Int) (np : Int) (ik : Int) (cad : Int → Nat) (cs : Int → CT) (pad : Int → Nat) (ps : Int → PT) (S : MS) (cu : Int) (n : Int) (ko : ((k 0), oC 8 [.ref (k 1), .ref (k 2), vI nc, .ref (k 3), vI np, .ref (k 4), .ref (k 7), vI ik, .ref (k 10), .ref (k 13), .ref (k 14)]) ∈ RO) (kc : ((k 2), aQ (Y 2) 4 (orow nc cad)) ∈ RO) (hcc : ∀ i, 0 ≤ i ∧ i < nc → (cad i, oC 1 [vI (cw (cs i)), vI (cz (cs i)), vI (ce (cs i))]) ∈ RO) (kp : ((k 3), aQ (Y 3) 6 (orow np pad)) ∈ RO) (hpc : ∀ i, 0 ≤ i ∧ i < np → pC (pad i) (ps i) ∈ RO) (hS : okS S) (hw : ms_w S ≤ 9999) (hnc : 0 ≤ nc ∧ nc ≤ 4) (hcs : ∀ i, 0 ≤ i ∧ i < nc → okC (cs i)) (hnp : 0 ≤ np ∧ np ≤ 6) (hps : ∀ i, 0 ≤ i ∧ i < np → okP (ps i)) (hcu : -2147483648 ≤ cu ∧ cu ≤ 2147483647) (hn : -2147483648 ≤ n ∧ n ≤ 2147483647) : jMi l yX9_weeks wsX9_weeks { frames := 5, cells := 0, slots := 0, locals := 116 } D Y RO [.ref (k 0), vI cu, vI n] [((k 4), oC 2 [.ref (k 5), .ref (k 6), vI (ms_w S), vI (ms_l S), vI (ms_s S), vI (ms_a S), vI (ms_t S), vI (ms_p S)]), ((k 5), aI (Y 0) 7 (ms_h S)), ((k 6), aI (Y 0) 420 (ms_m S))] (fun e w1 => e = rWeeks cu n nc cs np ps S ∧ w1 = [((k 4), oC 2 [.ref (k 5), .ref (k 6), vI (ms_w (sWeeks cu n nc cs np ps S)), vI (ms_l (sWeeks cu n nc cs np ps S)), vI (ms_s (sWeeks cu n nc cs np ps S)), vI (ms_a (sWeeks cu n nc cs np ps S)), vI (ms_t (sWeeks cu n nc cs np ps S)), vI (ms_p (sWeeks cu n nc cs np ps S))]), ((k 5), aI (Y 0) 7 (ms_h (sWeeks cu n nc cs np ps S))), ((k 6), aI (Y 0) 420 (ms_m (sWeeks cu n nc cs np ps S)))]) := by
  refine j_ofi RX9 rfl rfl rfl (Nat.le_of_ble_eq_true rfl) (fun X C Rt => ?_)
  have hw0 := hS.w
  refine j_aload_n (pc := 0) C 0 0 rfl rfl dX9_weeks_0 ?_
  refine j_iload_n (pc := 1) C 1 1 rfl rfl dX9_weeks_1 ?_
  refine j_callVr (pc := 2) (As := [vI cu]) (na := 1) (st := []) C [] [0, 1, 2] (wr := [((k 4), oC 2 [.ref (k 5), .ref (k 6), vI (ms_w S), vI (ms_l S), vI (ms_s S), vI (ms_a S), vI (ms_t S), vI (ms_p S)]), ((k 5), aI (Y 0) 7 (ms_h S)), ((k 6), aI (Y 0) 420 (ms_m S))]) (fun l => k_customAt l D Y _ k nc np ik cad cu (List.mem_append_right _ ko) (List.mem_append_right _ kc) (by first | assumption | omega) (by first | assumption | omega)) rfl rfl rfl rfl (by decide) rfl (Or.inr (List.mem_append_right _ ko)) rfl gX9_weeks_X9_customAt ⟨rfl, by decide +kernel⟩ (by decide) rfl rfl (Nat.le_of_ble_eq_true rfl) (by decide) dX9_weeks_2 (fun e_1 w_2 h_3 => ?_)
  obtain ⟨rfl, rfl⟩ := h_3
  refine j_perm (ws' := [((k 4), oC 2 [.ref (k 5), .ref (k 6), vI (ms_w S), vI (ms_l S), vI (ms_s S), vI (ms_a S), vI (ms_t S), vI (ms_p S)]), ((k 5), aI (Y 0) 7 (ms_h S)), ((k 6), aI (Y 0) 420 (ms_m S))]) [0, 1, 2] rfl rfl ?_
  by_cases hq_4 : 0 ≤ cu ∧ cu < nc
  · rw [show orow nc cad cu = some (cad cu) from orow_in hq_4]
    have hc4 := hcc cu hq_4
    have hC4 := hcs cu hq_4
    refine j_astore_n (pc := 5) (lc' := [(3, .ref (cad cu)), (0, .ref (k 0)), (1, vI cu), (2, vI n)]) C 3 rfl (by decide) rfl dX9_weeks_5 ?_
    refine j_aload_n (pc := 6) C 3 0 rfl rfl dX9_weeks_6 ?_
    refine j_ifnonnull (pc := 7) C 13 rfl dX9_weeks_7 ?_
    refine j_iload_n (pc := 13) C 2 3 rfl rfl dX9_weeks_13 ?_
    refine j_iconst (pc := 14) C dX9_weeks_14 ?_
    refine j_icmp_lt (pc := 15) C 24 rfl (by omega) dX9_weeks_15 (fun h_5p15 => ?_) (fun h_5p15 => ?_)
    · skip
      refine j_bipush (pc := 24) (w := (-102)) C rfl dX9_weeks_24 ?_
      exact Rt _ _ _ _ _ _ (by decide) (by decide) ⟨by unfold rWeeks; rw [if_neg (by omega), if_pos (by omega)], by unfold sWeeks; rw [if_neg (by omega), if_pos (by omega)]; first | done | rfl⟩ dX9_weeks_26
    · skip
      refine j_iload_n (pc := 18) C 2 3 rfl rfl dX9_weeks_18 ?_
      refine j_bipush (pc := 19) (w := 60) C rfl dX9_weeks_19 ?_
      refine j_icmp_le (pc := 21) C 27 rfl (by omega) dX9_weeks_21 (fun h_6p21 => ?_) (fun h_6p21 => ?_)
      · skip
        refine j_aload_n (pc := 27) C 0 1 rfl rfl dX9_weeks_27 ?_
        refine j_get (pc := 28) C (Or.inr ko) rfl fX9_weeks_X9 5 (by decide) (List.mem_of_getElem? (i := 1) rfl) (Or.inl rfl) rfl dX9_weeks_28 ?_
        refine j_get (pc := 31) C (Or.inl (List.mem_of_getElem? (i := 0) rfl)) rfl fX9_weeks_X2 2 (by decide) (List.mem_of_getElem? (i := 2) rfl) (Or.inl rfl) rfl dX9_weeks_31 ?_
        refine j_iload_n (pc := 34) C 2 3 rfl rfl dX9_weeks_34 ?_
        refine j_iadd (pc := 35) C dX9_weeks_35 ?_
        refine j_sipush (pc := 36) (w := 9999) C rfl dX9_weeks_36 ?_
        refine j_icmp_le (pc := 39) C 45 rfl (by omega) dX9_weeks_39 (fun h_7p39 => ?_) (fun h_7p39 => ?_)
        · skip
          refine j_iconst (pc := 45) C dX9_weeks_45 ?_
          refine j_istore (pc := 46) (lc' := [(4, vI 0), (3, .ref (cad cu)), (0, .ref (k 0)), (1, vI cu), (2, vI n)]) C (by decide) rfl dX9_weeks_46 ?_
          have hL48 : ∀ (N48 : Nat) (i : Int) (T : MS), ((n - i).toNat) < N48 → (0 ≤ i ∧ i ≤ n) → (T = weeksS (cs cu) ps np i S) → (okS T ∧ ms_w T = ms_w S + i) → jW X 5 0 0 [((k 4), oC 2 [.ref (k 5), .ref (k 6), vI (ms_w T), vI (ms_l T), vI (ms_s T), vI (ms_a T), vI (ms_t T), vI (ms_p T)]), ((k 5), aI (Y 0) 7 (ms_h T)), ((k 6), aI (Y 0) 420 (ms_m T))] [(0, .ref (k 0)), (2, vI n), (3, .ref (cad cu)), (4, vI i)] 48 [] := by
            intro N48
            induction N48 with
            | zero => intro i T hm48 i48_0 i48_1 i48_2; omega
            | succ N48 ih48 =>
              intro i T hm48 i48_0 i48_1 i48_2
              refine j_iload (pc := 48) C 3 rfl dX9_weeks_48 ?_
              refine j_iload_n (pc := 50) C 2 1 rfl rfl dX9_weeks_50 ?_
              refine j_icmp_ge (pc := 51) C 72 rfl (by omega) dX9_weeks_51 (fun h_8p51 => ?_) (fun h_8p51 => ?_)
              · skip
                refine j_aload_n (pc := 72) C 0 0 rfl rfl dX9_weeks_72 ?_
                refine j_get (pc := 73) C (Or.inr ko) rfl fX9_weeks_X9 5 (by decide) (List.mem_of_getElem? (i := 1) rfl) (Or.inl rfl) rfl dX9_weeks_73 ?_
                refine j_callVi (pc := 76) (As := []) (na := 0) (st := []) C [] [0, 1, 2] (wr := [((k 4), oC 2 [.ref (k 5), .ref (k 6), vI (ms_w T), vI (ms_l T), vI (ms_s T), vI (ms_a T), vI (ms_t T), vI (ms_p T)]), ((k 5), aI (Y 0) 7 (ms_h T)), ((k 6), aI (Y 0) 420 (ms_m T))]) (fun l => c_pebbles l D Y _ (k 4) (k 5) (k 6) T (List.mem_append_left _ (List.mem_of_getElem? (i := 0) rfl)) (List.mem_append_left _ (List.mem_of_getElem? (i := 1) rfl)) ) rfl rfl rfl rfl (by decide) rfl (Or.inr (List.mem_append_left _ (List.mem_of_getElem? (i := 0) rfl))) rfl gX9_weeks_X2_pebbles ⟨rfl, by decide +kernel⟩ (by decide) rfl rfl (Nat.le_of_ble_eq_true rfl) (by decide) dX9_weeks_76 (fun e_9 w_10 h_11 => ?_)
                obtain ⟨rfl, rfl⟩ := h_11
                refine j_perm (ws' := [((k 4), oC 2 [.ref (k 5), .ref (k 6), vI (ms_w T), vI (ms_l T), vI (ms_s T), vI (ms_a T), vI (ms_t T), vI (ms_p T)]), ((k 5), aI (Y 0) 7 (ms_h T)), ((k 6), aI (Y 0) 420 (ms_m T))]) [0, 1, 2] rfl rfl ?_
                exact Rt _ _ _ _ _ _ (by decide) (by decide) ⟨by unfold rWeeks; rw [if_neg (by omega), if_neg (by omega), if_neg (by omega), show n = i by omega, ← i48_1], by unfold sWeeks; rw [if_neg (by omega), if_neg (by omega), if_neg (by omega), show n = i by omega, ← i48_1]⟩ dX9_weeks_79
              · skip
                refine j_aload_n (pc := 54) C 0 0 rfl rfl dX9_weeks_54 ?_
                refine j_get (pc := 55) C (Or.inr ko) rfl fX9_weeks_X9 5 (by decide) (List.mem_of_getElem? (i := 1) rfl) (Or.inl rfl) rfl dX9_weeks_55 ?_
                refine j_aload_n (pc := 58) C 3 2 rfl rfl dX9_weeks_58 ?_
                refine j_aload_n (pc := 59) C 0 0 rfl rfl dX9_weeks_59 ?_
                refine j_get (pc := 60) C (Or.inr ko) rfl fX9_weeks_X9 3 (by decide) (List.mem_of_getElem? (i := 3) rfl) (Or.inl rfl) rfl dX9_weeks_60 ?_
                refine j_callVv (pc := 63) (As := [.ref (cad cu), .ref (k 3)]) (na := 2) (st := []) C [0, 1, 2] [] (wr := []) (fun l => c_goOneWeek l D Y _ (k 4) (k 5) (k 6) T (cad cu) (cs cu) (k 3) pad np ps (List.mem_append_right _ hc4) (List.mem_append_right _ kp) (fun i hi => List.mem_append_right _ (hpc i hi)) i48_2.1 (by first | assumption | omega) (by first | assumption | omega) (by first | assumption | omega) (by omega)) rfl rfl rfl rfl (by decide) rfl (Or.inl (List.mem_of_getElem? (i := 0) rfl)) rfl gX9_weeks_X2_goOneWeek ⟨rfl, by decide +kernel⟩ (by decide) rfl rfl (Nat.le_of_ble_eq_true rfl) (by decide) dX9_weeks_63 (fun w_13 h_14 => ?_)
                subst h_14
                refine j_perm (ws' := [((k 4), oC 2 [.ref (k 5), .ref (k 6), vI (ms_w (goS (cs cu) ps np T)), vI (ms_l (goS (cs cu) ps np T)), vI (ms_s (goS (cs cu) ps np T)), vI (ms_a (goS (cs cu) ps np T)), vI (ms_t (goS (cs cu) ps np T)), vI (ms_p (goS (cs cu) ps np T))]), ((k 5), aI (Y 0) 7 (ms_h (goS (cs cu) ps np T))), ((k 6), aI (Y 0) 420 (ms_m (goS (cs cu) ps np T)))]) [0, 1, 2] rfl rfl ?_
                refine j_iinc (pc := 66) (lc' := [(4, vI (i + 1)), (0, .ref (k 0)), (2, vI n), (3, .ref (cad cu))]) C 3 rfl (by decide) rfl dX9_weeks_66 ?_
                refine j_goto (pc := 69) C 48 rfl dX9_weeks_69 ?_
                refine j_locals (lc' := [(0, .ref (k 0)), (2, vI n), (3, .ref (cad cu)), (4, vI (i + 1))]) [1, 2, 3, 0] rfl ?_
                exact ih48 (i + 1) (goS (cs cu) ps np T) (by omega) (by omega) (by rw [i48_1]; exact (weeksS_succ (by omega)).symm) (by have := okS_go i48_2.1 (by assumption) hps hnp; exact ⟨this.1, by rw [this.2, i48_2.2]; omega⟩)
          refine j_locals (lc' := [(0, .ref (k 0)), (2, vI n), (3, .ref (cad cu)), (4, vI 0)]) [2, 4, 1, 0] rfl ?_
          exact hL48 _ 0 S (Nat.lt_succ_self _) (by omega) rfl ⟨hS, by omega⟩
        · skip
          refine j_bipush (pc := 42) (w := (-103)) C rfl dX9_weeks_42 ?_
          exact Rt _ _ _ _ _ _ (by decide) (by decide) ⟨by unfold rWeeks; rw [if_neg (by omega), if_neg (by omega), if_pos (by omega)], by unfold sWeeks; rw [if_neg (by omega), if_neg (by omega), if_pos (by omega)]; first | done | rfl⟩ dX9_weeks_44
      · skip
        refine j_bipush (pc := 24) (w := (-102)) C rfl dX9_weeks_24 ?_
        exact Rt _ _ _ _ _ _ (by decide) (by decide) ⟨by unfold rWeeks; rw [if_neg (by omega), if_pos (by omega)], by unfold sWeeks; rw [if_neg (by omega), if_pos (by omega)]; first | done | rfl⟩ dX9_weeks_26
  · rw [show orow nc cad cu = none from orow_out hq_4]
    refine j_astore_nN (pc := 5) (lc' := [(3, .null), (0, .ref (k 0)), (1, vI cu), (2, vI n)]) C 3 rfl (by decide) rfl dX9_weeks_5 ?_
    refine j_aload_nN (pc := 6) C 3 0 rfl rfl dX9_weeks_6 ?_
    refine j_ifnonnullN (pc := 7) C dX9_weeks_7 ?_
    refine j_bipush (pc := 10) (w := (-101)) C rfl dX9_weeks_10 ?_
    exact Rt _ _ _ _ _ _ (by decide) (by decide) ⟨by unfold rWeeks; rw [if_pos (by omega)], by unfold sWeeks; rw [if_pos (by omega)]; first | done | rfl⟩ dX9_weeks_12

theorem fX9_dreamOf_X9 : ∀ w ∈ u_ws RX9 TX9 11, w ∈ wsX9_dreamOf := j_words [134, 135, 136, 137, 138, 139, 140, 141, 142, 143, 144] (by decide +kernel)
set_option maxHeartbeats 4000000 in
set_option maxRecDepth 100000 in
theorem k_dreamOf (l : Launch) (D : va_G) (Y : Nat → ClassId) (RO : va_W) (k : Nat → Nat) (nc : Int) (np : Int) (ik : Int) (cad : Int → Nat) (cs : Int → CT) (pad : Int → Nat) (ps : Int → PT) (S : MS) (U : MS) (ca : Nat) (Cu : CT) (n : Int) (ko : ((k 0), oC 8 [.ref (k 1), .ref (k 2), vI nc, .ref (k 3), vI np, .ref (k 4), .ref (k 7), vI ik, .ref (k 10), .ref (k 13), .ref (k 14)]) ∈ RO) (kp : ((k 3), aQ (Y 3) 6 (orow np pad)) ∈ RO) (hpc : ∀ i, 0 ≤ i ∧ i < np → pC (pad i) (ps i) ∈ RO) (hc : (ca, oC 1 [vI (cw Cu), vI (cz Cu), vI (ce Cu)]) ∈ RO) (hS : okS S) (hw : ms_w S ≤ 10100) (hC : okC Cu) (hnp : 0 ≤ np ∧ np ≤ 6) (hps : ∀ i, 0 ≤ i ∧ i < np → okP (ps i)) (hn : 0 ≤ n ∧ n ≤ 60) : jMv l yX9_dreamOf wsX9_dreamOf { frames := 5, cells := 0, slots := 0, locals := 116 } D Y RO [.ref (k 0), .ref ca, vI n] [((k 4), oC 2 [.ref (k 5), .ref (k 6), vI (ms_w S), vI (ms_l S), vI (ms_s S), vI (ms_a S), vI (ms_t S), vI (ms_p S)]), ((k 5), aI (Y 0) 7 (ms_h S)), ((k 6), aI (Y 0) 420 (ms_m S)), ((k 10), oC 2 [.ref (k 11), .ref (k 12), vI (ms_w U), vI (ms_l U), vI (ms_s U), vI (ms_a U), vI (ms_t U), vI (ms_p U)]), ((k 11), aI (Y 0) 7 (ms_h U)), ((k 12), aI (Y 0) 420 (ms_m U))] (fun w1 => w1 = [((k 4), oC 2 [.ref (k 5), .ref (k 6), vI (ms_w S), vI (ms_l S), vI (ms_s S), vI (ms_a S), vI (ms_t S), vI (ms_p S)]), ((k 5), aI (Y 0) 7 (ms_h S)), ((k 6), aI (Y 0) 420 (ms_m S)), ((k 10), oC 2 [.ref (k 11), .ref (k 12), vI (ms_w (weeksS Cu ps np n S)), vI (ms_l (weeksS Cu ps np n S)), vI (ms_s (weeksS Cu ps np n S)), vI (ms_a (weeksS Cu ps np n S)), vI (ms_t (weeksS Cu ps np n S)), vI (ms_p (weeksS Cu ps np n S))]), ((k 11), aI (Y 0) 7 (ms_h (weeksS Cu ps np n S))), ((k 12), aI (Y 0) 420 (ms_m (weeksS Cu ps np n S)))]) := by
  refine j_ofv RX9 rfl rfl rfl (Nat.le_of_ble_eq_true rfl) (fun X C Rt hI => ?_)
  refine j_aload_n (pc := 0) C 0 0 rfl rfl dX9_dreamOf_0 ?_
  refine j_get (pc := 1) C (Or.inr ko) rfl fX9_dreamOf_X9 8 (by decide) (List.mem_of_getElem? (i := 1) rfl) (Or.inl rfl) rfl dX9_dreamOf_1 ?_
  refine j_aload_n (pc := 4) C 0 0 rfl rfl dX9_dreamOf_4 ?_
  refine j_get (pc := 5) C (Or.inr ko) rfl fX9_dreamOf_X9 5 (by decide) (List.mem_of_getElem? (i := 2) rfl) (Or.inl rfl) rfl dX9_dreamOf_5 ?_
  refine j_callVv (pc := 8) (As := [.ref (k 4)]) (na := 1) (st := []) C [3, 4, 5, 0, 1, 2] [] (wr := []) (fun l => c_become l D Y _ (k 10) (k 11) (k 12) U (k 4) (k 5) (k 6) S ) rfl rfl rfl rfl (by decide) rfl (Or.inl (List.mem_of_getElem? (i := 0) rfl)) rfl gX9_dreamOf_X2_become ⟨rfl, by decide +kernel⟩ (by decide) rfl rfl (Nat.le_of_ble_eq_true rfl) (by decide) dX9_dreamOf_8 (fun w_2 h_3 => ?_)
  subst h_3
  refine j_perm (ws' := [((k 4), oC 2 [.ref (k 5), .ref (k 6), vI (ms_w S), vI (ms_l S), vI (ms_s S), vI (ms_a S), vI (ms_t S), vI (ms_p S)]), ((k 5), aI (Y 0) 7 (ms_h S)), ((k 6), aI (Y 0) 420 (ms_m S)), ((k 10), oC 2 [.ref (k 11), .ref (k 12), vI (ms_w S), vI (ms_l S), vI (ms_s S), vI (ms_a S), vI (ms_t S), vI (ms_p S)]), ((k 11), aI (Y 0) 7 (ms_h S)), ((k 12), aI (Y 0) 420 (ms_m S))]) [3, 4, 5, 0, 1, 2] rfl rfl ?_
  refine j_iconst (pc := 11) C dX9_dreamOf_11 ?_
  refine j_istore_n (pc := 12) (lc' := [(3, vI 0), (0, .ref (k 0)), (1, .ref ca), (2, vI n)]) C 3 rfl (by decide) rfl dX9_dreamOf_12 ?_
  have hL13 : ∀ (N13 : Nat) (i : Int) (T : MS), ((n - i).toNat) < N13 → (0 ≤ i ∧ i ≤ n) → (T = weeksS Cu ps np i S) → (okS T ∧ ms_w T = ms_w S + i) → jW X 4 0 0 [((k 4), oC 2 [.ref (k 5), .ref (k 6), vI (ms_w S), vI (ms_l S), vI (ms_s S), vI (ms_a S), vI (ms_t S), vI (ms_p S)]), ((k 5), aI (Y 0) 7 (ms_h S)), ((k 6), aI (Y 0) 420 (ms_m S)), ((k 10), oC 2 [.ref (k 11), .ref (k 12), vI (ms_w T), vI (ms_l T), vI (ms_s T), vI (ms_a T), vI (ms_t T), vI (ms_p T)]), ((k 11), aI (Y 0) 7 (ms_h T)), ((k 12), aI (Y 0) 420 (ms_m T))] [(0, .ref (k 0)), (1, .ref ca), (2, vI n), (3, vI i)] 13 [] := by
    intro N13
    induction N13 with
    | zero => intro i T hm13 i13_0 i13_1 i13_2; omega
    | succ N13 ih13 =>
      intro i T hm13 i13_0 i13_1 i13_2
      refine j_iload_n (pc := 13) C 3 3 rfl rfl dX9_dreamOf_13 ?_
      refine j_iload_n (pc := 14) C 2 2 rfl rfl dX9_dreamOf_14 ?_
      refine j_icmp_ge (pc := 15) C 36 rfl (by omega) dX9_dreamOf_15 (fun h_4p15 => ?_) (fun h_4p15 => ?_)
      · skip
        exact Rt _ _ _ _ _ (by decide) (by decide) (by rw [show n = i by omega, ← i13_1]) dX9_dreamOf_36
      · skip
        refine j_aload_n (pc := 18) C 0 0 rfl rfl dX9_dreamOf_18 ?_
        refine j_get (pc := 19) C (Or.inr ko) rfl fX9_dreamOf_X9 8 (by decide) (List.mem_of_getElem? (i := 1) rfl) (Or.inl rfl) rfl dX9_dreamOf_19 ?_
        refine j_aload_n (pc := 22) C 1 1 rfl rfl dX9_dreamOf_22 ?_
        refine j_aload_n (pc := 23) C 0 0 rfl rfl dX9_dreamOf_23 ?_
        refine j_get (pc := 24) C (Or.inr ko) rfl fX9_dreamOf_X9 3 (by decide) (List.mem_of_getElem? (i := 3) rfl) (Or.inl rfl) rfl dX9_dreamOf_24 ?_
        refine j_callVv (pc := 27) (As := [.ref ca, .ref (k 3)]) (na := 2) (st := []) C [3, 4, 5] [0, 1, 2] (wr := [((k 4), oC 2 [.ref (k 5), .ref (k 6), vI (ms_w S), vI (ms_l S), vI (ms_s S), vI (ms_a S), vI (ms_t S), vI (ms_p S)]), ((k 5), aI (Y 0) 7 (ms_h S)), ((k 6), aI (Y 0) 420 (ms_m S))]) (fun l => c_goOneWeek l D Y _ (k 10) (k 11) (k 12) T ca Cu (k 3) pad np ps (List.mem_append_right _ hc) (List.mem_append_right _ kp) (fun i hi => List.mem_append_right _ (hpc i hi)) i13_2.1 (by first | assumption | omega) (by first | assumption | omega) (by first | assumption | omega) (by omega)) rfl rfl rfl rfl (by decide) rfl (Or.inl (List.mem_of_getElem? (i := 0) rfl)) rfl gX9_dreamOf_X2_goOneWeek ⟨rfl, by decide +kernel⟩ (by decide) rfl rfl (Nat.le_of_ble_eq_true rfl) (by decide) dX9_dreamOf_27 (fun w_6 h_7 => ?_)
        subst h_7
        refine j_perm (ws' := [((k 4), oC 2 [.ref (k 5), .ref (k 6), vI (ms_w S), vI (ms_l S), vI (ms_s S), vI (ms_a S), vI (ms_t S), vI (ms_p S)]), ((k 5), aI (Y 0) 7 (ms_h S)), ((k 6), aI (Y 0) 420 (ms_m S)), ((k 10), oC 2 [.ref (k 11), .ref (k 12), vI (ms_w (goS Cu ps np T)), vI (ms_l (goS Cu ps np T)), vI (ms_s (goS Cu ps np T)), vI (ms_a (goS Cu ps np T)), vI (ms_t (goS Cu ps np T)), vI (ms_p (goS Cu ps np T))]), ((k 11), aI (Y 0) 7 (ms_h (goS Cu ps np T))), ((k 12), aI (Y 0) 420 (ms_m (goS Cu ps np T)))]) [0, 1, 2, 3, 4, 5] rfl rfl ?_
        refine j_iinc (pc := 30) (lc' := [(3, vI (i + 1)), (0, .ref (k 0)), (1, .ref ca), (2, vI n)]) C 3 rfl (by decide) rfl dX9_dreamOf_30 ?_
        refine j_goto (pc := 33) C 13 rfl dX9_dreamOf_33 ?_
        refine j_locals (lc' := [(0, .ref (k 0)), (1, .ref ca), (2, vI n), (3, vI (i + 1))]) [1, 2, 3, 0] rfl ?_
        exact ih13 (i + 1) (goS Cu ps np T) (by omega) (by omega) (by rw [i13_1]; exact (weeksS_succ (by omega)).symm) (by have := okS_go i13_2.1 hC hps hnp; exact ⟨this.1, by rw [this.2, i13_2.2]; omega⟩)
  refine j_locals (lc' := [(0, .ref (k 0)), (1, .ref ca), (2, vI n), (3, vI 0)]) [1, 2, 3, 0] rfl ?_
  exact hL13 _ 0 S (Nat.lt_succ_self _) (by omega) rfl ⟨hS, by omega⟩

theorem fX9_would_X2 : ∀ w ∈ u_ws RX2 TX2 8, w ∈ wsX9_would := j_words [156, 157, 158, 159, 160, 161, 162, 163] (by decide +kernel)
theorem fX9_would_X9 : ∀ w ∈ u_ws RX9 TX9 11, w ∈ wsX9_would := j_words [145, 146, 147, 148, 149, 150, 151, 152, 153, 154, 155] (by decide +kernel)
set_option maxHeartbeats 4000000 in
set_option maxRecDepth 100000 in
theorem k_would (l : Launch) (D : va_G) (Y : Nat → ClassId) (RO : va_W) (k : Nat → Nat) (nc : Int) (np : Int) (ik : Int) (cad : Int → Nat) (cs : Int → CT) (pad : Int → Nat) (ps : Int → PT) (S : MS) (U : MS) (cu : Int) (c : Int) (n : Int) (ko : ((k 0), oC 8 [.ref (k 1), .ref (k 2), vI nc, .ref (k 3), vI np, .ref (k 4), .ref (k 7), vI ik, .ref (k 10), .ref (k 13), .ref (k 14)]) ∈ RO) (kc : ((k 2), aQ (Y 2) 4 (orow nc cad)) ∈ RO) (hcc : ∀ i, 0 ≤ i ∧ i < nc → (cad i, oC 1 [vI (cw (cs i)), vI (cz (cs i)), vI (ce (cs i))]) ∈ RO) (kp : ((k 3), aQ (Y 3) 6 (orow np pad)) ∈ RO) (hpc : ∀ i, 0 ≤ i ∧ i < np → pC (pad i) (ps i) ∈ RO) (hS : okS S) (hw : ms_w S ≤ 9999) (hnc : 0 ≤ nc ∧ nc ≤ 4) (hcs : ∀ i, 0 ≤ i ∧ i < nc → okC (cs i)) (hnp : 0 ≤ np ∧ np ≤ 6) (hps : ∀ i, 0 ≤ i ∧ i < np → okP (ps i)) (hcu : -2147483648 ≤ cu ∧ cu ≤ 2147483647) (hc : -2147483648 ≤ c ∧ c ≤ 2147483647) (hn : -2147483648 ≤ n ∧ n ≤ 2147483647) : jMi l yX9_would wsX9_would { frames := 6, cells := 0, slots := 0, locals := 139 } D Y RO [.ref (k 0), vI cu, vI c, vI n] [((k 4), oC 2 [.ref (k 5), .ref (k 6), vI (ms_w S), vI (ms_l S), vI (ms_s S), vI (ms_a S), vI (ms_t S), vI (ms_p S)]), ((k 5), aI (Y 0) 7 (ms_h S)), ((k 6), aI (Y 0) 420 (ms_m S)), ((k 10), oC 2 [.ref (k 11), .ref (k 12), vI (ms_w U), vI (ms_l U), vI (ms_s U), vI (ms_a U), vI (ms_t U), vI (ms_p U)]), ((k 11), aI (Y 0) 7 (ms_h U)), ((k 12), aI (Y 0) 420 (ms_m U))] (fun e w1 => e = rWould cu c n nc cs np ps S ∧ ∃ V : MS, w1 = [((k 4), oC 2 [.ref (k 5), .ref (k 6), vI (ms_w S), vI (ms_l S), vI (ms_s S), vI (ms_a S), vI (ms_t S), vI (ms_p S)]), ((k 5), aI (Y 0) 7 (ms_h S)), ((k 6), aI (Y 0) 420 (ms_m S)), ((k 10), oC 2 [.ref (k 11), .ref (k 12), vI (ms_w V), vI (ms_l V), vI (ms_s V), vI (ms_a V), vI (ms_t V), vI (ms_p V)]), ((k 11), aI (Y 0) 7 (ms_h V)), ((k 12), aI (Y 0) 420 (ms_m V))]) := by
  refine j_ofi RX9 rfl rfl rfl (Nat.le_of_ble_eq_true rfl) (fun X C Rt => ?_)
  have hw0 := hS.w
  refine j_aload_n (pc := 0) C 0 0 rfl rfl dX9_would_0 ?_
  refine j_iload_n (pc := 1) C 1 1 rfl rfl dX9_would_1 ?_
  refine j_callVr (pc := 2) (As := [vI cu]) (na := 1) (st := []) C [] [0, 1, 2, 3, 4, 5] (wr := [((k 4), oC 2 [.ref (k 5), .ref (k 6), vI (ms_w S), vI (ms_l S), vI (ms_s S), vI (ms_a S), vI (ms_t S), vI (ms_p S)]), ((k 5), aI (Y 0) 7 (ms_h S)), ((k 6), aI (Y 0) 420 (ms_m S)), ((k 10), oC 2 [.ref (k 11), .ref (k 12), vI (ms_w U), vI (ms_l U), vI (ms_s U), vI (ms_a U), vI (ms_t U), vI (ms_p U)]), ((k 11), aI (Y 0) 7 (ms_h U)), ((k 12), aI (Y 0) 420 (ms_m U))]) (fun l => k_customAt l D Y _ k nc np ik cad cu (List.mem_append_right _ ko) (List.mem_append_right _ kc) (by first | assumption | omega) (by first | assumption | omega)) rfl rfl rfl rfl (by decide) rfl (Or.inr (List.mem_append_right _ ko)) rfl gX9_would_X9_customAt ⟨rfl, by decide +kernel⟩ (by decide) rfl rfl (Nat.le_of_ble_eq_true rfl) (by decide) dX9_would_2 (fun e_1 w_2 h_3 => ?_)
  obtain ⟨rfl, rfl⟩ := h_3
  refine j_perm (ws' := [((k 4), oC 2 [.ref (k 5), .ref (k 6), vI (ms_w S), vI (ms_l S), vI (ms_s S), vI (ms_a S), vI (ms_t S), vI (ms_p S)]), ((k 5), aI (Y 0) 7 (ms_h S)), ((k 6), aI (Y 0) 420 (ms_m S)), ((k 10), oC 2 [.ref (k 11), .ref (k 12), vI (ms_w U), vI (ms_l U), vI (ms_s U), vI (ms_a U), vI (ms_t U), vI (ms_p U)]), ((k 11), aI (Y 0) 7 (ms_h U)), ((k 12), aI (Y 0) 420 (ms_m U))]) [0, 1, 2, 3, 4, 5] rfl rfl ?_
  by_cases hq_4 : 0 ≤ cu ∧ cu < nc
  · rw [show orow nc cad cu = some (cad cu) from orow_in hq_4]
    have hc4 := hcc cu hq_4
    have hC4 := hcs cu hq_4
    refine j_astore (pc := 5) (lc' := [(4, .ref (cad cu)), (0, .ref (k 0)), (1, vI cu), (2, vI c), (3, vI n)]) C (by decide) rfl dX9_would_5 ?_
    refine j_aload (pc := 7) C 0 rfl dX9_would_7 ?_
    refine j_ifnull (pc := 9) C dX9_would_9 ?_
    refine j_iload_n (pc := 12) C 2 3 rfl rfl dX9_would_12 ?_
    refine j_callSi (pc := 13) (As := [vI c]) (na := 1) (st := []) C [] [0, 1, 2, 3, 4, 5] (wr := [((k 4), oC 2 [.ref (k 5), .ref (k 6), vI (ms_w S), vI (ms_l S), vI (ms_s S), vI (ms_a S), vI (ms_t S), vI (ms_p S)]), ((k 5), aI (Y 0) 7 (ms_h S)), ((k 6), aI (Y 0) 420 (ms_m S)), ((k 10), oC 2 [.ref (k 11), .ref (k 12), vI (ms_w U), vI (ms_l U), vI (ms_s U), vI (ms_a U), vI (ms_t U), vI (ms_p U)]), ((k 11), aI (Y 0) 7 (ms_h U)), ((k 12), aI (Y 0) 420 (ms_m U))]) (fun l => c_isCairn l D Y _ c (by first | assumption | omega)) rfl rfl rfl rfl (by decide) rfl gX9_would_X9_isCairn (by decide +kernel) (by decide) rfl rfl (Nat.le_of_ble_eq_true rfl) (by decide) dX9_would_13 (fun e_5 w_6 h_7 => ?_)
    obtain ⟨rfl, rfl⟩ := h_7
    refine j_perm (ws' := [((k 4), oC 2 [.ref (k 5), .ref (k 6), vI (ms_w S), vI (ms_l S), vI (ms_s S), vI (ms_a S), vI (ms_t S), vI (ms_p S)]), ((k 5), aI (Y 0) 7 (ms_h S)), ((k 6), aI (Y 0) 420 (ms_m S)), ((k 10), oC 2 [.ref (k 11), .ref (k 12), vI (ms_w U), vI (ms_l U), vI (ms_s U), vI (ms_a U), vI (ms_t U), vI (ms_p U)]), ((k 11), aI (Y 0) 7 (ms_h U)), ((k 12), aI (Y 0) 420 (ms_m U))]) [0, 1, 2, 3, 4, 5] rfl rfl ?_
    refine j_if_neb (pc := 16) C 22 rfl dX9_would_16 (fun h_8p16 => ?_) (fun h_8p16 => ?_)
    · skip
      refine j_iload_n (pc := 22) C 3 4 rfl rfl dX9_would_22 ?_
      refine j_if_lt (pc := 23) C 32 rfl (by omega) dX9_would_23 (fun h_9p23 => ?_) (fun h_9p23 => ?_)
      · skip
        refine j_bipush (pc := 32) (w := (-102)) C rfl dX9_would_32 ?_
        exact Rt _ _ _ _ _ _ (by decide) (by decide) ⟨by unfold rWould; rw [if_neg (by omega), if_pos (by omega)], _, rfl⟩ dX9_would_34
      · skip
        refine j_iload_n (pc := 26) C 3 4 rfl rfl dX9_would_26 ?_
        refine j_bipush (pc := 27) (w := 60) C rfl dX9_would_27 ?_
        refine j_icmp_le (pc := 29) C 35 rfl (by omega) dX9_would_29 (fun h_10p29 => ?_) (fun h_10p29 => ?_)
        · skip
          refine j_aload_n (pc := 35) C 0 1 rfl rfl dX9_would_35 ?_
          refine j_aload (pc := 36) C 0 rfl dX9_would_36 ?_
          refine j_iload_n (pc := 38) C 3 4 rfl rfl dX9_would_38 ?_
          refine j_callVv (pc := 39) (As := [.ref (cad cu), vI n]) (na := 2) (st := []) C [0, 1, 2, 3, 4, 5] [] (wr := []) (fun l => k_dreamOf l D Y _ k nc np ik cad cs pad ps S U (cad cu) (cs cu) n (List.mem_append_right _ ko) (List.mem_append_right _ kp) (fun i hi => List.mem_append_right _ (hpc i hi)) (List.mem_append_right _ hc4) (by first | assumption | omega) (by omega) (by first | assumption | omega) (by first | assumption | omega) (by first | assumption | omega) (by first | assumption | omega)) rfl rfl rfl rfl (by decide) rfl (Or.inr (List.mem_append_right _ ko)) rfl gX9_would_X9_dreamOf ⟨rfl, by decide +kernel⟩ (by decide) rfl rfl (Nat.le_of_ble_eq_true rfl) (by decide) dX9_would_39 (fun w_12 h_13 => ?_)
          subst h_13
          refine j_perm (ws' := [((k 4), oC 2 [.ref (k 5), .ref (k 6), vI (ms_w S), vI (ms_l S), vI (ms_s S), vI (ms_a S), vI (ms_t S), vI (ms_p S)]), ((k 5), aI (Y 0) 7 (ms_h S)), ((k 6), aI (Y 0) 420 (ms_m S)), ((k 10), oC 2 [.ref (k 11), .ref (k 12), vI (ms_w (weeksS (cs cu) ps np n S)), vI (ms_l (weeksS (cs cu) ps np n S)), vI (ms_s (weeksS (cs cu) ps np n S)), vI (ms_a (weeksS (cs cu) ps np n S)), vI (ms_t (weeksS (cs cu) ps np n S)), vI (ms_p (weeksS (cs cu) ps np n S))]), ((k 11), aI (Y 0) 7 (ms_h (weeksS (cs cu) ps np n S))), ((k 12), aI (Y 0) 420 (ms_m (weeksS (cs cu) ps np n S)))]) [0, 1, 2, 3, 4, 5] rfl rfl ?_
          refine j_aload_n (pc := 42) C 0 1 rfl rfl dX9_would_42 ?_
          refine j_get (pc := 43) C (Or.inr ko) rfl fX9_would_X9 8 (by decide) (List.mem_of_getElem? (i := 1) rfl) (Or.inl rfl) rfl dX9_would_43 ?_
          refine j_get (pc := 46) C (Or.inl (List.mem_of_getElem? (i := 3) rfl)) rfl fX9_would_X2 0 (by decide) (List.mem_of_getElem? (i := 2) rfl) (Or.inl rfl) rfl dX9_would_46 ?_
          refine j_iload_n (pc := 49) C 2 3 rfl rfl dX9_would_49 ?_
          refine j_iald (pc := 50) C (Or.inl (List.mem_of_getElem? (i := 4) rfl)) rfl (by omega) (by decide) dX9_would_50 ?_
          exact Rt _ _ _ _ _ _ (by decide) (by decide) ⟨by unfold rWould; rw [if_neg (by omega), if_neg (by omega)], _, rfl⟩ dX9_would_51
        · skip
          refine j_bipush (pc := 32) (w := (-102)) C rfl dX9_would_32 ?_
          exact Rt _ _ _ _ _ _ (by decide) (by decide) ⟨by unfold rWould; rw [if_neg (by omega), if_pos (by omega)], _, rfl⟩ dX9_would_34
    · skip
      refine j_bipush (pc := 19) (w := (-101)) C rfl dX9_would_19 ?_
      exact Rt _ _ _ _ _ _ (by decide) (by decide) ⟨by unfold rWould; rw [if_pos (by omega)], _, rfl⟩ dX9_would_21
  · rw [show orow nc cad cu = none from orow_out hq_4]
    refine j_astoreN (pc := 5) (lc' := [(4, .null), (0, .ref (k 0)), (1, vI cu), (2, vI c), (3, vI n)]) C (by decide) rfl dX9_would_5 ?_
    refine j_aloadN (pc := 7) C 0 rfl dX9_would_7 ?_
    refine j_ifnullN (pc := 9) C 19 rfl dX9_would_9 ?_
    refine j_bipush (pc := 19) (w := (-101)) C rfl dX9_would_19 ?_
    exact Rt _ _ _ _ _ _ (by decide) (by decide) ⟨by unfold rWould; rw [if_pos (by omega)], _, rfl⟩ dX9_would_21

theorem fX9_count_X2 : ∀ w ∈ u_ws RX2 TX2 8, w ∈ wsX9_count := j_words [29, 30, 31, 32, 33, 34, 35, 36] (by decide +kernel)
theorem fX9_count_X4 : ∀ w ∈ u_ws RX4 TX4 2, w ∈ wsX9_count := j_words [37, 38] (by decide +kernel)
theorem fX9_count_X9 : ∀ w ∈ u_ws RX9 TX9 11, w ∈ wsX9_count := j_words [18, 19, 20, 21, 22, 23, 24, 25, 26, 27, 28] (by decide +kernel)
set_option maxHeartbeats 4000000 in
set_option maxRecDepth 100000 in
theorem k_count (l : Launch) (D : va_G) (Y : Nat → ClassId) (RO : va_W) (k : Nat → Nat) (nc : Int) (np : Int) (ik : Int) (S : MS) (pl : Int) (w : Int) (ko : ((k 0), oC 8 [.ref (k 1), .ref (k 2), vI nc, .ref (k 3), vI np, .ref (k 4), .ref (k 7), vI ik, .ref (k 10), .ref (k 13), .ref (k 14)]) ∈ RO) (n0 : ((k 4), oC 2 [.ref (k 5), .ref (k 6), vI (ms_w S), vI (ms_l S), vI (ms_s S), vI (ms_a S), vI (ms_t S), vI (ms_p S)]) ∈ RO) (n1 : ((k 5), aI (Y 0) 7 (ms_h S)) ∈ RO) (n2 : ((k 6), aI (Y 0) 420 (ms_m S)) ∈ RO) (pgo : ((k 1), oC 3 [.ref (k 17), vI pl]) ∈ RO) (hw : -2147483648 ≤ w ∧ w ≤ 2147483647) : jMi l yX9_count wsX9_count { frames := 1, cells := 0, slots := 0, locals := 22 } D Y RO [.ref (k 0), vI w] [] (fun e w1 => e = rCount w np nc pl S ∧ w1 = []) := by
  refine j_ofi RX9 rfl rfl rfl (Nat.le_of_ble_eq_true rfl) (fun X C Rt => ?_)
  refine j_iload_n (pc := 0) C 1 1 rfl rfl dX9_count_0 ?_
  rcases (show w = 0 ∨ w = 1 ∨ w = 2 ∨ w = 3 ∨ w = 4 ∨ w = 5 ∨ w = 6 ∨ w = 7 ∨ w = 8 ∨ w = 9 ∨ (w < 0 ∨ 9 < w) by omega) with h_1p1 | h_1p1 | h_1p1 | h_1p1 | h_1p1 | h_1p1 | h_1p1 | h_1p1 | h_1p1 | h_1p1 | h_1p1
  · refine j_tableC (pc := 1) C 0 56 h_1p1 (by decide) rfl rfl dX9_count_1 ?_
    refine j_aload_n (pc := 56) C 0 0 rfl rfl dX9_count_56 ?_
    refine j_get (pc := 57) C (Or.inr ko) rfl fX9_count_X9 4 (by decide) (List.mem_of_getElem? (i := 1) rfl) (Or.inl rfl) rfl dX9_count_57 ?_
    exact Rt _ _ _ _ _ _ (by decide) (by decide) ⟨by unfold rCount; rw [if_pos (by omega)], rfl⟩ dX9_count_60
  · refine j_tableC (pc := 1) C 1 61 h_1p1 (by decide) rfl rfl dX9_count_1 ?_
    refine j_aload_n (pc := 61) C 0 0 rfl rfl dX9_count_61 ?_
    refine j_get (pc := 62) C (Or.inr ko) rfl fX9_count_X9 2 (by decide) (List.mem_of_getElem? (i := 2) rfl) (Or.inl rfl) rfl dX9_count_62 ?_
    exact Rt _ _ _ _ _ _ (by decide) (by decide) ⟨by unfold rCount; rw [if_neg (by omega), if_pos (by omega)], rfl⟩ dX9_count_65
  · refine j_tableC (pc := 1) C 2 66 h_1p1 (by decide) rfl rfl dX9_count_1 ?_
    refine j_aload_n (pc := 66) C 0 0 rfl rfl dX9_count_66 ?_
    refine j_get (pc := 67) C (Or.inr ko) rfl fX9_count_X9 5 (by decide) (List.mem_of_getElem? (i := 3) rfl) (Or.inl rfl) rfl dX9_count_67 ?_
    refine j_callVi (pc := 70) (As := []) (na := 0) (st := []) C [] [] (wr := []) (fun l => c_pebbles l D Y _ (k 4) (k 5) (k 6) S (List.mem_append_right _ n0) (List.mem_append_right _ n1) ) rfl rfl rfl rfl (by decide) rfl (Or.inr (List.mem_append_right _ n0)) rfl gX9_count_X2_pebbles ⟨rfl, by decide +kernel⟩ (by decide) rfl rfl (Nat.le_of_ble_eq_true rfl) (by decide) dX9_count_70 (fun e_2 w_3 h_4 => ?_)
    obtain ⟨rfl, rfl⟩ := h_4
    refine j_perm (ws' := []) [] rfl rfl ?_
    exact Rt _ _ _ _ _ _ (by decide) (by decide) ⟨by unfold rCount; rw [if_neg (by omega), if_neg (by omega), if_pos (by omega)], rfl⟩ dX9_count_73
  · refine j_tableC (pc := 1) C 3 74 h_1p1 (by decide) rfl rfl dX9_count_1 ?_
    refine j_aload_n (pc := 74) C 0 0 rfl rfl dX9_count_74 ?_
    refine j_get (pc := 75) C (Or.inr ko) rfl fX9_count_X9 5 (by decide) (List.mem_of_getElem? (i := 3) rfl) (Or.inl rfl) rfl dX9_count_75 ?_
    refine j_get (pc := 78) C (Or.inr n0) rfl fX9_count_X2 2 (by decide) (List.mem_of_getElem? (i := 4) rfl) (Or.inl rfl) rfl dX9_count_78 ?_
    exact Rt _ _ _ _ _ _ (by decide) (by decide) ⟨by unfold rCount; rw [if_neg (by omega), if_neg (by omega), if_neg (by omega), if_pos (by omega)], rfl⟩ dX9_count_81
  · refine j_tableC (pc := 1) C 4 82 h_1p1 (by decide) rfl rfl dX9_count_1 ?_
    refine j_aload_n (pc := 82) C 0 0 rfl rfl dX9_count_82 ?_
    refine j_get (pc := 83) C (Or.inr ko) rfl fX9_count_X9 5 (by decide) (List.mem_of_getElem? (i := 3) rfl) (Or.inl rfl) rfl dX9_count_83 ?_
    refine j_get (pc := 86) C (Or.inr n0) rfl fX9_count_X2 4 (by decide) (List.mem_of_getElem? (i := 5) rfl) (Or.inl rfl) rfl dX9_count_86 ?_
    exact Rt _ _ _ _ _ _ (by decide) (by decide) ⟨by unfold rCount; rw [if_neg (by omega), if_neg (by omega), if_neg (by omega), if_neg (by omega), if_pos (by omega)], rfl⟩ dX9_count_89
  · refine j_tableC (pc := 1) C 5 90 h_1p1 (by decide) rfl rfl dX9_count_1 ?_
    refine j_aload_n (pc := 90) C 0 0 rfl rfl dX9_count_90 ?_
    refine j_get (pc := 91) C (Or.inr ko) rfl fX9_count_X9 5 (by decide) (List.mem_of_getElem? (i := 3) rfl) (Or.inl rfl) rfl dX9_count_91 ?_
    refine j_get (pc := 94) C (Or.inr n0) rfl fX9_count_X2 3 (by decide) (List.mem_of_getElem? (i := 6) rfl) (Or.inl rfl) rfl dX9_count_94 ?_
    exact Rt _ _ _ _ _ _ (by decide) (by decide) ⟨by unfold rCount; rw [if_neg (by omega), if_neg (by omega), if_neg (by omega), if_neg (by omega), if_neg (by omega), if_pos (by omega)], rfl⟩ dX9_count_97
  · refine j_tableC (pc := 1) C 6 98 h_1p1 (by decide) rfl rfl dX9_count_1 ?_
    refine j_aload_n (pc := 98) C 0 0 rfl rfl dX9_count_98 ?_
    refine j_get (pc := 99) C (Or.inr ko) rfl fX9_count_X9 5 (by decide) (List.mem_of_getElem? (i := 3) rfl) (Or.inl rfl) rfl dX9_count_99 ?_
    refine j_get (pc := 102) C (Or.inr n0) rfl fX9_count_X2 5 (by decide) (List.mem_of_getElem? (i := 7) rfl) (Or.inl rfl) rfl dX9_count_102 ?_
    exact Rt _ _ _ _ _ _ (by decide) (by decide) ⟨by unfold rCount; rw [if_neg (by omega), if_neg (by omega), if_neg (by omega), if_neg (by omega), if_neg (by omega), if_neg (by omega), if_pos (by omega)], rfl⟩ dX9_count_105
  · refine j_tableC (pc := 1) C 7 106 h_1p1 (by decide) rfl rfl dX9_count_1 ?_
    refine j_aload_n (pc := 106) C 0 0 rfl rfl dX9_count_106 ?_
    refine j_get (pc := 107) C (Or.inr ko) rfl fX9_count_X9 5 (by decide) (List.mem_of_getElem? (i := 3) rfl) (Or.inl rfl) rfl dX9_count_107 ?_
    refine j_get (pc := 110) C (Or.inr n0) rfl fX9_count_X2 6 (by decide) (List.mem_of_getElem? (i := 8) rfl) (Or.inl rfl) rfl dX9_count_110 ?_
    exact Rt _ _ _ _ _ _ (by decide) (by decide) ⟨by unfold rCount; rw [if_neg (by omega), if_neg (by omega), if_neg (by omega), if_neg (by omega), if_neg (by omega), if_neg (by omega), if_neg (by omega), if_pos (by omega)], rfl⟩ dX9_count_113
  · refine j_tableC (pc := 1) C 8 114 h_1p1 (by decide) rfl rfl dX9_count_1 ?_
    refine j_aload_n (pc := 114) C 0 0 rfl rfl dX9_count_114 ?_
    refine j_get (pc := 115) C (Or.inr ko) rfl fX9_count_X9 5 (by decide) (List.mem_of_getElem? (i := 3) rfl) (Or.inl rfl) rfl dX9_count_115 ?_
    refine j_get (pc := 118) C (Or.inr n0) rfl fX9_count_X2 7 (by decide) (List.mem_of_getElem? (i := 9) rfl) (Or.inl rfl) rfl dX9_count_118 ?_
    exact Rt _ _ _ _ _ _ (by decide) (by decide) ⟨by unfold rCount; rw [if_neg (by omega), if_neg (by omega), if_neg (by omega), if_neg (by omega), if_neg (by omega), if_neg (by omega), if_neg (by omega), if_neg (by omega), if_pos (by omega)], rfl⟩ dX9_count_121
  · refine j_tableC (pc := 1) C 9 122 h_1p1 (by decide) rfl rfl dX9_count_1 ?_
    refine j_aload_n (pc := 122) C 0 0 rfl rfl dX9_count_122 ?_
    refine j_get (pc := 123) C (Or.inr ko) rfl fX9_count_X9 0 (by decide) (List.mem_of_getElem? (i := 10) rfl) (Or.inl rfl) rfl dX9_count_123 ?_
    refine j_get (pc := 126) C (Or.inr pgo) rfl fX9_count_X4 1 (by decide) (List.mem_of_getElem? (i := 11) rfl) (Or.inl rfl) rfl dX9_count_126 ?_
    exact Rt _ _ _ _ _ _ (by decide) (by decide) ⟨by unfold rCount; rw [if_neg (by omega), if_neg (by omega), if_neg (by omega), if_neg (by omega), if_neg (by omega), if_neg (by omega), if_neg (by omega), if_neg (by omega), if_neg (by omega), if_pos (by omega)], rfl⟩ dX9_count_129
  · refine j_tableD (pc := 1) C 130 (by omega) h_1p1 rfl dX9_count_1 ?_
    refine j_bipush (pc := 130) (w := (-102)) C rfl dX9_count_130 ?_
    exact Rt _ _ _ _ _ _ (by decide) (by decide) ⟨by unfold rCount; rw [if_neg (by omega), if_neg (by omega), if_neg (by omega), if_neg (by omega), if_neg (by omega), if_neg (by omega), if_neg (by omega), if_neg (by omega), if_neg (by omega), if_neg (by omega)], rfl⟩ dX9_count_132
