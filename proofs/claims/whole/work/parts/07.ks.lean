theorem fX9_lay_X2 : ∀ w ∈ u_ws RX2 TX2 8, w ∈ wsX9_lay := j_words [32, 33, 34, 35, 36, 37, 38, 39] (by decide +kernel)
theorem fX9_lay_X9 : ∀ w ∈ u_ws RX9 TX9 11, w ∈ wsX9_lay := j_words [21, 22, 23, 24, 25, 26, 27, 28, 29, 30, 31] (by decide +kernel)
set_option maxHeartbeats 4000000 in
set_option maxRecDepth 100000 in
theorem k_lay (l : Launch) (D : va_G) (Y : Nat → ClassId) (RO : va_W) (k : Nat → Nat) (nc : Int) (np : Int) (ik : Int) (S : MS) (c : Int) (n : Int) (ko : ((k 0), oC 8 [.ref (k 1), .ref (k 2), vI nc, .ref (k 3), vI np, .ref (k 4), .ref (k 7), vI ik, .ref (k 10), .ref (k 13), .ref (k 14)]) ∈ RO) (hS : okS S) (hc : -2147483648 ≤ c ∧ c ≤ 2147483647) (hn : -2147483648 ≤ n ∧ n ≤ 2147483647) : jMi l yX9_lay wsX9_lay { frames := 3, cells := 0, slots := 0, locals := 66 } D Y RO [.ref (k 0), vI c, vI n] [((k 4), oC 2 [.ref (k 5), .ref (k 6), vI (ms_w S), vI (ms_l S), vI (ms_s S), vI (ms_a S), vI (ms_t S), vI (ms_p S)]), ((k 5), aI (Y 0) 7 (ms_h S)), ((k 6), aI (Y 0) 420 (ms_m S))] (fun e w1 => e = rLay c n S ∧ w1 = [((k 4), oC 2 [.ref (k 5), .ref (k 6), vI (ms_w (sLay c n S)), vI (ms_l (sLay c n S)), vI (ms_s (sLay c n S)), vI (ms_a (sLay c n S)), vI (ms_t (sLay c n S)), vI (ms_p (sLay c n S))]), ((k 5), aI (Y 0) 7 (ms_h (sLay c n S))), ((k 6), aI (Y 0) 420 (ms_m (sLay c n S)))]) := by
  refine j_ofi RX9 rfl rfl rfl (Nat.le_of_ble_eq_true rfl) (fun X C Rt => ?_)
  refine j_iload_n (pc := 0) C 1 1 rfl rfl dX9_lay_0 ?_
  refine j_callSi (pc := 1) (As := [vI c]) (na := 1) (st := []) C [] [0, 1, 2] (wr := [((k 4), oC 2 [.ref (k 5), .ref (k 6), vI (ms_w S), vI (ms_l S), vI (ms_s S), vI (ms_a S), vI (ms_t S), vI (ms_p S)]), ((k 5), aI (Y 0) 7 (ms_h S)), ((k 6), aI (Y 0) 420 (ms_m S))]) (fun l => c_isCairn l D Y _ c (by first | assumption | omega)) rfl rfl rfl rfl (by decide) rfl gX9_lay_X9_isCairn (by decide +kernel) (by decide) rfl rfl (Nat.le_of_ble_eq_true rfl) (by decide) dX9_lay_1 (fun e_1 w_2 h_3 => ?_)
  obtain ⟨rfl, rfl⟩ := h_3
  refine j_perm (ws' := [((k 4), oC 2 [.ref (k 5), .ref (k 6), vI (ms_w S), vI (ms_l S), vI (ms_s S), vI (ms_a S), vI (ms_t S), vI (ms_p S)]), ((k 5), aI (Y 0) 7 (ms_h S)), ((k 6), aI (Y 0) 420 (ms_m S))]) [0, 1, 2] rfl rfl ?_
  refine j_if_neb (pc := 4) C 10 rfl dX9_lay_4 (fun h_4p4 => ?_) (fun h_4p4 => ?_)
  · skip
    refine j_iload_n (pc := 10) C 2 2 rfl rfl dX9_lay_10 ?_
    refine j_iconst (pc := 11) C dX9_lay_11 ?_
    refine j_icmp_lt (pc := 12) C 21 rfl (by omega) dX9_lay_12 (fun h_5p12 => ?_) (fun h_5p12 => ?_)
    · skip
      refine j_bipush (pc := 21) (w := (-102)) C rfl dX9_lay_21 ?_
      exact Rt _ _ _ _ _ _ (by decide) (by decide) ⟨by unfold rLay; rw [if_neg (by omega), if_pos (by omega)], by unfold sLay; rw [if_neg (by omega), if_pos (by omega)]; first | done | rfl⟩ dX9_lay_23
    · skip
      refine j_iload_n (pc := 15) C 2 2 rfl rfl dX9_lay_15 ?_
      refine j_bipush (pc := 16) (w := 60) C rfl dX9_lay_16 ?_
      refine j_icmp_le (pc := 18) C 24 rfl (by omega) dX9_lay_18 (fun h_6p18 => ?_) (fun h_6p18 => ?_)
      · skip
        refine j_aload_n (pc := 24) C 0 0 rfl rfl dX9_lay_24 ?_
        refine j_get (pc := 25) C (Or.inr ko) rfl fX9_lay_X9 5 (by decide) (List.mem_of_getElem? (i := 1) rfl) (Or.inl rfl) rfl dX9_lay_25 ?_
        refine j_iload_n (pc := 28) C 1 1 rfl rfl dX9_lay_28 ?_
        refine j_iload_n (pc := 29) C 2 2 rfl rfl dX9_lay_29 ?_
        refine j_callVv (pc := 30) (As := [vI c, vI n]) (na := 2) (st := []) C [0, 1, 2] [] (wr := []) (fun l => c_layNew l D Y _ (k 4) (k 5) (k 6) S c n hS (by first | assumption | omega) (by first | assumption | omega)) rfl rfl rfl rfl (by decide) rfl (Or.inl (List.mem_of_getElem? (i := 0) rfl)) rfl gX9_lay_X2_layNew ⟨rfl, by decide +kernel⟩ (by decide) rfl rfl (Nat.le_of_ble_eq_true rfl) (by decide) dX9_lay_30 (fun w_8 h_9 => ?_)
        subst h_9
        refine j_perm (ws' := [((k 4), oC 2 [.ref (k 5), .ref (k 6), vI (ms_w (layS c n S)), vI (ms_l (layS c n S)), vI (ms_s (layS c n S)), vI (ms_a (layS c n S)), vI (ms_t (layS c n S)), vI (ms_p (layS c n S))]), ((k 5), aI (Y 0) 7 (ms_h (layS c n S))), ((k 6), aI (Y 0) 420 (ms_m (layS c n S)))]) [0, 1, 2] rfl rfl ?_
        refine j_aload_n (pc := 33) C 0 0 rfl rfl dX9_lay_33 ?_
        refine j_get (pc := 34) C (Or.inr ko) rfl fX9_lay_X9 5 (by decide) (List.mem_of_getElem? (i := 1) rfl) (Or.inl rfl) rfl dX9_lay_34 ?_
        refine j_get (pc := 37) C (Or.inl (List.mem_of_getElem? (i := 0) rfl)) rfl fX9_lay_X2 0 (by decide) (List.mem_of_getElem? (i := 2) rfl) (Or.inl rfl) rfl dX9_lay_37 ?_
        refine j_iload_n (pc := 40) C 1 1 rfl rfl dX9_lay_40 ?_
        refine j_iald (pc := 41) C (Or.inl (List.mem_of_getElem? (i := 1) rfl)) rfl (by omega) (by decide) dX9_lay_41 ?_
        exact Rt _ _ _ _ _ _ (by decide) (by decide) ⟨by unfold rLay; rw [if_neg (by omega), if_neg (by omega)], by unfold sLay; rw [if_neg (by omega), if_neg (by omega)]; first | done | rfl⟩ dX9_lay_42
      · skip
        refine j_bipush (pc := 21) (w := (-102)) C rfl dX9_lay_21 ?_
        exact Rt _ _ _ _ _ _ (by decide) (by decide) ⟨by unfold rLay; rw [if_neg (by omega), if_pos (by omega)], by unfold sLay; rw [if_neg (by omega), if_pos (by omega)]; first | done | rfl⟩ dX9_lay_23
  · skip
    refine j_bipush (pc := 7) (w := (-101)) C rfl dX9_lay_7 ?_
    exact Rt _ _ _ _ _ _ (by decide) (by decide) ⟨by unfold rLay; rw [if_pos (by omega)], by unfold sLay; rw [if_pos (by omega)]; first | done | rfl⟩ dX9_lay_9

theorem fX9_take_X2 : ∀ w ∈ u_ws RX2 TX2 8, w ∈ wsX9_take := j_words [29, 30, 31, 32, 33, 34, 35, 36] (by decide +kernel)
theorem fX9_take_X9 : ∀ w ∈ u_ws RX9 TX9 11, w ∈ wsX9_take := j_words [18, 19, 20, 21, 22, 23, 24, 25, 26, 27, 28] (by decide +kernel)
set_option maxHeartbeats 4000000 in
set_option maxRecDepth 100000 in
theorem k_take (l : Launch) (D : va_G) (Y : Nat → ClassId) (RO : va_W) (k : Nat → Nat) (nc : Int) (np : Int) (ik : Int) (S : MS) (c : Int) (n : Int) (ko : ((k 0), oC 8 [.ref (k 1), .ref (k 2), vI nc, .ref (k 3), vI np, .ref (k 4), .ref (k 7), vI ik, .ref (k 10), .ref (k 13), .ref (k 14)]) ∈ RO) (hS : okS S) (hc : -2147483648 ≤ c ∧ c ≤ 2147483647) (hn : -2147483648 ≤ n ∧ n ≤ 2147483647) : jMi l yX9_take wsX9_take { frames := 2, cells := 0, slots := 0, locals := 44 } D Y RO [.ref (k 0), vI c, vI n] [((k 4), oC 2 [.ref (k 5), .ref (k 6), vI (ms_w S), vI (ms_l S), vI (ms_s S), vI (ms_a S), vI (ms_t S), vI (ms_p S)]), ((k 5), aI (Y 0) 7 (ms_h S)), ((k 6), aI (Y 0) 420 (ms_m S))] (fun e w1 => e = rTake c n S ∧ w1 = [((k 4), oC 2 [.ref (k 5), .ref (k 6), vI (ms_w (sTake c n S)), vI (ms_l (sTake c n S)), vI (ms_s (sTake c n S)), vI (ms_a (sTake c n S)), vI (ms_t (sTake c n S)), vI (ms_p (sTake c n S))]), ((k 5), aI (Y 0) 7 (ms_h (sTake c n S))), ((k 6), aI (Y 0) 420 (ms_m (sTake c n S)))]) := by
  refine j_ofi RX9 rfl rfl rfl (Nat.le_of_ble_eq_true rfl) (fun X C Rt => ?_)
  refine j_iload_n (pc := 0) C 1 1 rfl rfl dX9_take_0 ?_
  refine j_callSi (pc := 1) (As := [vI c]) (na := 1) (st := []) C [] [0, 1, 2] (wr := [((k 4), oC 2 [.ref (k 5), .ref (k 6), vI (ms_w S), vI (ms_l S), vI (ms_s S), vI (ms_a S), vI (ms_t S), vI (ms_p S)]), ((k 5), aI (Y 0) 7 (ms_h S)), ((k 6), aI (Y 0) 420 (ms_m S))]) (fun l => c_isCairn l D Y _ c (by first | assumption | omega)) rfl rfl rfl rfl (by decide) rfl gX9_take_X9_isCairn (by decide +kernel) (by decide) rfl rfl (Nat.le_of_ble_eq_true rfl) (by decide) dX9_take_1 (fun e_1 w_2 h_3 => ?_)
  obtain ⟨rfl, rfl⟩ := h_3
  refine j_perm (ws' := [((k 4), oC 2 [.ref (k 5), .ref (k 6), vI (ms_w S), vI (ms_l S), vI (ms_s S), vI (ms_a S), vI (ms_t S), vI (ms_p S)]), ((k 5), aI (Y 0) 7 (ms_h S)), ((k 6), aI (Y 0) 420 (ms_m S))]) [0, 1, 2] rfl rfl ?_
  refine j_if_neb (pc := 4) C 10 rfl dX9_take_4 (fun h_4p4 => ?_) (fun h_4p4 => ?_)
  · skip
    refine j_iload_n (pc := 10) C 2 2 rfl rfl dX9_take_10 ?_
    refine j_iconst (pc := 11) C dX9_take_11 ?_
    refine j_icmp_lt (pc := 12) C 21 rfl (by omega) dX9_take_12 (fun h_5p12 => ?_) (fun h_5p12 => ?_)
    · skip
      refine j_bipush (pc := 21) (w := (-102)) C rfl dX9_take_21 ?_
      exact Rt _ _ _ _ _ _ (by decide) (by decide) ⟨by unfold rTake; rw [if_neg (by omega), if_pos (by omega)], by unfold sTake; rw [if_neg (by omega), if_pos (by omega)]; first | done | rfl⟩ dX9_take_23
    · skip
      refine j_iload_n (pc := 15) C 2 2 rfl rfl dX9_take_15 ?_
      refine j_bipush (pc := 16) (w := 60) C rfl dX9_take_16 ?_
      refine j_icmp_le (pc := 18) C 24 rfl (by omega) dX9_take_18 (fun h_6p18 => ?_) (fun h_6p18 => ?_)
      · skip
        refine j_aload_n (pc := 24) C 0 0 rfl rfl dX9_take_24 ?_
        refine j_get (pc := 25) C (Or.inr ko) rfl fX9_take_X9 5 (by decide) (List.mem_of_getElem? (i := 1) rfl) (Or.inl rfl) rfl dX9_take_25 ?_
        refine j_iload_n (pc := 28) C 1 1 rfl rfl dX9_take_28 ?_
        refine j_iload_n (pc := 29) C 2 2 rfl rfl dX9_take_29 ?_
        refine j_callVv (pc := 30) (As := [vI c, vI n]) (na := 2) (st := []) C [0, 1, 2] [] (wr := []) (fun l => c_takeOff l D Y _ (k 4) (k 5) (k 6) S c n hS (by first | assumption | omega) (by first | assumption | omega)) rfl rfl rfl rfl (by decide) rfl (Or.inl (List.mem_of_getElem? (i := 0) rfl)) rfl gX9_take_X2_takeOff ⟨rfl, by decide +kernel⟩ (by decide) rfl rfl (Nat.le_of_ble_eq_true rfl) (by decide) dX9_take_30 (fun w_8 h_9 => ?_)
        subst h_9
        refine j_perm (ws' := [((k 4), oC 2 [.ref (k 5), .ref (k 6), vI (ms_w (takeS c n S)), vI (ms_l (takeS c n S)), vI (ms_s (takeS c n S)), vI (ms_a (takeS c n S)), vI (ms_t (takeS c n S)), vI (ms_p (takeS c n S))]), ((k 5), aI (Y 0) 7 (ms_h (takeS c n S))), ((k 6), aI (Y 0) 420 (ms_m (takeS c n S)))]) [0, 1, 2] rfl rfl ?_
        refine j_aload_n (pc := 33) C 0 0 rfl rfl dX9_take_33 ?_
        refine j_get (pc := 34) C (Or.inr ko) rfl fX9_take_X9 5 (by decide) (List.mem_of_getElem? (i := 1) rfl) (Or.inl rfl) rfl dX9_take_34 ?_
        refine j_get (pc := 37) C (Or.inl (List.mem_of_getElem? (i := 0) rfl)) rfl fX9_take_X2 0 (by decide) (List.mem_of_getElem? (i := 2) rfl) (Or.inl rfl) rfl dX9_take_37 ?_
        refine j_iload_n (pc := 40) C 1 1 rfl rfl dX9_take_40 ?_
        refine j_iald (pc := 41) C (Or.inl (List.mem_of_getElem? (i := 1) rfl)) rfl (by omega) (by decide) dX9_take_41 ?_
        exact Rt _ _ _ _ _ _ (by decide) (by decide) ⟨by unfold rTake; rw [if_neg (by omega), if_neg (by omega)], by unfold sTake; rw [if_neg (by omega), if_neg (by omega)]; first | done | rfl⟩ dX9_take_42
      · skip
        refine j_bipush (pc := 21) (w := (-102)) C rfl dX9_take_21 ?_
        exact Rt _ _ _ _ _ _ (by decide) (by decide) ⟨by unfold rTake; rw [if_neg (by omega), if_pos (by omega)], by unfold sTake; rw [if_neg (by omega), if_pos (by omega)]; first | done | rfl⟩ dX9_take_23
  · skip
    refine j_bipush (pc := 7) (w := (-101)) C rfl dX9_take_7 ?_
    exact Rt _ _ _ _ _ _ (by decide) (by decide) ⟨by unfold rTake; rw [if_pos (by omega)], by unfold sTake; rw [if_pos (by omega)]; first | done | rfl⟩ dX9_take_9

theorem fX9_height_X2 : ∀ w ∈ u_ws RX2 TX2 8, w ∈ wsX9_height := j_words [18, 19, 20, 21, 22, 23, 24, 25] (by decide +kernel)
theorem fX9_height_X9 : ∀ w ∈ u_ws RX9 TX9 11, w ∈ wsX9_height := j_words [7, 8, 9, 10, 11, 12, 13, 14, 15, 16, 17] (by decide +kernel)
set_option maxHeartbeats 4000000 in
set_option maxRecDepth 100000 in
theorem k_height (l : Launch) (D : va_G) (Y : Nat → ClassId) (RO : va_W) (k : Nat → Nat) (nc : Int) (np : Int) (ik : Int) (S : MS) (c : Int) (ko : ((k 0), oC 8 [.ref (k 1), .ref (k 2), vI nc, .ref (k 3), vI np, .ref (k 4), .ref (k 7), vI ik, .ref (k 10), .ref (k 13), .ref (k 14)]) ∈ RO) (n0 : ((k 4), oC 2 [.ref (k 5), .ref (k 6), vI (ms_w S), vI (ms_l S), vI (ms_s S), vI (ms_a S), vI (ms_t S), vI (ms_p S)]) ∈ RO) (n1 : ((k 5), aI (Y 0) 7 (ms_h S)) ∈ RO) (hS : okS S) (hc : -2147483648 ≤ c ∧ c ≤ 2147483647) : jMi l yX9_height wsX9_height { frames := 1, cells := 0, slots := 0, locals := 20 } D Y RO [.ref (k 0), vI c] [] (fun e w1 => e = rHeight c S ∧ w1 = []) := by
  refine j_ofi RX9 rfl rfl rfl (Nat.le_of_ble_eq_true rfl) (fun X C Rt => ?_)
  refine j_iload_n (pc := 0) C 1 1 rfl rfl dX9_height_0 ?_
  refine j_callSi (pc := 1) (As := [vI c]) (na := 1) (st := []) C [] [] (wr := []) (fun l => c_isCairn l D Y _ c (by first | assumption | omega)) rfl rfl rfl rfl (by decide) rfl gX9_height_X9_isCairn (by decide +kernel) (by decide) rfl rfl (Nat.le_of_ble_eq_true rfl) (by decide) dX9_height_1 (fun e_1 w_2 h_3 => ?_)
  obtain ⟨rfl, rfl⟩ := h_3
  refine j_perm (ws' := []) [] rfl rfl ?_
  refine j_if_neb (pc := 4) C 10 rfl dX9_height_4 (fun h_4p4 => ?_) (fun h_4p4 => ?_)
  · skip
    refine j_aload_n (pc := 10) C 0 0 rfl rfl dX9_height_10 ?_
    refine j_get (pc := 11) C (Or.inr ko) rfl fX9_height_X9 5 (by decide) (List.mem_of_getElem? (i := 1) rfl) (Or.inl rfl) rfl dX9_height_11 ?_
    refine j_get (pc := 14) C (Or.inr n0) rfl fX9_height_X2 0 (by decide) (List.mem_of_getElem? (i := 2) rfl) (Or.inl rfl) rfl dX9_height_14 ?_
    refine j_iload_n (pc := 17) C 1 1 rfl rfl dX9_height_17 ?_
    refine j_iald (pc := 18) C (Or.inr n1) rfl (by omega) (by decide) dX9_height_18 ?_
    exact Rt _ _ _ _ _ _ (by decide) (by decide) ⟨by unfold rHeight; rw [if_neg (by omega)], rfl⟩ dX9_height_19
  · skip
    refine j_bipush (pc := 7) (w := (-101)) C rfl dX9_height_7 ?_
    exact Rt _ _ _ _ _ _ (by decide) (by decide) ⟨by unfold rHeight; rw [if_pos (by omega)], rfl⟩ dX9_height_9

theorem fX9_mark_X9 : ∀ w ∈ u_ws RX9 TX9 11, w ∈ wsX9_mark := j_words [13, 14, 15, 16, 17, 18, 19, 20, 21, 22, 23] (by decide +kernel)
set_option maxHeartbeats 4000000 in
set_option maxRecDepth 100000 in
theorem k_mark (l : Launch) (D : va_G) (Y : Nat → ClassId) (RO : va_W) (k : Nat → Nat) (nc : Int) (np : Int) (ik : Int) (S : MS) (c : Int) (d : Int) (ko : ((k 0), oC 8 [.ref (k 1), .ref (k 2), vI nc, .ref (k 3), vI np, .ref (k 4), .ref (k 7), vI ik, .ref (k 10), .ref (k 13), .ref (k 14)]) ∈ RO) (n0 : ((k 4), oC 2 [.ref (k 5), .ref (k 6), vI (ms_w S), vI (ms_l S), vI (ms_s S), vI (ms_a S), vI (ms_t S), vI (ms_p S)]) ∈ RO) (n1 : ((k 5), aI (Y 0) 7 (ms_h S)) ∈ RO) (n2 : ((k 6), aI (Y 0) 420 (ms_m S)) ∈ RO) (hS : okS S) (hc : -2147483648 ≤ c ∧ c ≤ 2147483647) (hd : -2147483648 ≤ d ∧ d ≤ 2147483647) : jMi l yX9_mark wsX9_mark { frames := 2, cells := 0, slots := 0, locals := 43 } D Y RO [.ref (k 0), vI c, vI d] [] (fun e w1 => e = rMark c d S ∧ w1 = []) := by
  refine j_ofi RX9 rfl rfl rfl (Nat.le_of_ble_eq_true rfl) (fun X C Rt => ?_)
  refine j_iload_n (pc := 0) C 1 1 rfl rfl dX9_mark_0 ?_
  refine j_callSi (pc := 1) (As := [vI c]) (na := 1) (st := []) C [] [] (wr := []) (fun l => c_isCairn l D Y _ c (by first | assumption | omega)) rfl rfl rfl rfl (by decide) rfl gX9_mark_X9_isCairn (by decide +kernel) (by decide) rfl rfl (Nat.le_of_ble_eq_true rfl) (by decide) dX9_mark_1 (fun e_1 w_2 h_3 => ?_)
  obtain ⟨rfl, rfl⟩ := h_3
  refine j_perm (ws' := []) [] rfl rfl ?_
  refine j_if_neb (pc := 4) C 10 rfl dX9_mark_4 (fun h_4p4 => ?_) (fun h_4p4 => ?_)
  · skip
    refine j_iload_n (pc := 10) C 2 2 rfl rfl dX9_mark_10 ?_
    refine j_if_lt (pc := 11) C 20 rfl (by omega) dX9_mark_11 (fun h_5p11 => ?_) (fun h_5p11 => ?_)
    · skip
      refine j_bipush (pc := 20) (w := (-102)) C rfl dX9_mark_20 ?_
      exact Rt _ _ _ _ _ _ (by decide) (by decide) ⟨by unfold rMark; rw [if_neg (by omega), if_pos (by omega)], rfl⟩ dX9_mark_22
    · skip
      refine j_iload_n (pc := 14) C 2 2 rfl rfl dX9_mark_14 ?_
      refine j_bipush (pc := 15) (w := 60) C rfl dX9_mark_15 ?_
      refine j_icmp_lt (pc := 17) C 23 rfl (by omega) dX9_mark_17 (fun h_6p17 => ?_) (fun h_6p17 => ?_)
      · skip
        refine j_aload_n (pc := 23) C 0 0 rfl rfl dX9_mark_23 ?_
        refine j_get (pc := 24) C (Or.inr ko) rfl fX9_mark_X9 5 (by decide) (List.mem_of_getElem? (i := 1) rfl) (Or.inl rfl) rfl dX9_mark_24 ?_
        refine j_iload_n (pc := 27) C 1 1 rfl rfl dX9_mark_27 ?_
        refine j_iload_n (pc := 28) C 2 2 rfl rfl dX9_mark_28 ?_
        refine j_callVi (pc := 29) (As := [vI c, vI d]) (na := 2) (st := []) C [] [] (wr := []) (fun l => c_markAt l D Y _ (k 4) (k 5) (k 6) S c d (List.mem_append_right _ n0) (List.mem_append_right _ n1) (List.mem_append_right _ n2) hS (by first | assumption | omega) (by first | assumption | omega)) rfl rfl rfl rfl (by decide) rfl (Or.inr (List.mem_append_right _ n0)) rfl gX9_mark_X2_markAt ⟨rfl, by decide +kernel⟩ (by decide) rfl rfl (Nat.le_of_ble_eq_true rfl) (by decide) dX9_mark_29 (fun e_7 w_8 h_9 => ?_)
        obtain ⟨rfl, rfl⟩ := h_9
        refine j_perm (ws' := []) [] rfl rfl ?_
        exact Rt _ _ _ _ _ _ (by decide) (by decide) ⟨by unfold rMark; rw [if_neg (by omega), if_neg (by omega)], rfl⟩ dX9_mark_32
      · skip
        refine j_bipush (pc := 20) (w := (-102)) C rfl dX9_mark_20 ?_
        exact Rt _ _ _ _ _ _ (by decide) (by decide) ⟨by unfold rMark; rw [if_neg (by omega), if_pos (by omega)], rfl⟩ dX9_mark_22
  · skip
    refine j_bipush (pc := 7) (w := (-101)) C rfl dX9_mark_7 ?_
    exact Rt _ _ _ _ _ _ (by decide) (by decide) ⟨by unfold rMark; rw [if_pos (by omega)], rfl⟩ dX9_mark_9

theorem fX9_dated_X2 : ∀ w ∈ u_ws RX2 TX2 8, w ∈ wsX9_dated := j_words [25, 26, 27, 28, 29, 30, 31, 32] (by decide +kernel)
theorem fX9_dated_X9 : ∀ w ∈ u_ws RX9 TX9 11, w ∈ wsX9_dated := j_words [14, 15, 16, 17, 18, 19, 20, 21, 22, 23, 24] (by decide +kernel)
set_option maxHeartbeats 4000000 in
set_option maxRecDepth 100000 in
theorem k_dated (l : Launch) (D : va_G) (Y : Nat → ClassId) (RO : va_W) (k : Nat → Nat) (nc : Int) (np : Int) (ik : Int) (S : MS) (c : Int) (w : Int) (ko : ((k 0), oC 8 [.ref (k 1), .ref (k 2), vI nc, .ref (k 3), vI np, .ref (k 4), .ref (k 7), vI ik, .ref (k 10), .ref (k 13), .ref (k 14)]) ∈ RO) (n0 : ((k 4), oC 2 [.ref (k 5), .ref (k 6), vI (ms_w S), vI (ms_l S), vI (ms_s S), vI (ms_a S), vI (ms_t S), vI (ms_p S)]) ∈ RO) (n1 : ((k 5), aI (Y 0) 7 (ms_h S)) ∈ RO) (n2 : ((k 6), aI (Y 0) 420 (ms_m S)) ∈ RO) (hS : okS S) (hc : -2147483648 ≤ c ∧ c ≤ 2147483647) (hd : -2147483648 ≤ w ∧ w ≤ 2147483647) (hw : ms_w S ≤ 2147482000) : jMi l yX9_dated wsX9_dated { frames := 2, cells := 0, slots := 0, locals := 43 } D Y RO [.ref (k 0), vI c, vI w] [] (fun e w1 => e = rDated c w S ∧ w1 = []) := by
  refine j_ofi RX9 rfl rfl rfl (Nat.le_of_ble_eq_true rfl) (fun X C Rt => ?_)
  refine j_iload_n (pc := 0) C 1 1 rfl rfl dX9_dated_0 ?_
  refine j_callSi (pc := 1) (As := [vI c]) (na := 1) (st := []) C [] [] (wr := []) (fun l => c_isCairn l D Y _ c (by first | assumption | omega)) rfl rfl rfl rfl (by decide) rfl gX9_dated_X9_isCairn (by decide +kernel) (by decide) rfl rfl (Nat.le_of_ble_eq_true rfl) (by decide) dX9_dated_1 (fun e_1 w_2 h_3 => ?_)
  obtain ⟨rfl, rfl⟩ := h_3
  refine j_perm (ws' := []) [] rfl rfl ?_
  refine j_if_neb (pc := 4) C 10 rfl dX9_dated_4 (fun h_4p4 => ?_) (fun h_4p4 => ?_)
  · skip
    refine j_iload_n (pc := 10) C 2 2 rfl rfl dX9_dated_10 ?_
    refine j_if_lt (pc := 11) C 21 rfl (by omega) dX9_dated_11 (fun h_5p11 => ?_) (fun h_5p11 => ?_)
    · skip
      refine j_bipush (pc := 21) (w := (-102)) C rfl dX9_dated_21 ?_
      exact Rt _ _ _ _ _ _ (by decide) (by decide) ⟨by unfold rDated; rw [if_neg (by omega), if_pos (by omega)], rfl⟩ dX9_dated_23
    · skip
      refine j_iload_n (pc := 14) C 2 2 rfl rfl dX9_dated_14 ?_
      refine j_sipush (pc := 15) (w := 9999) C rfl dX9_dated_15 ?_
      refine j_icmp_le (pc := 18) C 24 rfl (by omega) dX9_dated_18 (fun h_6p18 => ?_) (fun h_6p18 => ?_)
      · skip
        have hh := hS.1 c (by omega)
        refine j_iconst (pc := 24) C dX9_dated_24 ?_
        refine j_istore_n (pc := 25) (lc' := [(3, vI 0), (0, .ref (k 0)), (1, vI c), (2, vI w)]) C 3 rfl (by decide) rfl dX9_dated_25 ?_
        refine j_iconst (pc := 26) C dX9_dated_26 ?_
        refine j_istore (pc := 27) (lc' := [(4, vI 0), (3, vI 0), (0, .ref (k 0)), (1, vI c), (2, vI w)]) C (by decide) rfl dX9_dated_27 ?_
        have hL29 : ∀ (N29 : Nat) (b : Int) (i : Int), ((ms_h S c - i).toNat) < N29 → (0 ≤ i ∧ i ≤ ms_h S c) → (b = cntI (fun d => markS c d S) w i) → jW X 5 0 0 [] [(0, .ref (k 0)), (1, vI c), (2, vI w), (3, vI b), (4, vI i)] 29 [] := by
          intro N29
          induction N29 with
          | zero => intro b i hm29 i29_0 i29_1; omega
          | succ N29 ih29 =>
            intro b i hm29 i29_0 i29_1
            refine j_iload (pc := 29) C 4 rfl dX9_dated_29 ?_
            refine j_aload_n (pc := 31) C 0 0 rfl rfl dX9_dated_31 ?_
            refine j_get (pc := 32) C (Or.inr ko) rfl fX9_dated_X9 5 (by decide) (List.mem_of_getElem? (i := 1) rfl) (Or.inl rfl) rfl dX9_dated_32 ?_
            refine j_get (pc := 35) C (Or.inr n0) rfl fX9_dated_X2 0 (by decide) (List.mem_of_getElem? (i := 2) rfl) (Or.inl rfl) rfl dX9_dated_35 ?_
            refine j_iload_n (pc := 38) C 1 1 rfl rfl dX9_dated_38 ?_
            refine j_iald (pc := 39) C (Or.inr n1) rfl (by omega) (by decide) dX9_dated_39 ?_
            have f_7 := hS.1 c (by omega)
            refine j_icmp_ge (pc := 40) C 66 rfl (by omega) dX9_dated_40 (fun h_8p40 => ?_) (fun h_8p40 => ?_)
            · skip
              refine j_iload_n (pc := 66) C 3 3 rfl rfl dX9_dated_66 ?_
              exact Rt _ _ _ _ _ _ (by decide) (by decide) ⟨by unfold rDated; rw [if_neg (by omega), if_neg (by omega), i29_1, show i = ms_h S c by omega], rfl⟩ dX9_dated_67
            · skip
              refine j_aload_n (pc := 43) C 0 0 rfl rfl dX9_dated_43 ?_
              refine j_get (pc := 44) C (Or.inr ko) rfl fX9_dated_X9 5 (by decide) (List.mem_of_getElem? (i := 1) rfl) (Or.inl rfl) rfl dX9_dated_44 ?_
              refine j_iload_n (pc := 47) C 1 1 rfl rfl dX9_dated_47 ?_
              refine j_iload (pc := 48) C 4 rfl dX9_dated_48 ?_
              refine j_callVi (pc := 50) (As := [vI c, vI i]) (na := 2) (st := []) C [] [] (wr := []) (fun l => c_markAt l D Y _ (k 4) (k 5) (k 6) S c i (List.mem_append_right _ n0) (List.mem_append_right _ n1) (List.mem_append_right _ n2) hS (by first | assumption | omega) (by first | assumption | omega)) rfl rfl rfl rfl (by decide) rfl (Or.inr (List.mem_append_right _ n0)) rfl gX9_dated_X2_markAt ⟨rfl, by decide +kernel⟩ (by decide) rfl rfl (Nat.le_of_ble_eq_true rfl) (by decide) dX9_dated_50 (fun e_9 w_10 h_11 => ?_)
              obtain ⟨rfl, rfl⟩ := h_11
              refine j_perm (ws' := []) [] rfl rfl ?_
              have hmk := markS_in (c := c) (d := i) hS
              refine j_iload_n (pc := 53) C 2 2 rfl rfl dX9_dated_53 ?_
              refine j_icmp_ne (pc := 54) C 60 rfl (by omega) dX9_dated_54 (fun h_12p54 => ?_) (fun h_12p54 => ?_)
              · skip
                refine j_iinc (pc := 60) (lc' := [(4, vI (i + 1)), (0, .ref (k 0)), (1, vI c), (2, vI w), (3, vI b)]) C 4 rfl (by decide) rfl dX9_dated_60 ?_
                refine j_goto (pc := 63) C 29 rfl dX9_dated_63 ?_
                refine j_locals (lc' := [(0, .ref (k 0)), (1, vI c), (2, vI w), (3, vI b), (4, vI (i + 1))]) [1, 2, 3, 4, 0] rfl ?_
                exact ih29 b (i + 1) (by omega) (by omega) (by unfold cntI at i29_1 ⊢; rw [fo_succ _ (by omega), ← i29_1]; unfold cntF; first | rw [if_pos (by omega)] | rw [if_neg (by omega)])
              · skip
                refine j_iinc (pc := 57) (lc' := [(3, vI (b + 1)), (0, .ref (k 0)), (1, vI c), (2, vI w), (4, vI i)]) C 3 rfl (by decide) rfl dX9_dated_57 ?_
                refine j_iinc (pc := 60) (lc' := [(4, vI (i + 1)), (3, vI (b + 1)), (0, .ref (k 0)), (1, vI c), (2, vI w)]) C 4 rfl (by decide) rfl dX9_dated_60 ?_
                refine j_goto (pc := 63) C 29 rfl dX9_dated_63 ?_
                refine j_locals (lc' := [(0, .ref (k 0)), (1, vI c), (2, vI w), (3, vI (b + 1)), (4, vI (i + 1))]) [2, 3, 4, 1, 0] rfl ?_
                exact ih29 (b + 1) (i + 1) (by omega) (by omega) (by unfold cntI at i29_1 ⊢; rw [fo_succ _ (by omega), ← i29_1]; unfold cntF; first | rw [if_pos (by omega)] | rw [if_neg (by omega)])
        refine j_locals (lc' := [(0, .ref (k 0)), (1, vI c), (2, vI w), (3, vI 0), (4, vI 0)]) [2, 3, 4, 1, 0] rfl ?_
        exact hL29 _ 0 0 (Nat.lt_succ_self _) (by omega) rfl
      · skip
        refine j_bipush (pc := 21) (w := (-102)) C rfl dX9_dated_21 ?_
        exact Rt _ _ _ _ _ _ (by decide) (by decide) ⟨by unfold rDated; rw [if_neg (by omega), if_pos (by omega)], rfl⟩ dX9_dated_23
  · skip
    refine j_bipush (pc := 7) (w := (-101)) C rfl dX9_dated_7 ?_
    exact Rt _ _ _ _ _ _ (by decide) (by decide) ⟨by unfold rDated; rw [if_pos (by omega)], rfl⟩ dX9_dated_9

theorem fX9_seed_X2 : ∀ w ∈ u_ws RX2 TX2 8, w ∈ wsX9_seed := j_words [14, 15, 16, 17, 18, 19, 20, 21] (by decide +kernel)
theorem fX9_seed_X9 : ∀ w ∈ u_ws RX9 TX9 11, w ∈ wsX9_seed := j_words [3, 4, 5, 6, 7, 8, 9, 10, 11, 12, 13] (by decide +kernel)
set_option maxHeartbeats 4000000 in
set_option maxRecDepth 100000 in
theorem k_seed (l : Launch) (D : va_G) (Y : Nat → ClassId) (RO : va_W) (k : Nat → Nat) (nc : Int) (np : Int) (ik : Int) (S : MS) (v : Int) (ko : ((k 0), oC 8 [.ref (k 1), .ref (k 2), vI nc, .ref (k 3), vI np, .ref (k 4), .ref (k 7), vI ik, .ref (k 10), .ref (k 13), .ref (k 14)]) ∈ RO) (hv : -2147483648 ≤ v ∧ v ≤ 2147483647) : jMi l yX9_seed wsX9_seed { frames := 0, cells := 0, slots := 0, locals := 0 } D Y RO [.ref (k 0), vI v] [((k 4), oC 2 [.ref (k 5), .ref (k 6), vI (ms_w S), vI (ms_l S), vI (ms_s S), vI (ms_a S), vI (ms_t S), vI (ms_p S)]), ((k 5), aI (Y 0) 7 (ms_h S)), ((k 6), aI (Y 0) 420 (ms_m S))] (fun e w1 => e = rSeed v S ∧ w1 = [((k 4), oC 2 [.ref (k 5), .ref (k 6), vI (ms_w (sSeed v S)), vI (ms_l (sSeed v S)), vI (ms_s (sSeed v S)), vI (ms_a (sSeed v S)), vI (ms_t (sSeed v S)), vI (ms_p (sSeed v S))]), ((k 5), aI (Y 0) 7 (ms_h (sSeed v S))), ((k 6), aI (Y 0) 420 (ms_m (sSeed v S)))]) := by
  refine j_ofi RX9 rfl rfl rfl (Nat.le_of_ble_eq_true rfl) (fun X C Rt => ?_)
  refine j_iload_n (pc := 0) C 1 1 rfl rfl dX9_seed_0 ?_
  refine j_if_ge (pc := 1) C 7 rfl (by omega) dX9_seed_1 (fun h_1p1 => ?_) (fun h_1p1 => ?_)
  · skip
    refine j_aload_n (pc := 7) C 0 0 rfl rfl dX9_seed_7 ?_
    refine j_get (pc := 8) C (Or.inr ko) rfl fX9_seed_X9 5 (by decide) (List.mem_of_getElem? (i := 1) rfl) (Or.inl rfl) rfl dX9_seed_8 ?_
    refine j_get (pc := 11) C (Or.inl (List.mem_of_getElem? (i := 0) rfl)) rfl fX9_seed_X2 4 (by decide) (List.mem_of_getElem? (i := 2) rfl) (Or.inl rfl) rfl dX9_seed_11 ?_
    refine j_istore_n (pc := 14) (lc' := [(2, vI (ms_s S)), (0, .ref (k 0)), (1, vI v)]) C 2 rfl (by decide) rfl dX9_seed_14 ?_
    refine j_aload_n (pc := 15) C 0 1 rfl rfl dX9_seed_15 ?_
    refine j_get (pc := 16) C (Or.inr ko) rfl fX9_seed_X9 5 (by decide) (List.mem_of_getElem? (i := 1) rfl) (Or.inl rfl) rfl dX9_seed_16 ?_
    refine j_iload_n (pc := 19) C 1 2 rfl rfl dX9_seed_19 ?_
    refine j_put (pc := 20) (ws' := [((k 4), oC 2 [.ref (k 5), .ref (k 6), vI (ms_w S), vI (ms_l S), vI v, vI (ms_a S), vI (ms_t S), vI (ms_p S)]), ((k 5), aI (Y 0) 7 (ms_h S)), ((k 6), aI (Y 0) 420 (ms_m S))]) C 0 rfl rfl fX9_seed_X2 tyX2_ok nmX2 4 (by decide) (List.mem_of_getElem? (i := 2) rfl) (Or.inl rfl) rfl rfl rfl rfl (Nat.le_of_ble_eq_true rfl) rfl dX9_seed_20 ?_
    refine j_iload_n (pc := 23) C 2 0 rfl rfl dX9_seed_23 ?_
    exact Rt _ _ _ _ _ _ (by decide) (by decide) ⟨by unfold rSeed; rw [if_neg (by omega)], by unfold sSeed; rw [if_neg (by omega)]; first | done | rfl⟩ dX9_seed_24
  · skip
    refine j_bipush (pc := 4) (w := (-102)) C rfl dX9_seed_4 ?_
    exact Rt _ _ _ _ _ _ (by decide) (by decide) ⟨by unfold rSeed; rw [if_pos (by omega)], by unfold sSeed; rw [if_pos (by omega)]; first | done | rfl⟩ dX9_seed_6

theorem fX9_customAt_X9 : ∀ w ∈ u_ws RX9 TX9 11, w ∈ wsX9_customAt := j_words [2, 3, 4, 5, 6, 7, 8, 9, 10, 11, 12] (by decide +kernel)
set_option maxHeartbeats 4000000 in
set_option maxRecDepth 100000 in
theorem k_customAt (l : Launch) (D : va_G) (Y : Nat → ClassId) (RO : va_W) (k : Nat → Nat) (nc : Int) (np : Int) (ik : Int) (cad : Int → Nat) (i : Int) (ko : ((k 0), oC 8 [.ref (k 1), .ref (k 2), vI nc, .ref (k 3), vI np, .ref (k 4), .ref (k 7), vI ik, .ref (k 10), .ref (k 13), .ref (k 14)]) ∈ RO) (kc : ((k 2), aQ (Y 2) 4 (orow nc cad)) ∈ RO) (hi : -2147483648 ≤ i ∧ i ≤ 2147483647) (hnc : 0 ≤ nc ∧ nc ≤ 4) : jMr l yX9_customAt wsX9_customAt { frames := 0, cells := 0, slots := 0, locals := 0 } D Y RO [.ref (k 0), vI i] [] (fun e w1 => e = orow nc cad i ∧ w1 = []) := by
  refine j_ofr RX9 rfl rfl rfl (Nat.le_of_ble_eq_true rfl) (fun X C Rt => ?_)
  refine j_iload_n (pc := 0) C 1 1 rfl rfl dX9_customAt_0 ?_
  refine j_if_lt (pc := 1) C 9 rfl (by omega) dX9_customAt_1 (fun h_1p1 => ?_) (fun h_1p1 => ?_)
  · skip
    refine j_null (pc := 9) C dX9_customAt_9 ?_
    refine j_goto (pc := 10) C 19 rfl dX9_customAt_10 ?_
    exact Rt _ _ _ _ _ none (by decide) (by decide) ⟨(orow_out (by omega)).symm, rfl⟩ dX9_customAt_19
  · skip
    refine j_iload_n (pc := 4) C 1 1 rfl rfl dX9_customAt_4 ?_
    refine j_iconst (pc := 5) C dX9_customAt_5 ?_
    refine j_icmp_lt (pc := 6) C 13 rfl (by omega) dX9_customAt_6 (fun h_2p6 => ?_) (fun h_2p6 => ?_)
    · skip
      refine j_aload_n (pc := 13) C 0 0 rfl rfl dX9_customAt_13 ?_
      refine j_get (pc := 14) C (Or.inr ko) rfl fX9_customAt_X9 1 (by decide) (List.mem_of_getElem? (i := 1) rfl) (Or.inl rfl) rfl dX9_customAt_14 ?_
      refine j_iload_n (pc := 17) C 1 1 rfl rfl dX9_customAt_17 ?_
      refine j_aaldC (pc := 18) C (Or.inr kc) rfl (by omega) (by decide) dX9_customAt_18 ?_
      exact Rt _ _ _ _ _ (orow nc cad i) (by decide) (by decide) ⟨rfl, rfl⟩ dX9_customAt_19
    · skip
      refine j_null (pc := 9) C dX9_customAt_9 ?_
      refine j_goto (pc := 10) C 19 rfl dX9_customAt_10 ?_
      exact Rt _ _ _ _ _ none (by decide) (by decide) ⟨(orow_out (by omega)).symm, rfl⟩ dX9_customAt_19

theorem fX9_parishAt_X9 : ∀ w ∈ u_ws RX9 TX9 11, w ∈ wsX9_parishAt := j_words [2, 3, 4, 5, 6, 7, 8, 9, 10, 11, 12] (by decide +kernel)
set_option maxHeartbeats 4000000 in
set_option maxRecDepth 100000 in
theorem k_parishAt (l : Launch) (D : va_G) (Y : Nat → ClassId) (RO : va_W) (k : Nat → Nat) (nc : Int) (np : Int) (ik : Int) (pad : Int → Nat) (i : Int) (ko : ((k 0), oC 8 [.ref (k 1), .ref (k 2), vI nc, .ref (k 3), vI np, .ref (k 4), .ref (k 7), vI ik, .ref (k 10), .ref (k 13), .ref (k 14)]) ∈ RO) (kp : ((k 3), aQ (Y 3) 6 (orow np pad)) ∈ RO) (hi : -2147483648 ≤ i ∧ i ≤ 2147483647) (hnp : 0 ≤ np ∧ np ≤ 6) : jMr l yX9_parishAt wsX9_parishAt { frames := 0, cells := 0, slots := 0, locals := 0 } D Y RO [.ref (k 0), vI i] [] (fun e w1 => e = orow np pad i ∧ w1 = []) := by
  refine j_ofr RX9 rfl rfl rfl (Nat.le_of_ble_eq_true rfl) (fun X C Rt => ?_)
  refine j_iload_n (pc := 0) C 1 1 rfl rfl dX9_parishAt_0 ?_
  refine j_if_lt (pc := 1) C 10 rfl (by omega) dX9_parishAt_1 (fun h_1p1 => ?_) (fun h_1p1 => ?_)
  · skip
    refine j_null (pc := 10) C dX9_parishAt_10 ?_
    refine j_goto (pc := 11) C 20 rfl dX9_parishAt_11 ?_
    exact Rt _ _ _ _ _ none (by decide) (by decide) ⟨(orow_out (by omega)).symm, rfl⟩ dX9_parishAt_20
  · skip
    refine j_iload_n (pc := 4) C 1 1 rfl rfl dX9_parishAt_4 ?_
    refine j_bipush (pc := 5) (w := 6) C rfl dX9_parishAt_5 ?_
    refine j_icmp_lt (pc := 7) C 14 rfl (by omega) dX9_parishAt_7 (fun h_2p7 => ?_) (fun h_2p7 => ?_)
    · skip
      refine j_aload_n (pc := 14) C 0 0 rfl rfl dX9_parishAt_14 ?_
      refine j_get (pc := 15) C (Or.inr ko) rfl fX9_parishAt_X9 3 (by decide) (List.mem_of_getElem? (i := 1) rfl) (Or.inl rfl) rfl dX9_parishAt_15 ?_
      refine j_iload_n (pc := 18) C 1 1 rfl rfl dX9_parishAt_18 ?_
      refine j_aaldP (pc := 19) C (Or.inr kp) rfl (by omega) (by decide) dX9_parishAt_19 ?_
      exact Rt _ _ _ _ _ (orow np pad i) (by decide) (by decide) ⟨rfl, rfl⟩ dX9_parishAt_20
    · skip
      refine j_null (pc := 10) C dX9_parishAt_10 ?_
      refine j_goto (pc := 11) C 20 rfl dX9_parishAt_11 ?_
      exact Rt _ _ _ _ _ none (by decide) (by decide) ⟨(orow_out (by omega)).symm, rfl⟩ dX9_parishAt_20

theorem fX9_weeks_X2 : ∀ w ∈ u_ws RX2 TX2 8, w ∈ wsX9_weeks := j_words [146, 147, 148, 149, 150, 151, 152, 153] (by decide +kernel)
theorem fX9_weeks_X9 : ∀ w ∈ u_ws RX9 TX9 11, w ∈ wsX9_weeks := j_words [135, 136, 137, 138, 139, 140, 141, 142, 143, 144, 145] (by decide +kernel)
set_option maxHeartbeats 4000000 in
set_option maxRecDepth 100000 in
theorem k_weeks (l : Launch) (D : va_G) (Y : Nat → ClassId) (RO : va_W) (k : Nat → Nat) (nc : Int) (np : Int) (ik : Int) (cad : Int → Nat) (cs : Int → CT) (pad : Int → Nat) (ps : Int → PT) (S : MS) (cu : Int) (n : Int) (ko : ((k 0), oC 8 [.ref (k 1), .ref (k 2), vI nc, .ref (k 3), vI np, .ref (k 4), .ref (k 7), vI ik, .ref (k 10), .ref (k 13), .ref (k 14)]) ∈ RO) (kc : ((k 2), aQ (Y 2) 4 (orow nc cad)) ∈ RO) (hcc : ∀ i, 0 ≤ i ∧ i < nc → (cad i, oC 1 [vI (cw (cs i)), vI (cz (cs i)), vI (ce (cs i))]) ∈ RO) (kp : ((k 3), aQ (Y 3) 6 (orow np pad)) ∈ RO) (hpc : ∀ i, 0 ≤ i ∧ i < np → pC (pad i) (ps i) ∈ RO) (hS : okS S) (hw : ms_w S ≤ 9999) (hnc : 0 ≤ nc ∧ nc ≤ 4) (hcs : ∀ i, 0 ≤ i ∧ i < nc → okC (cs i)) (hnp : 0 ≤ np ∧ np ≤ 6) (hps : ∀ i, 0 ≤ i ∧ i < np → okP (ps i)) (hcu : -2147483648 ≤ cu ∧ cu ≤ 2147483647) (hn : -2147483648 ≤ n ∧ n ≤ 2147483647) : jMi l yX9_weeks wsX9_weeks { frames := 5, cells := 0, slots := 0, locals := 116 } D Y RO [.ref (k 0), vI cu, vI n] [((k 4), oC 2 [.ref (k 5), .ref (k 6), vI (ms_w S), vI (ms_l S), vI (ms_s S), vI (ms_a S), vI (ms_t S), vI (ms_p S)]), ((k 5), aI (Y 0) 7 (ms_h S)), ((k 6), aI (Y 0) 420 (ms_m S))] (fun e w1 => e = rWeeks cu n nc cs np ps S ∧ w1 = [((k 4), oC 2 [.ref (k 5), .ref (k 6), vI (ms_w (sWeeks cu n nc cs np ps S)), vI (ms_l (sWeeks cu n nc cs np ps S)), vI (ms_s (sWeeks cu n nc cs np ps S)), vI (ms_a (sWeeks cu n nc cs np ps S)), vI (ms_t (sWeeks cu n nc cs np ps S)), vI (ms_p (sWeeks cu n nc cs np ps S))]), ((k 5), aI (Y 0) 7 (ms_h (sWeeks cu n nc cs np ps S))), ((k 6), aI (Y 0) 420 (ms_m (sWeeks cu n nc cs np ps S)))]) := by
  refine j_ofi RX9 rfl rfl rfl (Nat.le_of_ble_eq_true rfl) (fun X C Rt => ?_)
  have hw0 := hS.w
  refine j_aload_n (pc := 0) C 0 0 rfl rfl dX9_weeks_0 ?_
  refine j_iload_n (pc := 1) C 1 1 rfl rfl dX9_weeks_1 ?_
  refine j_callVr (pc := 2) (As := [vI cu]) (na := 1) (st := []) C [] [0, 1, 2] (wr := [((k 4), oC 2 [.ref (k 5), .ref (k 6), vI (ms_w S), vI (ms_l S), vI (ms_s S), vI (ms_a S), vI (ms_t S), vI (ms_p S)]), ((k 5), aI (Y 0) 7 (ms_h S)), ((k 6), aI (Y 0) 420 (ms_m S))]) (fun l => k_customAt l D Y _ k nc np ik cad cu (List.mem_append_right _ ko) (List.mem_append_right _ kc) (by first | assumption | omega) (by first | assumption | omega)) rfl rfl rfl rfl (by decide) rfl (Or.inr (List.mem_append_right _ ko)) rfl gX9_weeks_X9_customAt ⟨rfl, by decide +kernel⟩ (by decide) rfl rfl (Nat.le_of_ble_eq_true rfl) (by decide) dX9_weeks_2 (fun e_1 w_2 h_3 => ?_)
  obtain ⟨rfl, rfl⟩ := h_3
  refine j_perm (ws' := [((k 4), oC 2 [.ref (k 5), .ref (k 6), vI (ms_w S), vI (ms_l S), vI (ms_s S), vI (ms_a S), vI (ms_t S), vI (ms_p S)]), ((k 5), aI (Y 0) 7 (ms_h S)), ((k 6), aI (Y 0) 420 (ms_m S))]) [0, 1, 2] rfl rfl ?_
  by_cases hq_4 : 0 ≤ cu ∧ cu < nc
  · rw [show orow nc cad cu = some (cad cu) from orow_in hq_4]
    have hc4 := hcc cu hq_4
    have hC4 := hcs cu hq_4
    refine j_astore_n (pc := 5) (lc' := [(3, .ref (cad cu)), (0, .ref (k 0)), (1, vI cu), (2, vI n)]) C 3 rfl (by decide) rfl dX9_weeks_5 ?_
    refine j_aload_n (pc := 6) C 3 0 rfl rfl dX9_weeks_6 ?_
    refine j_ifnonnull (pc := 7) C 13 rfl dX9_weeks_7 ?_
    refine j_iload_n (pc := 13) C 2 3 rfl rfl dX9_weeks_13 ?_
    refine j_iconst (pc := 14) C dX9_weeks_14 ?_
    refine j_icmp_lt (pc := 15) C 24 rfl (by omega) dX9_weeks_15 (fun h_5p15 => ?_) (fun h_5p15 => ?_)
    · skip
      refine j_bipush (pc := 24) (w := (-102)) C rfl dX9_weeks_24 ?_
      exact Rt _ _ _ _ _ _ (by decide) (by decide) ⟨by unfold rWeeks; rw [if_neg (by omega), if_pos (by omega)], by unfold sWeeks; rw [if_neg (by omega), if_pos (by omega)]; first | done | rfl⟩ dX9_weeks_26
    · skip
      refine j_iload_n (pc := 18) C 2 3 rfl rfl dX9_weeks_18 ?_
      refine j_bipush (pc := 19) (w := 60) C rfl dX9_weeks_19 ?_
      refine j_icmp_le (pc := 21) C 27 rfl (by omega) dX9_weeks_21 (fun h_6p21 => ?_) (fun h_6p21 => ?_)
      · skip
        refine j_aload_n (pc := 27) C 0 1 rfl rfl dX9_weeks_27 ?_
        refine j_get (pc := 28) C (Or.inr ko) rfl fX9_weeks_X9 5 (by decide) (List.mem_of_getElem? (i := 1) rfl) (Or.inl rfl) rfl dX9_weeks_28 ?_
        refine j_get (pc := 31) C (Or.inl (List.mem_of_getElem? (i := 0) rfl)) rfl fX9_weeks_X2 2 (by decide) (List.mem_of_getElem? (i := 2) rfl) (Or.inl rfl) rfl dX9_weeks_31 ?_
        refine j_iload_n (pc := 34) C 2 3 rfl rfl dX9_weeks_34 ?_
        refine j_iadd (pc := 35) C dX9_weeks_35 ?_
        refine j_sipush (pc := 36) (w := 9999) C rfl dX9_weeks_36 ?_
        refine j_icmp_le (pc := 39) C 45 rfl (by omega) dX9_weeks_39 (fun h_7p39 => ?_) (fun h_7p39 => ?_)
        · skip
          refine j_iconst (pc := 45) C dX9_weeks_45 ?_
          refine j_istore (pc := 46) (lc' := [(4, vI 0), (3, .ref (cad cu)), (0, .ref (k 0)), (1, vI cu), (2, vI n)]) C (by decide) rfl dX9_weeks_46 ?_
          have hL48 : ∀ (N48 : Nat) (i : Int) (T : MS), ((n - i).toNat) < N48 → (0 ≤ i ∧ i ≤ n) → (T = weeksS (cs cu) ps np i S) → (okS T ∧ ms_w T = ms_w S + i) → jW X 5 0 0 [((k 4), oC 2 [.ref (k 5), .ref (k 6), vI (ms_w T), vI (ms_l T), vI (ms_s T), vI (ms_a T), vI (ms_t T), vI (ms_p T)]), ((k 5), aI (Y 0) 7 (ms_h T)), ((k 6), aI (Y 0) 420 (ms_m T))] [(0, .ref (k 0)), (2, vI n), (3, .ref (cad cu)), (4, vI i)] 48 [] := by
            intro N48
            induction N48 with
            | zero => intro i T hm48 i48_0 i48_1 i48_2; omega
            | succ N48 ih48 =>
              intro i T hm48 i48_0 i48_1 i48_2
              refine j_iload (pc := 48) C 3 rfl dX9_weeks_48 ?_
              refine j_iload_n (pc := 50) C 2 1 rfl rfl dX9_weeks_50 ?_
              refine j_icmp_ge (pc := 51) C 72 rfl (by omega) dX9_weeks_51 (fun h_8p51 => ?_) (fun h_8p51 => ?_)
              · skip
                refine j_aload_n (pc := 72) C 0 0 rfl rfl dX9_weeks_72 ?_
                refine j_get (pc := 73) C (Or.inr ko) rfl fX9_weeks_X9 5 (by decide) (List.mem_of_getElem? (i := 1) rfl) (Or.inl rfl) rfl dX9_weeks_73 ?_
                refine j_callVi (pc := 76) (As := []) (na := 0) (st := []) C [] [0, 1, 2] (wr := [((k 4), oC 2 [.ref (k 5), .ref (k 6), vI (ms_w T), vI (ms_l T), vI (ms_s T), vI (ms_a T), vI (ms_t T), vI (ms_p T)]), ((k 5), aI (Y 0) 7 (ms_h T)), ((k 6), aI (Y 0) 420 (ms_m T))]) (fun l => c_pebbles l D Y _ (k 4) (k 5) (k 6) T (List.mem_append_left _ (List.mem_of_getElem? (i := 0) rfl)) (List.mem_append_left _ (List.mem_of_getElem? (i := 1) rfl)) ) rfl rfl rfl rfl (by decide) rfl (Or.inr (List.mem_append_left _ (List.mem_of_getElem? (i := 0) rfl))) rfl gX9_weeks_X2_pebbles ⟨rfl, by decide +kernel⟩ (by decide) rfl rfl (Nat.le_of_ble_eq_true rfl) (by decide) dX9_weeks_76 (fun e_9 w_10 h_11 => ?_)
                obtain ⟨rfl, rfl⟩ := h_11
                refine j_perm (ws' := [((k 4), oC 2 [.ref (k 5), .ref (k 6), vI (ms_w T), vI (ms_l T), vI (ms_s T), vI (ms_a T), vI (ms_t T), vI (ms_p T)]), ((k 5), aI (Y 0) 7 (ms_h T)), ((k 6), aI (Y 0) 420 (ms_m T))]) [0, 1, 2] rfl rfl ?_
                exact Rt _ _ _ _ _ _ (by decide) (by decide) ⟨by unfold rWeeks; rw [if_neg (by omega), if_neg (by omega), if_neg (by omega), show n = i by omega, ← i48_1], by unfold sWeeks; rw [if_neg (by omega), if_neg (by omega), if_neg (by omega), show n = i by omega, ← i48_1]⟩ dX9_weeks_79
              · skip
                refine j_aload_n (pc := 54) C 0 0 rfl rfl dX9_weeks_54 ?_
                refine j_get (pc := 55) C (Or.inr ko) rfl fX9_weeks_X9 5 (by decide) (List.mem_of_getElem? (i := 1) rfl) (Or.inl rfl) rfl dX9_weeks_55 ?_
                refine j_aload_n (pc := 58) C 3 2 rfl rfl dX9_weeks_58 ?_
                refine j_aload_n (pc := 59) C 0 0 rfl rfl dX9_weeks_59 ?_
                refine j_get (pc := 60) C (Or.inr ko) rfl fX9_weeks_X9 3 (by decide) (List.mem_of_getElem? (i := 3) rfl) (Or.inl rfl) rfl dX9_weeks_60 ?_
                refine j_callVv (pc := 63) (As := [.ref (cad cu), .ref (k 3)]) (na := 2) (st := []) C [0, 1, 2] [] (wr := []) (fun l => c_goOneWeek l D Y _ (k 4) (k 5) (k 6) T (cad cu) (cs cu) (k 3) pad np ps (List.mem_append_right _ hc4) (List.mem_append_right _ kp) (fun i hi => List.mem_append_right _ (hpc i hi)) i48_2.1 (by first | assumption | omega) (by first | assumption | omega) (by first | assumption | omega) (by omega)) rfl rfl rfl rfl (by decide) rfl (Or.inl (List.mem_of_getElem? (i := 0) rfl)) rfl gX9_weeks_X2_goOneWeek ⟨rfl, by decide +kernel⟩ (by decide) rfl rfl (Nat.le_of_ble_eq_true rfl) (by decide) dX9_weeks_63 (fun w_13 h_14 => ?_)
                subst h_14
                refine j_perm (ws' := [((k 4), oC 2 [.ref (k 5), .ref (k 6), vI (ms_w (goS (cs cu) ps np T)), vI (ms_l (goS (cs cu) ps np T)), vI (ms_s (goS (cs cu) ps np T)), vI (ms_a (goS (cs cu) ps np T)), vI (ms_t (goS (cs cu) ps np T)), vI (ms_p (goS (cs cu) ps np T))]), ((k 5), aI (Y 0) 7 (ms_h (goS (cs cu) ps np T))), ((k 6), aI (Y 0) 420 (ms_m (goS (cs cu) ps np T)))]) [0, 1, 2] rfl rfl ?_
                refine j_iinc (pc := 66) (lc' := [(4, vI (i + 1)), (0, .ref (k 0)), (2, vI n), (3, .ref (cad cu))]) C 3 rfl (by decide) rfl dX9_weeks_66 ?_
                refine j_goto (pc := 69) C 48 rfl dX9_weeks_69 ?_
                refine j_locals (lc' := [(0, .ref (k 0)), (2, vI n), (3, .ref (cad cu)), (4, vI (i + 1))]) [1, 2, 3, 0] rfl ?_
                exact ih48 (i + 1) (goS (cs cu) ps np T) (by omega) (by omega) (by rw [i48_1]; exact (weeksS_succ (by omega)).symm) (by have := okS_go i48_2.1 (by assumption) hps hnp; exact ⟨this.1, by rw [this.2, i48_2.2]; omega⟩)
          refine j_locals (lc' := [(0, .ref (k 0)), (2, vI n), (3, .ref (cad cu)), (4, vI 0)]) [2, 4, 1, 0] rfl ?_
          exact hL48 _ 0 S (Nat.lt_succ_self _) (by omega) rfl ⟨hS, by omega⟩
        · skip
          refine j_bipush (pc := 42) (w := (-103)) C rfl dX9_weeks_42 ?_
          exact Rt _ _ _ _ _ _ (by decide) (by decide) ⟨by unfold rWeeks; rw [if_neg (by omega), if_neg (by omega), if_pos (by omega)], by unfold sWeeks; rw [if_neg (by omega), if_neg (by omega), if_pos (by omega)]; first | done | rfl⟩ dX9_weeks_44
      · skip
        refine j_bipush (pc := 24) (w := (-102)) C rfl dX9_weeks_24 ?_
        exact Rt _ _ _ _ _ _ (by decide) (by decide) ⟨by unfold rWeeks; rw [if_neg (by omega), if_pos (by omega)], by unfold sWeeks; rw [if_neg (by omega), if_pos (by omega)]; first | done | rfl⟩ dX9_weeks_26
  · rw [show orow nc cad cu = none from orow_out hq_4]
    refine j_astore_nN (pc := 5) (lc' := [(3, .null), (0, .ref (k 0)), (1, vI cu), (2, vI n)]) C 3 rfl (by decide) rfl dX9_weeks_5 ?_
    refine j_aload_nN (pc := 6) C 3 0 rfl rfl dX9_weeks_6 ?_
    refine j_ifnonnullN (pc := 7) C dX9_weeks_7 ?_
    refine j_bipush (pc := 10) (w := (-101)) C rfl dX9_weeks_10 ?_
    exact Rt _ _ _ _ _ _ (by decide) (by decide) ⟨by unfold rWeeks; rw [if_pos (by omega)], by unfold sWeeks; rw [if_pos (by omega)]; first | done | rfl⟩ dX9_weeks_12

theorem fX9_dreamOf_X9 : ∀ w ∈ u_ws RX9 TX9 11, w ∈ wsX9_dreamOf := j_words [134, 135, 136, 137, 138, 139, 140, 141, 142, 143, 144] (by decide +kernel)
set_option maxHeartbeats 4000000 in
set_option maxRecDepth 100000 in
theorem k_dreamOf (l : Launch) (D : va_G) (Y : Nat → ClassId) (RO : va_W) (k : Nat → Nat) (nc : Int) (np : Int) (ik : Int) (cad : Int → Nat) (cs : Int → CT) (pad : Int → Nat) (ps : Int → PT) (S : MS) (U : MS) (ca : Nat) (Cu : CT) (n : Int) (ko : ((k 0), oC 8 [.ref (k 1), .ref (k 2), vI nc, .ref (k 3), vI np, .ref (k 4), .ref (k 7), vI ik, .ref (k 10), .ref (k 13), .ref (k 14)]) ∈ RO) (kp : ((k 3), aQ (Y 3) 6 (orow np pad)) ∈ RO) (hpc : ∀ i, 0 ≤ i ∧ i < np → pC (pad i) (ps i) ∈ RO) (hc : (ca, oC 1 [vI (cw Cu), vI (cz Cu), vI (ce Cu)]) ∈ RO) (hS : okS S) (hw : ms_w S ≤ 10100) (hC : okC Cu) (hnp : 0 ≤ np ∧ np ≤ 6) (hps : ∀ i, 0 ≤ i ∧ i < np → okP (ps i)) (hn : 0 ≤ n ∧ n ≤ 60) : jMv l yX9_dreamOf wsX9_dreamOf { frames := 5, cells := 0, slots := 0, locals := 116 } D Y RO [.ref (k 0), .ref ca, vI n] [((k 4), oC 2 [.ref (k 5), .ref (k 6), vI (ms_w S), vI (ms_l S), vI (ms_s S), vI (ms_a S), vI (ms_t S), vI (ms_p S)]), ((k 5), aI (Y 0) 7 (ms_h S)), ((k 6), aI (Y 0) 420 (ms_m S)), ((k 10), oC 2 [.ref (k 11), .ref (k 12), vI (ms_w U), vI (ms_l U), vI (ms_s U), vI (ms_a U), vI (ms_t U), vI (ms_p U)]), ((k 11), aI (Y 0) 7 (ms_h U)), ((k 12), aI (Y 0) 420 (ms_m U))] (fun w1 => w1 = [((k 4), oC 2 [.ref (k 5), .ref (k 6), vI (ms_w S), vI (ms_l S), vI (ms_s S), vI (ms_a S), vI (ms_t S), vI (ms_p S)]), ((k 5), aI (Y 0) 7 (ms_h S)), ((k 6), aI (Y 0) 420 (ms_m S)), ((k 10), oC 2 [.ref (k 11), .ref (k 12), vI (ms_w (weeksS Cu ps np n S)), vI (ms_l (weeksS Cu ps np n S)), vI (ms_s (weeksS Cu ps np n S)), vI (ms_a (weeksS Cu ps np n S)), vI (ms_t (weeksS Cu ps np n S)), vI (ms_p (weeksS Cu ps np n S))]), ((k 11), aI (Y 0) 7 (ms_h (weeksS Cu ps np n S))), ((k 12), aI (Y 0) 420 (ms_m (weeksS Cu ps np n S)))]) := by
  refine j_ofv RX9 rfl rfl rfl (Nat.le_of_ble_eq_true rfl) (fun X C Rt hI => ?_)
  refine j_aload_n (pc := 0) C 0 0 rfl rfl dX9_dreamOf_0 ?_
  refine j_get (pc := 1) C (Or.inr ko) rfl fX9_dreamOf_X9 8 (by decide) (List.mem_of_getElem? (i := 1) rfl) (Or.inl rfl) rfl dX9_dreamOf_1 ?_
  refine j_aload_n (pc := 4) C 0 0 rfl rfl dX9_dreamOf_4 ?_
  refine j_get (pc := 5) C (Or.inr ko) rfl fX9_dreamOf_X9 5 (by decide) (List.mem_of_getElem? (i := 2) rfl) (Or.inl rfl) rfl dX9_dreamOf_5 ?_
  refine j_callVv (pc := 8) (As := [.ref (k 4)]) (na := 1) (st := []) C [3, 4, 5, 0, 1, 2] [] (wr := []) (fun l => c_become l D Y _ (k 10) (k 11) (k 12) U (k 4) (k 5) (k 6) S ) rfl rfl rfl rfl (by decide) rfl (Or.inl (List.mem_of_getElem? (i := 0) rfl)) rfl gX9_dreamOf_X2_become ⟨rfl, by decide +kernel⟩ (by decide) rfl rfl (Nat.le_of_ble_eq_true rfl) (by decide) dX9_dreamOf_8 (fun w_2 h_3 => ?_)
  subst h_3
  refine j_perm (ws' := [((k 4), oC 2 [.ref (k 5), .ref (k 6), vI (ms_w S), vI (ms_l S), vI (ms_s S), vI (ms_a S), vI (ms_t S), vI (ms_p S)]), ((k 5), aI (Y 0) 7 (ms_h S)), ((k 6), aI (Y 0) 420 (ms_m S)), ((k 10), oC 2 [.ref (k 11), .ref (k 12), vI (ms_w S), vI (ms_l S), vI (ms_s S), vI (ms_a S), vI (ms_t S), vI (ms_p S)]), ((k 11), aI (Y 0) 7 (ms_h S)), ((k 12), aI (Y 0) 420 (ms_m S))]) [3, 4, 5, 0, 1, 2] rfl rfl ?_
  refine j_iconst (pc := 11) C dX9_dreamOf_11 ?_
  refine j_istore_n (pc := 12) (lc' := [(3, vI 0), (0, .ref (k 0)), (1, .ref ca), (2, vI n)]) C 3 rfl (by decide) rfl dX9_dreamOf_12 ?_
  have hL13 : ∀ (N13 : Nat) (i : Int) (T : MS), ((n - i).toNat) < N13 → (0 ≤ i ∧ i ≤ n) → (T = weeksS Cu ps np i S) → (okS T ∧ ms_w T = ms_w S + i) → jW X 4 0 0 [((k 4), oC 2 [.ref (k 5), .ref (k 6), vI (ms_w S), vI (ms_l S), vI (ms_s S), vI (ms_a S), vI (ms_t S), vI (ms_p S)]), ((k 5), aI (Y 0) 7 (ms_h S)), ((k 6), aI (Y 0) 420 (ms_m S)), ((k 10), oC 2 [.ref (k 11), .ref (k 12), vI (ms_w T), vI (ms_l T), vI (ms_s T), vI (ms_a T), vI (ms_t T), vI (ms_p T)]), ((k 11), aI (Y 0) 7 (ms_h T)), ((k 12), aI (Y 0) 420 (ms_m T))] [(0, .ref (k 0)), (1, .ref ca), (2, vI n), (3, vI i)] 13 [] := by
    intro N13
    induction N13 with
    | zero => intro i T hm13 i13_0 i13_1 i13_2; omega
    | succ N13 ih13 =>
      intro i T hm13 i13_0 i13_1 i13_2
      refine j_iload_n (pc := 13) C 3 3 rfl rfl dX9_dreamOf_13 ?_
      refine j_iload_n (pc := 14) C 2 2 rfl rfl dX9_dreamOf_14 ?_
      refine j_icmp_ge (pc := 15) C 36 rfl (by omega) dX9_dreamOf_15 (fun h_4p15 => ?_) (fun h_4p15 => ?_)
      · skip
        exact Rt _ _ _ _ _ (by decide) (by decide) (by rw [show n = i by omega, ← i13_1]) dX9_dreamOf_36
      · skip
        refine j_aload_n (pc := 18) C 0 0 rfl rfl dX9_dreamOf_18 ?_
        refine j_get (pc := 19) C (Or.inr ko) rfl fX9_dreamOf_X9 8 (by decide) (List.mem_of_getElem? (i := 1) rfl) (Or.inl rfl) rfl dX9_dreamOf_19 ?_
        refine j_aload_n (pc := 22) C 1 1 rfl rfl dX9_dreamOf_22 ?_
        refine j_aload_n (pc := 23) C 0 0 rfl rfl dX9_dreamOf_23 ?_
        refine j_get (pc := 24) C (Or.inr ko) rfl fX9_dreamOf_X9 3 (by decide) (List.mem_of_getElem? (i := 3) rfl) (Or.inl rfl) rfl dX9_dreamOf_24 ?_
        refine j_callVv (pc := 27) (As := [.ref ca, .ref (k 3)]) (na := 2) (st := []) C [3, 4, 5] [0, 1, 2] (wr := [((k 4), oC 2 [.ref (k 5), .ref (k 6), vI (ms_w S), vI (ms_l S), vI (ms_s S), vI (ms_a S), vI (ms_t S), vI (ms_p S)]), ((k 5), aI (Y 0) 7 (ms_h S)), ((k 6), aI (Y 0) 420 (ms_m S))]) (fun l => c_goOneWeek l D Y _ (k 10) (k 11) (k 12) T ca Cu (k 3) pad np ps (List.mem_append_right _ hc) (List.mem_append_right _ kp) (fun i hi => List.mem_append_right _ (hpc i hi)) i13_2.1 (by first | assumption | omega) (by first | assumption | omega) (by first | assumption | omega) (by omega)) rfl rfl rfl rfl (by decide) rfl (Or.inl (List.mem_of_getElem? (i := 0) rfl)) rfl gX9_dreamOf_X2_goOneWeek ⟨rfl, by decide +kernel⟩ (by decide) rfl rfl (Nat.le_of_ble_eq_true rfl) (by decide) dX9_dreamOf_27 (fun w_6 h_7 => ?_)
        subst h_7
        refine j_perm (ws' := [((k 4), oC 2 [.ref (k 5), .ref (k 6), vI (ms_w S), vI (ms_l S), vI (ms_s S), vI (ms_a S), vI (ms_t S), vI (ms_p S)]), ((k 5), aI (Y 0) 7 (ms_h S)), ((k 6), aI (Y 0) 420 (ms_m S)), ((k 10), oC 2 [.ref (k 11), .ref (k 12), vI (ms_w (goS Cu ps np T)), vI (ms_l (goS Cu ps np T)), vI (ms_s (goS Cu ps np T)), vI (ms_a (goS Cu ps np T)), vI (ms_t (goS Cu ps np T)), vI (ms_p (goS Cu ps np T))]), ((k 11), aI (Y 0) 7 (ms_h (goS Cu ps np T))), ((k 12), aI (Y 0) 420 (ms_m (goS Cu ps np T)))]) [0, 1, 2, 3, 4, 5] rfl rfl ?_
        refine j_iinc (pc := 30) (lc' := [(3, vI (i + 1)), (0, .ref (k 0)), (1, .ref ca), (2, vI n)]) C 3 rfl (by decide) rfl dX9_dreamOf_30 ?_
        refine j_goto (pc := 33) C 13 rfl dX9_dreamOf_33 ?_
        refine j_locals (lc' := [(0, .ref (k 0)), (1, .ref ca), (2, vI n), (3, vI (i + 1))]) [1, 2, 3, 0] rfl ?_
        exact ih13 (i + 1) (goS Cu ps np T) (by omega) (by omega) (by rw [i13_1]; exact (weeksS_succ (by omega)).symm) (by have := okS_go i13_2.1 hC hps hnp; exact ⟨this.1, by rw [this.2, i13_2.2]; omega⟩)
  refine j_locals (lc' := [(0, .ref (k 0)), (1, .ref ca), (2, vI n), (3, vI 0)]) [1, 2, 3, 0] rfl ?_
  exact hL13 _ 0 S (Nat.lt_succ_self _) (by omega) rfl ⟨hS, by omega⟩

theorem fX9_dreamTillEmpty_X2 : ∀ w ∈ u_ws RX2 TX2 8, w ∈ wsX9_dreamTillEmpty := j_words [138, 139, 140, 141, 142, 143, 144, 145] (by decide +kernel)
theorem fX9_dreamTillEmpty_X9 : ∀ w ∈ u_ws RX9 TX9 11, w ∈ wsX9_dreamTillEmpty := j_words [127, 128, 129, 130, 131, 132, 133, 134, 135, 136, 137] (by decide +kernel)
set_option maxHeartbeats 4000000 in
set_option maxRecDepth 100000 in
theorem k_dreamTillEmpty (l : Launch) (D : va_G) (Y : Nat → ClassId) (RO : va_W) (k : Nat → Nat) (nc : Int) (np : Int) (ik : Int) (cad : Int → Nat) (cs : Int → CT) (pad : Int → Nat) (ps : Int → PT) (U : MS) (ca : Nat) (Cu : CT) (c : Int) (n : Int) (ko : ((k 0), oC 8 [.ref (k 1), .ref (k 2), vI nc, .ref (k 3), vI np, .ref (k 4), .ref (k 7), vI ik, .ref (k 10), .ref (k 13), .ref (k 14)]) ∈ RO) (kp : ((k 3), aQ (Y 3) 6 (orow np pad)) ∈ RO) (hpc : ∀ i, 0 ≤ i ∧ i < np → pC (pad i) (ps i) ∈ RO) (hc : (ca, oC 1 [vI (cw Cu), vI (cz Cu), vI (ce Cu)]) ∈ RO) (hU : okS U) (hw : ms_w U ≤ 10100) (hC : okC Cu) (hnp : 0 ≤ np ∧ np ≤ 6) (hps : ∀ i, 0 ≤ i ∧ i < np → okP (ps i)) (hcn : 0 ≤ c ∧ c < 7) (hn : 1 ≤ n ∧ n ≤ 60) : jMi l yX9_dreamTillEmpty wsX9_dreamTillEmpty { frames := 5, cells := 0, slots := 0, locals := 116 } D Y RO [.ref (k 0), .ref ca, vI c, vI n] [((k 10), oC 2 [.ref (k 11), .ref (k 12), vI (ms_w U), vI (ms_l U), vI (ms_s U), vI (ms_a U), vI (ms_t U), vI (ms_p U)]), ((k 11), aI (Y 0) 7 (ms_h U)), ((k 12), aI (Y 0) 420 (ms_m U))] (fun e w1 => e = tillI Cu np ps c n U ∧ ∃ V : MS, w1 = [((k 10), oC 2 [.ref (k 11), .ref (k 12), vI (ms_w V), vI (ms_l V), vI (ms_s V), vI (ms_a V), vI (ms_t V), vI (ms_p V)]), ((k 11), aI (Y 0) 7 (ms_h V)), ((k 12), aI (Y 0) 420 (ms_m V))]) := by
  refine j_ofi RX9 rfl rfl rfl (Nat.le_of_ble_eq_true rfl) (fun X C Rt => ?_)
  refine j_iconst (pc := 0) C dX9_dreamTillEmpty_0 ?_
  refine j_istore (pc := 1) (lc' := [(4, vI 1), (0, .ref (k 0)), (1, .ref ca), (2, vI c), (3, vI n)]) C (by decide) rfl dX9_dreamTillEmpty_1 ?_
  have hL3 : ∀ (N3 : Nat) (i : Int) (T : MS), ((n + 1 - i).toNat) < N3 → (1 ≤ i ∧ i ≤ n + 1) → (T = weeksS Cu ps np (i - 1) U) → (okS T ∧ ms_w T = ms_w U + (i - 1)) → (drainI Cu np ps c (i - 1) U = -1) → jW X 5 0 0 [((k 10), oC 2 [.ref (k 11), .ref (k 12), vI (ms_w T), vI (ms_l T), vI (ms_s T), vI (ms_a T), vI (ms_t T), vI (ms_p T)]), ((k 11), aI (Y 0) 7 (ms_h T)), ((k 12), aI (Y 0) 420 (ms_m T))] [(0, .ref (k 0)), (1, .ref ca), (2, vI c), (3, vI n), (4, vI i)] 3 [] := by
    intro N3
    induction N3 with
    | zero => intro i T hm3 i3_0 i3_1 i3_2 i3_3; omega
    | succ N3 ih3 =>
      intro i T hm3 i3_0 i3_1 i3_2 i3_3
      refine j_iload (pc := 3) C 4 rfl dX9_dreamTillEmpty_3 ?_
      refine j_iload_n (pc := 5) C 3 3 rfl rfl dX9_dreamTillEmpty_5 ?_
      refine j_icmp_gt (pc := 6) C 49 rfl (by omega) dX9_dreamTillEmpty_6 (fun h_1p6 => ?_) (fun h_1p6 => ?_)
      · skip
        refine j_iload_n (pc := 49) C 3 3 rfl rfl dX9_dreamTillEmpty_49 ?_
        refine j_iconst (pc := 50) C dX9_dreamTillEmpty_50 ?_
        refine j_iadd (pc := 51) C dX9_dreamTillEmpty_51 ?_
        have ed : drainI Cu np ps c n U = -1 := by rw [show n = i - 1 by omega]; exact i3_3
        exact Rt _ _ _ _ _ _ (by decide) (by decide) ⟨by unfold tillI; rw [ed, if_pos rfl], _, rfl⟩ dX9_dreamTillEmpty_52
      · skip
        refine j_aload_n (pc := 9) C 0 0 rfl rfl dX9_dreamTillEmpty_9 ?_
        refine j_get (pc := 10) C (Or.inr ko) rfl fX9_dreamTillEmpty_X9 8 (by decide) (List.mem_of_getElem? (i := 1) rfl) (Or.inl rfl) rfl dX9_dreamTillEmpty_10 ?_
        refine j_aload_n (pc := 13) C 1 1 rfl rfl dX9_dreamTillEmpty_13 ?_
        refine j_aload_n (pc := 14) C 0 0 rfl rfl dX9_dreamTillEmpty_14 ?_
        refine j_get (pc := 15) C (Or.inr ko) rfl fX9_dreamTillEmpty_X9 3 (by decide) (List.mem_of_getElem? (i := 2) rfl) (Or.inl rfl) rfl dX9_dreamTillEmpty_15 ?_
        refine j_callVv (pc := 18) (As := [.ref ca, .ref (k 3)]) (na := 2) (st := []) C [0, 1, 2] [] (wr := []) (fun l => c_goOneWeek l D Y _ (k 10) (k 11) (k 12) T ca Cu (k 3) pad np ps (List.mem_append_right _ hc) (List.mem_append_right _ kp) (fun i hi => List.mem_append_right _ (hpc i hi)) i3_2.1 (by first | assumption | omega) (by first | assumption | omega) (by first | assumption | omega) (by omega)) rfl rfl rfl rfl (by decide) rfl (Or.inl (List.mem_of_getElem? (i := 0) rfl)) rfl gX9_dreamTillEmpty_X2_goOneWeek ⟨rfl, by decide +kernel⟩ (by decide) rfl rfl (Nat.le_of_ble_eq_true rfl) (by decide) dX9_dreamTillEmpty_18 (fun w_3 h_4 => ?_)
        subst h_4
        refine j_perm (ws' := [((k 10), oC 2 [.ref (k 11), .ref (k 12), vI (ms_w (goS Cu ps np T)), vI (ms_l (goS Cu ps np T)), vI (ms_s (goS Cu ps np T)), vI (ms_a (goS Cu ps np T)), vI (ms_t (goS Cu ps np T)), vI (ms_p (goS Cu ps np T))]), ((k 11), aI (Y 0) 7 (ms_h (goS Cu ps np T))), ((k 12), aI (Y 0) 420 (ms_m (goS Cu ps np T)))]) [0, 1, 2] rfl rfl ?_
        refine j_iload_n (pc := 21) C 2 2 rfl rfl dX9_dreamTillEmpty_21 ?_
        refine j_callSi (pc := 22) (As := [vI c]) (na := 1) (st := []) C [] [0, 1, 2] (wr := [((k 10), oC 2 [.ref (k 11), .ref (k 12), vI (ms_w (goS Cu ps np T)), vI (ms_l (goS Cu ps np T)), vI (ms_s (goS Cu ps np T)), vI (ms_a (goS Cu ps np T)), vI (ms_t (goS Cu ps np T)), vI (ms_p (goS Cu ps np T))]), ((k 11), aI (Y 0) 7 (ms_h (goS Cu ps np T))), ((k 12), aI (Y 0) 420 (ms_m (goS Cu ps np T)))]) (fun l => c_isCairn l D Y _ c (by first | assumption | omega)) rfl rfl rfl rfl (by decide) rfl gX9_dreamTillEmpty_X9_isCairn (by decide +kernel) (by decide) rfl rfl (Nat.le_of_ble_eq_true rfl) (by decide) dX9_dreamTillEmpty_22 (fun e_5 w_6 h_7 => ?_)
        obtain ⟨rfl, rfl⟩ := h_7
        refine j_perm (ws' := [((k 10), oC 2 [.ref (k 11), .ref (k 12), vI (ms_w (goS Cu ps np T)), vI (ms_l (goS Cu ps np T)), vI (ms_s (goS Cu ps np T)), vI (ms_a (goS Cu ps np T)), vI (ms_t (goS Cu ps np T)), vI (ms_p (goS Cu ps np T))]), ((k 11), aI (Y 0) 7 (ms_h (goS Cu ps np T))), ((k 12), aI (Y 0) 420 (ms_m (goS Cu ps np T)))]) [0, 1, 2] rfl rfl ?_
        refine j_if_eqb (pc := 25) C 43 rfl dX9_dreamTillEmpty_25 (fun h_8p25 => ?_) (fun h_8p25 => ?_)
        · skip
          exact absurd hcn h_8p25
        · skip
          refine j_aload_n (pc := 28) C 0 0 rfl rfl dX9_dreamTillEmpty_28 ?_
          refine j_get (pc := 29) C (Or.inr ko) rfl fX9_dreamTillEmpty_X9 8 (by decide) (List.mem_of_getElem? (i := 1) rfl) (Or.inl rfl) rfl dX9_dreamTillEmpty_29 ?_
          refine j_get (pc := 32) C (Or.inl (List.mem_of_getElem? (i := 0) rfl)) rfl fX9_dreamTillEmpty_X2 0 (by decide) (List.mem_of_getElem? (i := 3) rfl) (Or.inl rfl) rfl dX9_dreamTillEmpty_32 ?_
          refine j_iload_n (pc := 35) C 2 2 rfl rfl dX9_dreamTillEmpty_35 ?_
          refine j_iald (pc := 36) C (Or.inl (List.mem_of_getElem? (i := 1) rfl)) rfl (by omega) (by decide) dX9_dreamTillEmpty_36 ?_
          have f_9 := (okS_go i3_2.1 hC hps hnp).1.1 c hcn
          refine j_if_ne (pc := 37) C 43 rfl (by omega) dX9_dreamTillEmpty_37 (fun h_10p37 => ?_) (fun h_10p37 => ?_)
          · skip
            refine j_iinc (pc := 43) (lc' := [(4, vI (i + 1)), (0, .ref (k 0)), (1, .ref ca), (2, vI c), (3, vI n)]) C 4 rfl (by decide) rfl dX9_dreamTillEmpty_43 ?_
            refine j_goto (pc := 46) C 3 rfl dX9_dreamTillEmpty_46 ?_
            refine j_locals (lc' := [(0, .ref (k 0)), (1, .ref ca), (2, vI c), (3, vI n), (4, vI (i + 1))]) [1, 2, 3, 4, 0] rfl ?_
            have eg : goS Cu ps np T = weeksS Cu ps np (i - 1 + 1) U := by rw [i3_1]; exact (weeksS_succ (by omega)).symm
            exact ih3 (i + 1) (goS Cu ps np T) (by omega) (by omega) (by rw [eg]; congr 1; omega) (by have := okS_go i3_2.1 hC hps hnp; exact ⟨this.1, by rw [this.2, i3_2.2]; omega⟩) (by have := fst_step (P := fun b => ms_h (weeksS Cu ps np (b + 1) U) c = 0) (i := i - 1) (by omega) i3_3 (by (try dsimp only); rw [← eg]; omega); rw [show i + 1 - 1 = i - 1 + 1 by omega]; exact this)
          · skip
            refine j_iload (pc := 40) C 4 rfl dX9_dreamTillEmpty_40 ?_
            have eg : goS Cu ps np T = weeksS Cu ps np (i - 1 + 1) U := by rw [i3_1]; exact (weeksS_succ (by omega)).symm
            have ed : drainI Cu np ps c n U = i - 1 := fst_hit (P := fun b => ms_h (weeksS Cu ps np (b + 1) U) c = 0) (by omega) (by omega) i3_3 (by (try dsimp only); rw [← eg]; omega)
            exact Rt _ _ _ _ _ _ (by decide) (by decide) ⟨by unfold tillI; rw [ed, if_neg (by omega)]; omega, _, rfl⟩ dX9_dreamTillEmpty_42
  refine j_locals (lc' := [(0, .ref (k 0)), (1, .ref ca), (2, vI c), (3, vI n), (4, vI 1)]) [1, 2, 3, 4, 0] rfl ?_
  exact hL3 _ 1 U (Nat.lt_succ_self _) (by omega) rfl ⟨hU, by omega⟩ rfl

theorem fX9_would_X2 : ∀ w ∈ u_ws RX2 TX2 8, w ∈ wsX9_would := j_words [156, 157, 158, 159, 160, 161, 162, 163] (by decide +kernel)
theorem fX9_would_X9 : ∀ w ∈ u_ws RX9 TX9 11, w ∈ wsX9_would := j_words [145, 146, 147, 148, 149, 150, 151, 152, 153, 154, 155] (by decide +kernel)
set_option maxHeartbeats 4000000 in
set_option maxRecDepth 100000 in
theorem k_would (l : Launch) (D : va_G) (Y : Nat → ClassId) (RO : va_W) (k : Nat → Nat) (nc : Int) (np : Int) (ik : Int) (cad : Int → Nat) (cs : Int → CT) (pad : Int → Nat) (ps : Int → PT) (S : MS) (U : MS) (cu : Int) (c : Int) (n : Int) (ko : ((k 0), oC 8 [.ref (k 1), .ref (k 2), vI nc, .ref (k 3), vI np, .ref (k 4), .ref (k 7), vI ik, .ref (k 10), .ref (k 13), .ref (k 14)]) ∈ RO) (kc : ((k 2), aQ (Y 2) 4 (orow nc cad)) ∈ RO) (hcc : ∀ i, 0 ≤ i ∧ i < nc → (cad i, oC 1 [vI (cw (cs i)), vI (cz (cs i)), vI (ce (cs i))]) ∈ RO) (kp : ((k 3), aQ (Y 3) 6 (orow np pad)) ∈ RO) (hpc : ∀ i, 0 ≤ i ∧ i < np → pC (pad i) (ps i) ∈ RO) (hS : okS S) (hw : ms_w S ≤ 9999) (hnc : 0 ≤ nc ∧ nc ≤ 4) (hcs : ∀ i, 0 ≤ i ∧ i < nc → okC (cs i)) (hnp : 0 ≤ np ∧ np ≤ 6) (hps : ∀ i, 0 ≤ i ∧ i < np → okP (ps i)) (hcu : -2147483648 ≤ cu ∧ cu ≤ 2147483647) (hc : -2147483648 ≤ c ∧ c ≤ 2147483647) (hn : -2147483648 ≤ n ∧ n ≤ 2147483647) : jMi l yX9_would wsX9_would { frames := 6, cells := 0, slots := 0, locals := 139 } D Y RO [.ref (k 0), vI cu, vI c, vI n] [((k 4), oC 2 [.ref (k 5), .ref (k 6), vI (ms_w S), vI (ms_l S), vI (ms_s S), vI (ms_a S), vI (ms_t S), vI (ms_p S)]), ((k 5), aI (Y 0) 7 (ms_h S)), ((k 6), aI (Y 0) 420 (ms_m S)), ((k 10), oC 2 [.ref (k 11), .ref (k 12), vI (ms_w U), vI (ms_l U), vI (ms_s U), vI (ms_a U), vI (ms_t U), vI (ms_p U)]), ((k 11), aI (Y 0) 7 (ms_h U)), ((k 12), aI (Y 0) 420 (ms_m U))] (fun e w1 => e = rWould cu c n nc cs np ps S ∧ ∃ V : MS, w1 = [((k 4), oC 2 [.ref (k 5), .ref (k 6), vI (ms_w S), vI (ms_l S), vI (ms_s S), vI (ms_a S), vI (ms_t S), vI (ms_p S)]), ((k 5), aI (Y 0) 7 (ms_h S)), ((k 6), aI (Y 0) 420 (ms_m S)), ((k 10), oC 2 [.ref (k 11), .ref (k 12), vI (ms_w V), vI (ms_l V), vI (ms_s V), vI (ms_a V), vI (ms_t V), vI (ms_p V)]), ((k 11), aI (Y 0) 7 (ms_h V)), ((k 12), aI (Y 0) 420 (ms_m V))]) := by
  refine j_ofi RX9 rfl rfl rfl (Nat.le_of_ble_eq_true rfl) (fun X C Rt => ?_)
  have hw0 := hS.w
  refine j_aload_n (pc := 0) C 0 0 rfl rfl dX9_would_0 ?_
  refine j_iload_n (pc := 1) C 1 1 rfl rfl dX9_would_1 ?_
  refine j_callVr (pc := 2) (As := [vI cu]) (na := 1) (st := []) C [] [0, 1, 2, 3, 4, 5] (wr := [((k 4), oC 2 [.ref (k 5), .ref (k 6), vI (ms_w S), vI (ms_l S), vI (ms_s S), vI (ms_a S), vI (ms_t S), vI (ms_p S)]), ((k 5), aI (Y 0) 7 (ms_h S)), ((k 6), aI (Y 0) 420 (ms_m S)), ((k 10), oC 2 [.ref (k 11), .ref (k 12), vI (ms_w U), vI (ms_l U), vI (ms_s U), vI (ms_a U), vI (ms_t U), vI (ms_p U)]), ((k 11), aI (Y 0) 7 (ms_h U)), ((k 12), aI (Y 0) 420 (ms_m U))]) (fun l => k_customAt l D Y _ k nc np ik cad cu (List.mem_append_right _ ko) (List.mem_append_right _ kc) (by first | assumption | omega) (by first | assumption | omega)) rfl rfl rfl rfl (by decide) rfl (Or.inr (List.mem_append_right _ ko)) rfl gX9_would_X9_customAt ⟨rfl, by decide +kernel⟩ (by decide) rfl rfl (Nat.le_of_ble_eq_true rfl) (by decide) dX9_would_2 (fun e_1 w_2 h_3 => ?_)
  obtain ⟨rfl, rfl⟩ := h_3
  refine j_perm (ws' := [((k 4), oC 2 [.ref (k 5), .ref (k 6), vI (ms_w S), vI (ms_l S), vI (ms_s S), vI (ms_a S), vI (ms_t S), vI (ms_p S)]), ((k 5), aI (Y 0) 7 (ms_h S)), ((k 6), aI (Y 0) 420 (ms_m S)), ((k 10), oC 2 [.ref (k 11), .ref (k 12), vI (ms_w U), vI (ms_l U), vI (ms_s U), vI (ms_a U), vI (ms_t U), vI (ms_p U)]), ((k 11), aI (Y 0) 7 (ms_h U)), ((k 12), aI (Y 0) 420 (ms_m U))]) [0, 1, 2, 3, 4, 5] rfl rfl ?_
  by_cases hq_4 : 0 ≤ cu ∧ cu < nc
  · rw [show orow nc cad cu = some (cad cu) from orow_in hq_4]
    have hc4 := hcc cu hq_4
    have hC4 := hcs cu hq_4
    refine j_astore (pc := 5) (lc' := [(4, .ref (cad cu)), (0, .ref (k 0)), (1, vI cu), (2, vI c), (3, vI n)]) C (by decide) rfl dX9_would_5 ?_
    refine j_aload (pc := 7) C 0 rfl dX9_would_7 ?_
    refine j_ifnull (pc := 9) C dX9_would_9 ?_
    refine j_iload_n (pc := 12) C 2 3 rfl rfl dX9_would_12 ?_
    refine j_callSi (pc := 13) (As := [vI c]) (na := 1) (st := []) C [] [0, 1, 2, 3, 4, 5] (wr := [((k 4), oC 2 [.ref (k 5), .ref (k 6), vI (ms_w S), vI (ms_l S), vI (ms_s S), vI (ms_a S), vI (ms_t S), vI (ms_p S)]), ((k 5), aI (Y 0) 7 (ms_h S)), ((k 6), aI (Y 0) 420 (ms_m S)), ((k 10), oC 2 [.ref (k 11), .ref (k 12), vI (ms_w U), vI (ms_l U), vI (ms_s U), vI (ms_a U), vI (ms_t U), vI (ms_p U)]), ((k 11), aI (Y 0) 7 (ms_h U)), ((k 12), aI (Y 0) 420 (ms_m U))]) (fun l => c_isCairn l D Y _ c (by first | assumption | omega)) rfl rfl rfl rfl (by decide) rfl gX9_would_X9_isCairn (by decide +kernel) (by decide) rfl rfl (Nat.le_of_ble_eq_true rfl) (by decide) dX9_would_13 (fun e_5 w_6 h_7 => ?_)
    obtain ⟨rfl, rfl⟩ := h_7
    refine j_perm (ws' := [((k 4), oC 2 [.ref (k 5), .ref (k 6), vI (ms_w S), vI (ms_l S), vI (ms_s S), vI (ms_a S), vI (ms_t S), vI (ms_p S)]), ((k 5), aI (Y 0) 7 (ms_h S)), ((k 6), aI (Y 0) 420 (ms_m S)), ((k 10), oC 2 [.ref (k 11), .ref (k 12), vI (ms_w U), vI (ms_l U), vI (ms_s U), vI (ms_a U), vI (ms_t U), vI (ms_p U)]), ((k 11), aI (Y 0) 7 (ms_h U)), ((k 12), aI (Y 0) 420 (ms_m U))]) [0, 1, 2, 3, 4, 5] rfl rfl ?_
    refine j_if_neb (pc := 16) C 22 rfl dX9_would_16 (fun h_8p16 => ?_) (fun h_8p16 => ?_)
    · skip
      refine j_iload_n (pc := 22) C 3 4 rfl rfl dX9_would_22 ?_
      refine j_if_lt (pc := 23) C 32 rfl (by omega) dX9_would_23 (fun h_9p23 => ?_) (fun h_9p23 => ?_)
      · skip
        refine j_bipush (pc := 32) (w := (-102)) C rfl dX9_would_32 ?_
        exact Rt _ _ _ _ _ _ (by decide) (by decide) ⟨by unfold rWould; rw [if_neg (by omega), if_pos (by omega)], _, rfl⟩ dX9_would_34
      · skip
        refine j_iload_n (pc := 26) C 3 4 rfl rfl dX9_would_26 ?_
        refine j_bipush (pc := 27) (w := 60) C rfl dX9_would_27 ?_
        refine j_icmp_le (pc := 29) C 35 rfl (by omega) dX9_would_29 (fun h_10p29 => ?_) (fun h_10p29 => ?_)
        · skip
          refine j_aload_n (pc := 35) C 0 1 rfl rfl dX9_would_35 ?_
          refine j_aload (pc := 36) C 0 rfl dX9_would_36 ?_
          refine j_iload_n (pc := 38) C 3 4 rfl rfl dX9_would_38 ?_
          refine j_callVv (pc := 39) (As := [.ref (cad cu), vI n]) (na := 2) (st := []) C [0, 1, 2, 3, 4, 5] [] (wr := []) (fun l => k_dreamOf l D Y _ k nc np ik cad cs pad ps S U (cad cu) (cs cu) n (List.mem_append_right _ ko) (List.mem_append_right _ kp) (fun i hi => List.mem_append_right _ (hpc i hi)) (List.mem_append_right _ hc4) (by first | assumption | omega) (by omega) (by first | assumption | omega) (by first | assumption | omega) (by first | assumption | omega) (by first | assumption | omega)) rfl rfl rfl rfl (by decide) rfl (Or.inr (List.mem_append_right _ ko)) rfl gX9_would_X9_dreamOf ⟨rfl, by decide +kernel⟩ (by decide) rfl rfl (Nat.le_of_ble_eq_true rfl) (by decide) dX9_would_39 (fun w_12 h_13 => ?_)
          subst h_13
          refine j_perm (ws' := [((k 4), oC 2 [.ref (k 5), .ref (k 6), vI (ms_w S), vI (ms_l S), vI (ms_s S), vI (ms_a S), vI (ms_t S), vI (ms_p S)]), ((k 5), aI (Y 0) 7 (ms_h S)), ((k 6), aI (Y 0) 420 (ms_m S)), ((k 10), oC 2 [.ref (k 11), .ref (k 12), vI (ms_w (weeksS (cs cu) ps np n S)), vI (ms_l (weeksS (cs cu) ps np n S)), vI (ms_s (weeksS (cs cu) ps np n S)), vI (ms_a (weeksS (cs cu) ps np n S)), vI (ms_t (weeksS (cs cu) ps np n S)), vI (ms_p (weeksS (cs cu) ps np n S))]), ((k 11), aI (Y 0) 7 (ms_h (weeksS (cs cu) ps np n S))), ((k 12), aI (Y 0) 420 (ms_m (weeksS (cs cu) ps np n S)))]) [0, 1, 2, 3, 4, 5] rfl rfl ?_
          refine j_aload_n (pc := 42) C 0 1 rfl rfl dX9_would_42 ?_
          refine j_get (pc := 43) C (Or.inr ko) rfl fX9_would_X9 8 (by decide) (List.mem_of_getElem? (i := 1) rfl) (Or.inl rfl) rfl dX9_would_43 ?_
          refine j_get (pc := 46) C (Or.inl (List.mem_of_getElem? (i := 3) rfl)) rfl fX9_would_X2 0 (by decide) (List.mem_of_getElem? (i := 2) rfl) (Or.inl rfl) rfl dX9_would_46 ?_
          refine j_iload_n (pc := 49) C 2 3 rfl rfl dX9_would_49 ?_
          refine j_iald (pc := 50) C (Or.inl (List.mem_of_getElem? (i := 4) rfl)) rfl (by omega) (by decide) dX9_would_50 ?_
          exact Rt _ _ _ _ _ _ (by decide) (by decide) ⟨by unfold rWould; rw [if_neg (by omega), if_neg (by omega)], _, rfl⟩ dX9_would_51
        · skip
          refine j_bipush (pc := 32) (w := (-102)) C rfl dX9_would_32 ?_
          exact Rt _ _ _ _ _ _ (by decide) (by decide) ⟨by unfold rWould; rw [if_neg (by omega), if_pos (by omega)], _, rfl⟩ dX9_would_34
    · skip
      refine j_bipush (pc := 19) (w := (-101)) C rfl dX9_would_19 ?_
      exact Rt _ _ _ _ _ _ (by decide) (by decide) ⟨by unfold rWould; rw [if_pos (by omega)], _, rfl⟩ dX9_would_21
  · rw [show orow nc cad cu = none from orow_out hq_4]
    refine j_astoreN (pc := 5) (lc' := [(4, .null), (0, .ref (k 0)), (1, vI cu), (2, vI c), (3, vI n)]) C (by decide) rfl dX9_would_5 ?_
    refine j_aloadN (pc := 7) C 0 rfl dX9_would_7 ?_
    refine j_ifnullN (pc := 9) C 19 rfl dX9_would_9 ?_
    refine j_bipush (pc := 19) (w := (-101)) C rfl dX9_would_19 ?_
    exact Rt _ _ _ _ _ _ (by decide) (by decide) ⟨by unfold rWould; rw [if_pos (by omega)], _, rfl⟩ dX9_would_21

theorem fX9_order_X9 : ∀ w ∈ u_ws RX9 TX9 11, w ∈ wsX9_order := j_words [11, 12, 13, 14, 15, 16, 17, 18, 19, 20, 21] (by decide +kernel)
set_option maxHeartbeats 4000000 in
set_option maxRecDepth 100000 in
theorem k_order (l : Launch) (D : va_G) (Y : Nat → ClassId) (RO : va_W) (k : Nat → Nat) (nc : Int) (np : Int) (ik : Int) (S : MS) (i : Int) (ko : ((k 0), oC 8 [.ref (k 1), .ref (k 2), vI nc, .ref (k 3), vI np, .ref (k 4), .ref (k 7), vI ik, .ref (k 10), .ref (k 13), .ref (k 14)]) ∈ RO) (n0 : ((k 4), oC 2 [.ref (k 5), .ref (k 6), vI (ms_w S), vI (ms_l S), vI (ms_s S), vI (ms_a S), vI (ms_t S), vI (ms_p S)]) ∈ RO) (n1 : ((k 5), aI (Y 0) 7 (ms_h S)) ∈ RO) (hS : okS S) (hi : -2147483648 ≤ i ∧ i ≤ 2147483647) : jMi l yX9_order wsX9_order { frames := 2, cells := 0, slots := 0, locals := 43 } D Y RO [.ref (k 0), vI i] [] (fun e w1 => e = rOrder i S ∧ w1 = []) := by
  refine j_ofi RX9 rfl rfl rfl (Nat.le_of_ble_eq_true rfl) (fun X C Rt => ?_)
  refine j_iload_n (pc := 0) C 1 1 rfl rfl dX9_order_0 ?_
  refine j_if_lt (pc := 1) C 10 rfl (by omega) dX9_order_1 (fun h_1p1 => ?_) (fun h_1p1 => ?_)
  · skip
    refine j_bipush (pc := 10) (w := (-102)) C rfl dX9_order_10 ?_
    exact Rt _ _ _ _ _ _ (by decide) (by decide) ⟨by unfold rOrder; rw [if_pos (by omega)], rfl⟩ dX9_order_12
  · skip
    refine j_iload_n (pc := 4) C 1 1 rfl rfl dX9_order_4 ?_
    refine j_bipush (pc := 5) (w := 7) C rfl dX9_order_5 ?_
    refine j_icmp_lt (pc := 7) C 13 rfl (by omega) dX9_order_7 (fun h_2p7 => ?_) (fun h_2p7 => ?_)
    · skip
      refine j_iconst (pc := 13) C dX9_order_13 ?_
      refine j_istore_n (pc := 14) (lc' := [(2, vI 0), (0, .ref (k 0)), (1, vI i)]) C 2 rfl (by decide) rfl dX9_order_14 ?_
      have hL15 : ∀ (N15 : Nat) (c : Int), ((7 - c).toNat) < N15 → (0 ≤ c ∧ c ≤ 7) → (fstI (fun c => aheadI (ms_h S) c = i) c = -1) → jW X 3 0 0 [] [(0, .ref (k 0)), (1, vI i), (2, vI c)] 15 [] := by
        intro N15
        induction N15 with
        | zero => intro c hm15 i15_0 i15_1; omega
        | succ N15 ih15 =>
          intro c hm15 i15_0 i15_1
          refine j_iload_n (pc := 15) C 2 2 rfl rfl dX9_order_15 ?_
          refine j_bipush (pc := 16) (w := 7) C rfl dX9_order_16 ?_
          refine j_icmp_ge (pc := 18) C 41 rfl (by omega) dX9_order_18 (fun h_3p18 => ?_) (fun h_3p18 => ?_)
          · skip
            refine j_iconst (pc := 41) C dX9_order_41 ?_
            exact Rt _ _ _ _ _ _ (by decide) (by decide) ⟨by unfold rOrder; rw [if_neg (by omega)]; rw [show c = 7 by omega] at i15_1; exact i15_1.symm, rfl⟩ dX9_order_42
          · skip
            refine j_aload_n (pc := 21) C 0 0 rfl rfl dX9_order_21 ?_
            refine j_get (pc := 22) C (Or.inr ko) rfl fX9_order_X9 5 (by decide) (List.mem_of_getElem? (i := 1) rfl) (Or.inl rfl) rfl dX9_order_22 ?_
            refine j_iload_n (pc := 25) C 2 2 rfl rfl dX9_order_25 ?_
            refine j_callVi (pc := 26) (As := [vI c]) (na := 1) (st := []) C [] [] (wr := []) (fun l => c_aheadOf l D Y _ (k 4) (k 5) (k 6) S c (List.mem_append_right _ n0) (List.mem_append_right _ n1) hS (by first | assumption | omega)) rfl rfl rfl rfl (by decide) rfl (Or.inr (List.mem_append_right _ n0)) rfl gX9_order_X2_aheadOf ⟨rfl, by decide +kernel⟩ (by decide) rfl rfl (Nat.le_of_ble_eq_true rfl) (by decide) dX9_order_26 (fun e_4 w_5 h_6 => ?_)
            obtain ⟨rfl, rfl⟩ := h_6
            refine j_perm (ws' := []) [] rfl rfl ?_
            refine j_iload_n (pc := 29) C 1 1 rfl rfl dX9_order_29 ?_
            refine j_icmp_ne (pc := 30) C 35 rfl (by have := aheadI_in (ms_h S) c; omega) dX9_order_30 (fun h_7p30 => ?_) (fun h_7p30 => ?_)
            · skip
              refine j_iinc (pc := 35) (lc' := [(2, vI (c + 1)), (0, .ref (k 0)), (1, vI i)]) C 2 rfl (by decide) rfl dX9_order_35 ?_
              refine j_goto (pc := 38) C 15 rfl dX9_order_38 ?_
              refine j_locals (lc' := [(0, .ref (k 0)), (1, vI i), (2, vI (c + 1))]) [1, 2, 0] rfl ?_
              exact ih15 (c + 1) (by omega) (by omega) (fst_step (P := fun c => aheadI (ms_h S) c = i) (by omega) i15_1 (by assumption))
            · skip
              refine j_iload_n (pc := 33) C 2 2 rfl rfl dX9_order_33 ?_
              exact Rt _ _ _ _ _ _ (by decide) (by decide) ⟨by unfold rOrder; rw [if_neg (by omega)]; exact (fst_hit (P := fun c => aheadI (ms_h S) c = i) (by omega) (by omega) i15_1 (by assumption)).symm, rfl⟩ dX9_order_34
      refine j_locals (lc' := [(0, .ref (k 0)), (1, vI i), (2, vI 0)]) [1, 2, 0] rfl ?_
      exact hL15 _ 0 (Nat.lt_succ_self _) (by omega) rfl
    · skip
      refine j_bipush (pc := 10) (w := (-102)) C rfl dX9_order_10 ?_
      exact Rt _ _ _ _ _ _ (by decide) (by decide) ⟨by unfold rOrder; rw [if_pos (by omega)], rfl⟩ dX9_order_12

theorem fX9_shows_X9 : ∀ w ∈ u_ws RX9 TX9 11, w ∈ wsX9_shows := j_words [149, 150, 151, 152, 153, 154, 155, 156, 157, 158, 159] (by decide +kernel)
set_option maxHeartbeats 4000000 in
set_option maxRecDepth 100000 in
theorem k_shows (l : Launch) (D : va_G) (Y : Nat → ClassId) (RO : va_W) (k : Nat → Nat) (nc : Int) (np : Int) (ik : Int) (cad : Int → Nat) (cs : Int → CT) (pad : Int → Nat) (ps : Int → PT) (S : MS) (U : MS) (cu : Int) (c : Int) (n : Int) (ko : ((k 0), oC 8 [.ref (k 1), .ref (k 2), vI nc, .ref (k 3), vI np, .ref (k 4), .ref (k 7), vI ik, .ref (k 10), .ref (k 13), .ref (k 14)]) ∈ RO) (kc : ((k 2), aQ (Y 2) 4 (orow nc cad)) ∈ RO) (hcc : ∀ i, 0 ≤ i ∧ i < nc → (cad i, oC 1 [vI (cw (cs i)), vI (cz (cs i)), vI (ce (cs i))]) ∈ RO) (kp : ((k 3), aQ (Y 3) 6 (orow np pad)) ∈ RO) (hpc : ∀ i, 0 ≤ i ∧ i < np → pC (pad i) (ps i) ∈ RO) (hS : okS S) (hw : ms_w S ≤ 9999) (hnc : 0 ≤ nc ∧ nc ≤ 4) (hcs : ∀ i, 0 ≤ i ∧ i < nc → okC (cs i)) (hnp : 0 ≤ np ∧ np ≤ 6) (hps : ∀ i, 0 ≤ i ∧ i < np → okP (ps i)) (hcu : -2147483648 ≤ cu ∧ cu ≤ 2147483647) (hc : -2147483648 ≤ c ∧ c ≤ 2147483647) (hn : -2147483648 ≤ n ∧ n ≤ 2147483647) : jMi l yX9_shows wsX9_shows { frames := 5, cells := 0, slots := 0, locals := 116 } D Y RO [.ref (k 0), vI cu, vI c, vI n] [((k 4), oC 2 [.ref (k 5), .ref (k 6), vI (ms_w S), vI (ms_l S), vI (ms_s S), vI (ms_a S), vI (ms_t S), vI (ms_p S)]), ((k 5), aI (Y 0) 7 (ms_h S)), ((k 6), aI (Y 0) 420 (ms_m S)), ((k 10), oC 2 [.ref (k 11), .ref (k 12), vI (ms_w U), vI (ms_l U), vI (ms_s U), vI (ms_a U), vI (ms_t U), vI (ms_p U)]), ((k 11), aI (Y 0) 7 (ms_h U)), ((k 12), aI (Y 0) 420 (ms_m U))] (fun e w1 => e = rShows cu c n nc cs np ps S ∧ ∃ V : MS, w1 = [((k 4), oC 2 [.ref (k 5), .ref (k 6), vI (ms_w S), vI (ms_l S), vI (ms_s S), vI (ms_a S), vI (ms_t S), vI (ms_p S)]), ((k 5), aI (Y 0) 7 (ms_h S)), ((k 6), aI (Y 0) 420 (ms_m S)), ((k 10), oC 2 [.ref (k 11), .ref (k 12), vI (ms_w V), vI (ms_l V), vI (ms_s V), vI (ms_a V), vI (ms_t V), vI (ms_p V)]), ((k 11), aI (Y 0) 7 (ms_h V)), ((k 12), aI (Y 0) 420 (ms_m V))]) := by
  refine j_ofi RX9 rfl rfl rfl (Nat.le_of_ble_eq_true rfl) (fun X C Rt => ?_)
  have hw0 := hS.w
  refine j_aload_n (pc := 0) C 0 0 rfl rfl dX9_shows_0 ?_
  refine j_iload_n (pc := 1) C 1 1 rfl rfl dX9_shows_1 ?_
  refine j_callVr (pc := 2) (As := [vI cu]) (na := 1) (st := []) C [] [0, 1, 2, 3, 4, 5] (wr := [((k 4), oC 2 [.ref (k 5), .ref (k 6), vI (ms_w S), vI (ms_l S), vI (ms_s S), vI (ms_a S), vI (ms_t S), vI (ms_p S)]), ((k 5), aI (Y 0) 7 (ms_h S)), ((k 6), aI (Y 0) 420 (ms_m S)), ((k 10), oC 2 [.ref (k 11), .ref (k 12), vI (ms_w U), vI (ms_l U), vI (ms_s U), vI (ms_a U), vI (ms_t U), vI (ms_p U)]), ((k 11), aI (Y 0) 7 (ms_h U)), ((k 12), aI (Y 0) 420 (ms_m U))]) (fun l => k_customAt l D Y _ k nc np ik cad cu (List.mem_append_right _ ko) (List.mem_append_right _ kc) (by first | assumption | omega) (by first | assumption | omega)) rfl rfl rfl rfl (by decide) rfl (Or.inr (List.mem_append_right _ ko)) rfl gX9_shows_X9_customAt ⟨rfl, by decide +kernel⟩ (by decide) rfl rfl (Nat.le_of_ble_eq_true rfl) (by decide) dX9_shows_2 (fun e_1 w_2 h_3 => ?_)
  obtain ⟨rfl, rfl⟩ := h_3
  refine j_perm (ws' := [((k 4), oC 2 [.ref (k 5), .ref (k 6), vI (ms_w S), vI (ms_l S), vI (ms_s S), vI (ms_a S), vI (ms_t S), vI (ms_p S)]), ((k 5), aI (Y 0) 7 (ms_h S)), ((k 6), aI (Y 0) 420 (ms_m S)), ((k 10), oC 2 [.ref (k 11), .ref (k 12), vI (ms_w U), vI (ms_l U), vI (ms_s U), vI (ms_a U), vI (ms_t U), vI (ms_p U)]), ((k 11), aI (Y 0) 7 (ms_h U)), ((k 12), aI (Y 0) 420 (ms_m U))]) [0, 1, 2, 3, 4, 5] rfl rfl ?_
  by_cases hq_4 : 0 ≤ cu ∧ cu < nc
  · rw [show orow nc cad cu = some (cad cu) from orow_in hq_4]
    have hc4 := hcc cu hq_4
    have hC4 := hcs cu hq_4
    refine j_astore (pc := 5) (lc' := [(4, .ref (cad cu)), (0, .ref (k 0)), (1, vI cu), (2, vI c), (3, vI n)]) C (by decide) rfl dX9_shows_5 ?_
    refine j_aload (pc := 7) C 0 rfl dX9_shows_7 ?_
    refine j_ifnull (pc := 9) C dX9_shows_9 ?_
    refine j_iload_n (pc := 12) C 2 3 rfl rfl dX9_shows_12 ?_
    refine j_callSi (pc := 13) (As := [vI c]) (na := 1) (st := []) C [] [0, 1, 2, 3, 4, 5] (wr := [((k 4), oC 2 [.ref (k 5), .ref (k 6), vI (ms_w S), vI (ms_l S), vI (ms_s S), vI (ms_a S), vI (ms_t S), vI (ms_p S)]), ((k 5), aI (Y 0) 7 (ms_h S)), ((k 6), aI (Y 0) 420 (ms_m S)), ((k 10), oC 2 [.ref (k 11), .ref (k 12), vI (ms_w U), vI (ms_l U), vI (ms_s U), vI (ms_a U), vI (ms_t U), vI (ms_p U)]), ((k 11), aI (Y 0) 7 (ms_h U)), ((k 12), aI (Y 0) 420 (ms_m U))]) (fun l => c_isCairn l D Y _ c (by first | assumption | omega)) rfl rfl rfl rfl (by decide) rfl gX9_shows_X9_isCairn (by decide +kernel) (by decide) rfl rfl (Nat.le_of_ble_eq_true rfl) (by decide) dX9_shows_13 (fun e_5 w_6 h_7 => ?_)
    obtain ⟨rfl, rfl⟩ := h_7
    refine j_perm (ws' := [((k 4), oC 2 [.ref (k 5), .ref (k 6), vI (ms_w S), vI (ms_l S), vI (ms_s S), vI (ms_a S), vI (ms_t S), vI (ms_p S)]), ((k 5), aI (Y 0) 7 (ms_h S)), ((k 6), aI (Y 0) 420 (ms_m S)), ((k 10), oC 2 [.ref (k 11), .ref (k 12), vI (ms_w U), vI (ms_l U), vI (ms_s U), vI (ms_a U), vI (ms_t U), vI (ms_p U)]), ((k 11), aI (Y 0) 7 (ms_h U)), ((k 12), aI (Y 0) 420 (ms_m U))]) [0, 1, 2, 3, 4, 5] rfl rfl ?_
    refine j_if_neb (pc := 16) C 22 rfl dX9_shows_16 (fun h_8p16 => ?_) (fun h_8p16 => ?_)
    · skip
      refine j_iload_n (pc := 22) C 3 4 rfl rfl dX9_shows_22 ?_
      refine j_if_lt (pc := 23) C 32 rfl (by omega) dX9_shows_23 (fun h_9p23 => ?_) (fun h_9p23 => ?_)
      · skip
        refine j_bipush (pc := 32) (w := (-102)) C rfl dX9_shows_32 ?_
        exact Rt _ _ _ _ _ _ (by decide) (by decide) ⟨by unfold rShows; rw [if_neg (by omega), if_pos (by omega)], _, rfl⟩ dX9_shows_34
      · skip
        refine j_iload_n (pc := 26) C 3 4 rfl rfl dX9_shows_26 ?_
        refine j_bipush (pc := 27) (w := 60) C rfl dX9_shows_27 ?_
        refine j_icmp_le (pc := 29) C 35 rfl (by omega) dX9_shows_29 (fun h_10p29 => ?_) (fun h_10p29 => ?_)
        · skip
          refine j_aload_n (pc := 35) C 0 1 rfl rfl dX9_shows_35 ?_
          refine j_get (pc := 36) C (Or.inr ko) rfl fX9_shows_X9 8 (by decide) (List.mem_of_getElem? (i := 1) rfl) (Or.inl rfl) rfl dX9_shows_36 ?_
          refine j_aload_n (pc := 39) C 0 1 rfl rfl dX9_shows_39 ?_
          refine j_get (pc := 40) C (Or.inr ko) rfl fX9_shows_X9 5 (by decide) (List.mem_of_getElem? (i := 2) rfl) (Or.inl rfl) rfl dX9_shows_40 ?_
          refine j_callVv (pc := 43) (As := [.ref (k 4)]) (na := 1) (st := []) C [3, 4, 5, 0, 1, 2] [] (wr := []) (fun l => c_become l D Y _ (k 10) (k 11) (k 12) U (k 4) (k 5) (k 6) S ) rfl rfl rfl rfl (by decide) rfl (Or.inl (List.mem_of_getElem? (i := 0) rfl)) rfl gX9_shows_X2_become ⟨rfl, by decide +kernel⟩ (by decide) rfl rfl (Nat.le_of_ble_eq_true rfl) (by decide) dX9_shows_43 (fun w_12 h_13 => ?_)
          subst h_13
          refine j_perm (ws' := [((k 4), oC 2 [.ref (k 5), .ref (k 6), vI (ms_w S), vI (ms_l S), vI (ms_s S), vI (ms_a S), vI (ms_t S), vI (ms_p S)]), ((k 5), aI (Y 0) 7 (ms_h S)), ((k 6), aI (Y 0) 420 (ms_m S)), ((k 10), oC 2 [.ref (k 11), .ref (k 12), vI (ms_w S), vI (ms_l S), vI (ms_s S), vI (ms_a S), vI (ms_t S), vI (ms_p S)]), ((k 11), aI (Y 0) 7 (ms_h S)), ((k 12), aI (Y 0) 420 (ms_m S))]) [3, 4, 5, 0, 1, 2] rfl rfl ?_
          refine j_aload_n (pc := 46) C 0 1 rfl rfl dX9_shows_46 ?_
          refine j_get (pc := 47) C (Or.inr ko) rfl fX9_shows_X9 8 (by decide) (List.mem_of_getElem? (i := 1) rfl) (Or.inl rfl) rfl dX9_shows_47 ?_
          refine j_iload_n (pc := 50) C 2 3 rfl rfl dX9_shows_50 ?_
          refine j_iload_n (pc := 51) C 3 4 rfl rfl dX9_shows_51 ?_
          refine j_callVv (pc := 52) (As := [vI c, vI n]) (na := 2) (st := []) C [3, 4, 5] [0, 1, 2] (wr := [((k 4), oC 2 [.ref (k 5), .ref (k 6), vI (ms_w S), vI (ms_l S), vI (ms_s S), vI (ms_a S), vI (ms_t S), vI (ms_p S)]), ((k 5), aI (Y 0) 7 (ms_h S)), ((k 6), aI (Y 0) 420 (ms_m S))]) (fun l => c_layNew l D Y _ (k 10) (k 11) (k 12) S c n hS (by first | assumption | omega) (by first | assumption | omega)) rfl rfl rfl rfl (by decide) rfl (Or.inl (List.mem_of_getElem? (i := 0) rfl)) rfl gX9_shows_X2_layNew ⟨rfl, by decide +kernel⟩ (by decide) rfl rfl (Nat.le_of_ble_eq_true rfl) (by decide) dX9_shows_52 (fun w_15 h_16 => ?_)
          subst h_16
          refine j_perm (ws' := [((k 4), oC 2 [.ref (k 5), .ref (k 6), vI (ms_w S), vI (ms_l S), vI (ms_s S), vI (ms_a S), vI (ms_t S), vI (ms_p S)]), ((k 5), aI (Y 0) 7 (ms_h S)), ((k 6), aI (Y 0) 420 (ms_m S)), ((k 10), oC 2 [.ref (k 11), .ref (k 12), vI (ms_w (layS c n S)), vI (ms_l (layS c n S)), vI (ms_s (layS c n S)), vI (ms_a (layS c n S)), vI (ms_t (layS c n S)), vI (ms_p (layS c n S))]), ((k 11), aI (Y 0) 7 (ms_h (layS c n S))), ((k 12), aI (Y 0) 420 (ms_m (layS c n S)))]) [0, 1, 2, 3, 4, 5] rfl rfl ?_
          refine j_iconst (pc := 55) C dX9_shows_55 ?_
          refine j_istore (pc := 56) (lc' := [(5, vI 0), (4, .ref (cad cu)), (0, .ref (k 0)), (1, vI cu), (2, vI c), (3, vI n)]) C (by decide) rfl dX9_shows_56 ?_
          have hL58 : ∀ (N58 : Nat) (b : Int) (T : MS), ((61 - b).toNat) < N58 → (0 ≤ b ∧ b ≤ 61) → ((b = 0 ∧ T = layS c n S) ∨ (0 < b ∧ T = weeksS (cs cu) ps np (b - 1) (layS c n S))) → (okS T ∧ ms_w T ≤ ms_w S + b) → (fstI (fun b => ¬ surI (ms_h (weeksS (cs cu) ps np b (layS c n S))) (ms_h (weeksS (cs cu) ps np b (layS c n S)) c - 1) c = 0) b = -1) → jW X 6 0 0 [((k 4), oC 2 [.ref (k 5), .ref (k 6), vI (ms_w S), vI (ms_l S), vI (ms_s S), vI (ms_a S), vI (ms_t S), vI (ms_p S)]), ((k 5), aI (Y 0) 7 (ms_h S)), ((k 6), aI (Y 0) 420 (ms_m S)), ((k 10), oC 2 [.ref (k 11), .ref (k 12), vI (ms_w T), vI (ms_l T), vI (ms_s T), vI (ms_a T), vI (ms_t T), vI (ms_p T)]), ((k 11), aI (Y 0) 7 (ms_h T)), ((k 12), aI (Y 0) 420 (ms_m T))] [(0, .ref (k 0)), (2, vI c), (4, .ref (cad cu)), (5, vI b)] 58 [] := by
            intro N58
            induction N58 with
            | zero => intro b T hm58 i58_0 i58_1 i58_2 i58_3; omega
            | succ N58 ih58 =>
              intro b T hm58 i58_0 i58_1 i58_2 i58_3
              refine j_iload (pc := 58) C 3 rfl dX9_shows_58 ?_
              refine j_bipush (pc := 60) (w := 60) C rfl dX9_shows_60 ?_
              refine j_icmp_gt (pc := 62) C 103 rfl (by omega) dX9_shows_62 (fun h_17p62 => ?_) (fun h_17p62 => ?_)
              · skip
                refine j_iconst (pc := 103) C dX9_shows_103 ?_
                exact Rt _ _ _ _ _ _ (by decide) (by decide) ⟨by unfold rShows; rw [if_neg (by omega), if_neg (by omega)]; rw [show b = 61 by omega] at i58_3; exact i58_3.symm, _, rfl⟩ dX9_shows_104
              · skip
                refine j_iload (pc := 65) C 3 rfl dX9_shows_65 ?_
                refine j_if_le (pc := 67) C 83 rfl (by omega) dX9_shows_67 (fun h_18p67 => ?_) (fun h_18p67 => ?_)
                · skip
                  have eT : T = weeksS (cs cu) ps np b (layS c n S) := by rcases i58_1 with q | q <;> first | omega | (rw [q.1]; exact q.2)
                  have kT : okS T ∧ ms_w T ≤ ms_w S + b := i58_2
                  refine j_aload_n (pc := 83) C 0 0 rfl rfl dX9_shows_83 ?_
                  refine j_get (pc := 84) C (Or.inr ko) rfl fX9_shows_X9 8 (by decide) (List.mem_of_getElem? (i := 1) rfl) (Or.inl rfl) rfl dX9_shows_84 ?_
                  refine j_iload_n (pc := 87) C 2 1 rfl rfl dX9_shows_87 ?_
                  refine j_callVi (pc := 88) (As := [vI c]) (na := 1) (st := []) C [] [0, 1, 2, 3, 4, 5] (wr := [((k 4), oC 2 [.ref (k 5), .ref (k 6), vI (ms_w S), vI (ms_l S), vI (ms_s S), vI (ms_a S), vI (ms_t S), vI (ms_p S)]), ((k 5), aI (Y 0) 7 (ms_h S)), ((k 6), aI (Y 0) 420 (ms_m S)), ((k 10), oC 2 [.ref (k 11), .ref (k 12), vI (ms_w T), vI (ms_l T), vI (ms_s T), vI (ms_a T), vI (ms_t T), vI (ms_p T)]), ((k 11), aI (Y 0) 7 (ms_h T)), ((k 12), aI (Y 0) 420 (ms_m T))]) (fun l => c_hasMostAlone l D Y _ (k 10) (k 11) (k 12) T c (List.mem_append_left _ (List.mem_of_getElem? (i := 3) rfl)) (List.mem_append_left _ (List.mem_of_getElem? (i := 4) rfl)) kT.1 (by first | assumption | omega)) rfl rfl rfl rfl (by decide) rfl (Or.inr (List.mem_append_left _ (List.mem_of_getElem? (i := 3) rfl))) rfl gX9_shows_X2_hasMostAlone ⟨rfl, by decide +kernel⟩ (by decide) rfl rfl (Nat.le_of_ble_eq_true rfl) (by decide) dX9_shows_88 (fun e_19 w_20 h_21 => ?_)
                  obtain ⟨rfl, rfl⟩ := h_21
                  refine j_perm (ws' := [((k 4), oC 2 [.ref (k 5), .ref (k 6), vI (ms_w S), vI (ms_l S), vI (ms_s S), vI (ms_a S), vI (ms_t S), vI (ms_p S)]), ((k 5), aI (Y 0) 7 (ms_h S)), ((k 6), aI (Y 0) 420 (ms_m S)), ((k 10), oC 2 [.ref (k 11), .ref (k 12), vI (ms_w T), vI (ms_l T), vI (ms_s T), vI (ms_a T), vI (ms_t T), vI (ms_p T)]), ((k 11), aI (Y 0) 7 (ms_h T)), ((k 12), aI (Y 0) 420 (ms_m T))]) [0, 1, 2, 3, 4, 5] rfl rfl ?_
                  refine j_if_neb (pc := 91) C 97 rfl dX9_shows_91 (fun h_22p91 => ?_) (fun h_22p91 => ?_)
                  · skip
                    refine j_iinc (pc := 97) (lc' := [(5, vI (b + 1)), (0, .ref (k 0)), (2, vI c), (4, .ref (cad cu))]) C 3 rfl (by decide) rfl dX9_shows_97 ?_
                    refine j_goto (pc := 100) C 58 rfl dX9_shows_100 ?_
                    refine j_locals (lc' := [(0, .ref (k 0)), (2, vI c), (4, .ref (cad cu)), (5, vI (b + 1))]) [1, 2, 3, 0] rfl ?_
                    exact ih58 (b + 1) T (by omega) (by omega) (Or.inr ⟨by omega, by rw [show b + 1 - 1 = b by omega]; exact eT⟩) ⟨kT.1, by omega⟩ (fst_step (P := (fun b => ¬ surI (ms_h (weeksS (cs cu) ps np b (layS c n S))) (ms_h (weeksS (cs cu) ps np b (layS c n S)) c - 1) c = 0)) (by omega) i58_3 (by (try dsimp only); rw [← eT]; exact not_not_intro (by assumption)))
                  · skip
                    refine j_iload (pc := 94) C 3 rfl dX9_shows_94 ?_
                    exact Rt _ _ _ _ _ _ (by decide) (by decide) ⟨by unfold rShows; rw [if_neg (by omega), if_neg (by omega)]; exact (fst_hit (P := (fun b => ¬ surI (ms_h (weeksS (cs cu) ps np b (layS c n S))) (ms_h (weeksS (cs cu) ps np b (layS c n S)) c - 1) c = 0)) (by omega) (by omega) i58_3 (by (try dsimp only); rw [← eT]; assumption)).symm, _, rfl⟩ dX9_shows_96
                · skip
                  refine j_aload_n (pc := 70) C 0 0 rfl rfl dX9_shows_70 ?_
                  refine j_get (pc := 71) C (Or.inr ko) rfl fX9_shows_X9 8 (by decide) (List.mem_of_getElem? (i := 1) rfl) (Or.inl rfl) rfl dX9_shows_71 ?_
                  refine j_aload (pc := 74) C 2 rfl dX9_shows_74 ?_
                  refine j_aload_n (pc := 76) C 0 0 rfl rfl dX9_shows_76 ?_
                  refine j_get (pc := 77) C (Or.inr ko) rfl fX9_shows_X9 3 (by decide) (List.mem_of_getElem? (i := 3) rfl) (Or.inl rfl) rfl dX9_shows_77 ?_
                  refine j_callVv (pc := 80) (As := [.ref (cad cu), .ref (k 3)]) (na := 2) (st := []) C [3, 4, 5] [0, 1, 2] (wr := [((k 4), oC 2 [.ref (k 5), .ref (k 6), vI (ms_w S), vI (ms_l S), vI (ms_s S), vI (ms_a S), vI (ms_t S), vI (ms_p S)]), ((k 5), aI (Y 0) 7 (ms_h S)), ((k 6), aI (Y 0) 420 (ms_m S))]) (fun l => c_goOneWeek l D Y _ (k 10) (k 11) (k 12) T (cad cu) (cs cu) (k 3) pad np ps (List.mem_append_right _ hc4) (List.mem_append_right _ kp) (fun i hi => List.mem_append_right _ (hpc i hi)) i58_2.1 (by first | assumption | omega) (by first | assumption | omega) (by first | assumption | omega) (by omega)) rfl rfl rfl rfl (by decide) rfl (Or.inl (List.mem_of_getElem? (i := 0) rfl)) rfl gX9_shows_X2_goOneWeek ⟨rfl, by decide +kernel⟩ (by decide) rfl rfl (Nat.le_of_ble_eq_true rfl) (by decide) dX9_shows_80 (fun w_24 h_25 => ?_)
                  subst h_25
                  refine j_perm (ws' := [((k 4), oC 2 [.ref (k 5), .ref (k 6), vI (ms_w S), vI (ms_l S), vI (ms_s S), vI (ms_a S), vI (ms_t S), vI (ms_p S)]), ((k 5), aI (Y 0) 7 (ms_h S)), ((k 6), aI (Y 0) 420 (ms_m S)), ((k 10), oC 2 [.ref (k 11), .ref (k 12), vI (ms_w (goS (cs cu) ps np T)), vI (ms_l (goS (cs cu) ps np T)), vI (ms_s (goS (cs cu) ps np T)), vI (ms_a (goS (cs cu) ps np T)), vI (ms_t (goS (cs cu) ps np T)), vI (ms_p (goS (cs cu) ps np T))]), ((k 11), aI (Y 0) 7 (ms_h (goS (cs cu) ps np T))), ((k 12), aI (Y 0) 420 (ms_m (goS (cs cu) ps np T)))]) [0, 1, 2, 3, 4, 5] rfl rfl ?_
                  have eT : (goS (cs cu) ps np T) = weeksS (cs cu) ps np b (layS c n S) := by rcases i58_1 with q | q <;> first | omega | (rw [q.2]; have e := (weeksS_succ (C := cs cu) (ps := ps) (np := np) (n := b - 1) (S := layS c n S) (by omega)).symm; rw [show b - 1 + 1 = b by omega] at e; exact e)
                  have kT : okS (goS (cs cu) ps np T) ∧ ms_w (goS (cs cu) ps np T) ≤ ms_w S + b + 1 := by have := okS_go i58_2.1 (by assumption) hps hnp; exact ⟨this.1, by rw [this.2]; omega⟩
                  refine j_aload_n (pc := 83) C 0 0 rfl rfl dX9_shows_83 ?_
                  refine j_get (pc := 84) C (Or.inr ko) rfl fX9_shows_X9 8 (by decide) (List.mem_of_getElem? (i := 1) rfl) (Or.inl rfl) rfl dX9_shows_84 ?_
                  refine j_iload_n (pc := 87) C 2 1 rfl rfl dX9_shows_87 ?_
                  refine j_callVi (pc := 88) (As := [vI c]) (na := 1) (st := []) C [] [0, 1, 2, 3, 4, 5] (wr := [((k 4), oC 2 [.ref (k 5), .ref (k 6), vI (ms_w S), vI (ms_l S), vI (ms_s S), vI (ms_a S), vI (ms_t S), vI (ms_p S)]), ((k 5), aI (Y 0) 7 (ms_h S)), ((k 6), aI (Y 0) 420 (ms_m S)), ((k 10), oC 2 [.ref (k 11), .ref (k 12), vI (ms_w (goS (cs cu) ps np T)), vI (ms_l (goS (cs cu) ps np T)), vI (ms_s (goS (cs cu) ps np T)), vI (ms_a (goS (cs cu) ps np T)), vI (ms_t (goS (cs cu) ps np T)), vI (ms_p (goS (cs cu) ps np T))]), ((k 11), aI (Y 0) 7 (ms_h (goS (cs cu) ps np T))), ((k 12), aI (Y 0) 420 (ms_m (goS (cs cu) ps np T)))]) (fun l => c_hasMostAlone l D Y _ (k 10) (k 11) (k 12) (goS (cs cu) ps np T) c (List.mem_append_left _ (List.mem_of_getElem? (i := 3) rfl)) (List.mem_append_left _ (List.mem_of_getElem? (i := 4) rfl)) kT.1 (by first | assumption | omega)) rfl rfl rfl rfl (by decide) rfl (Or.inr (List.mem_append_left _ (List.mem_of_getElem? (i := 3) rfl))) rfl gX9_shows_X2_hasMostAlone ⟨rfl, by decide +kernel⟩ (by decide) rfl rfl (Nat.le_of_ble_eq_true rfl) (by decide) dX9_shows_88 (fun e_26 w_27 h_28 => ?_)
                  obtain ⟨rfl, rfl⟩ := h_28
                  refine j_perm (ws' := [((k 4), oC 2 [.ref (k 5), .ref (k 6), vI (ms_w S), vI (ms_l S), vI (ms_s S), vI (ms_a S), vI (ms_t S), vI (ms_p S)]), ((k 5), aI (Y 0) 7 (ms_h S)), ((k 6), aI (Y 0) 420 (ms_m S)), ((k 10), oC 2 [.ref (k 11), .ref (k 12), vI (ms_w (goS (cs cu) ps np T)), vI (ms_l (goS (cs cu) ps np T)), vI (ms_s (goS (cs cu) ps np T)), vI (ms_a (goS (cs cu) ps np T)), vI (ms_t (goS (cs cu) ps np T)), vI (ms_p (goS (cs cu) ps np T))]), ((k 11), aI (Y 0) 7 (ms_h (goS (cs cu) ps np T))), ((k 12), aI (Y 0) 420 (ms_m (goS (cs cu) ps np T)))]) [0, 1, 2, 3, 4, 5] rfl rfl ?_
                  refine j_if_neb (pc := 91) C 97 rfl dX9_shows_91 (fun h_29p91 => ?_) (fun h_29p91 => ?_)
                  · skip
                    refine j_iinc (pc := 97) (lc' := [(5, vI (b + 1)), (0, .ref (k 0)), (2, vI c), (4, .ref (cad cu))]) C 3 rfl (by decide) rfl dX9_shows_97 ?_
                    refine j_goto (pc := 100) C 58 rfl dX9_shows_100 ?_
                    refine j_locals (lc' := [(0, .ref (k 0)), (2, vI c), (4, .ref (cad cu)), (5, vI (b + 1))]) [1, 2, 3, 0] rfl ?_
                    exact ih58 (b + 1) (goS (cs cu) ps np T) (by omega) (by omega) (Or.inr ⟨by omega, by rw [show b + 1 - 1 = b by omega]; exact eT⟩) ⟨kT.1, by omega⟩ (fst_step (P := (fun b => ¬ surI (ms_h (weeksS (cs cu) ps np b (layS c n S))) (ms_h (weeksS (cs cu) ps np b (layS c n S)) c - 1) c = 0)) (by omega) i58_3 (by (try dsimp only); rw [← eT]; exact not_not_intro (by assumption)))
                  · skip
                    refine j_iload (pc := 94) C 3 rfl dX9_shows_94 ?_
                    exact Rt _ _ _ _ _ _ (by decide) (by decide) ⟨by unfold rShows; rw [if_neg (by omega), if_neg (by omega)]; exact (fst_hit (P := (fun b => ¬ surI (ms_h (weeksS (cs cu) ps np b (layS c n S))) (ms_h (weeksS (cs cu) ps np b (layS c n S)) c - 1) c = 0)) (by omega) (by omega) i58_3 (by (try dsimp only); rw [← eT]; assumption)).symm, _, rfl⟩ dX9_shows_96
          refine j_locals (lc' := [(0, .ref (k 0)), (2, vI c), (4, .ref (cad cu)), (5, vI 0)]) [2, 4, 1, 0] rfl ?_
          exact hL58 _ 0 (layS c n S) (Nat.lt_succ_self _) (by omega) (Or.inl ⟨rfl, rfl⟩) ⟨okS_lay hS (by omega) (by omega), by rw [layS_w hS (by omega) (by omega)]; omega⟩ rfl
        · skip
          refine j_bipush (pc := 32) (w := (-102)) C rfl dX9_shows_32 ?_
          exact Rt _ _ _ _ _ _ (by decide) (by decide) ⟨by unfold rShows; rw [if_neg (by omega), if_pos (by omega)], _, rfl⟩ dX9_shows_34
    · skip
      refine j_bipush (pc := 19) (w := (-101)) C rfl dX9_shows_19 ?_
      exact Rt _ _ _ _ _ _ (by decide) (by decide) ⟨by unfold rShows; rw [if_pos (by omega)], _, rfl⟩ dX9_shows_21
  · rw [show orow nc cad cu = none from orow_out hq_4]
    refine j_astoreN (pc := 5) (lc' := [(4, .null), (0, .ref (k 0)), (1, vI cu), (2, vI c), (3, vI n)]) C (by decide) rfl dX9_shows_5 ?_
    refine j_aloadN (pc := 7) C 0 rfl dX9_shows_7 ?_
    refine j_ifnullN (pc := 9) C 19 rfl dX9_shows_9 ?_
    refine j_bipush (pc := 19) (w := (-101)) C rfl dX9_shows_19 ?_
    exact Rt _ _ _ _ _ _ (by decide) (by decide) ⟨by unfold rShows; rw [if_pos (by omega)], _, rfl⟩ dX9_shows_21

theorem fX9_gone_X2 : ∀ w ∈ u_ws RX2 TX2 8, w ∈ wsX9_gone := j_words [156, 157, 158, 159, 160, 161, 162, 163] (by decide +kernel)
theorem fX9_gone_X9 : ∀ w ∈ u_ws RX9 TX9 11, w ∈ wsX9_gone := j_words [145, 146, 147, 148, 149, 150, 151, 152, 153, 154, 155] (by decide +kernel)
set_option maxHeartbeats 4000000 in
set_option maxRecDepth 100000 in
theorem k_gone (l : Launch) (D : va_G) (Y : Nat → ClassId) (RO : va_W) (k : Nat → Nat) (nc : Int) (np : Int) (ik : Int) (cad : Int → Nat) (cs : Int → CT) (pad : Int → Nat) (ps : Int → PT) (S : MS) (U : MS) (cu : Int) (c : Int) (ko : ((k 0), oC 8 [.ref (k 1), .ref (k 2), vI nc, .ref (k 3), vI np, .ref (k 4), .ref (k 7), vI ik, .ref (k 10), .ref (k 13), .ref (k 14)]) ∈ RO) (kc : ((k 2), aQ (Y 2) 4 (orow nc cad)) ∈ RO) (hcc : ∀ i, 0 ≤ i ∧ i < nc → (cad i, oC 1 [vI (cw (cs i)), vI (cz (cs i)), vI (ce (cs i))]) ∈ RO) (kp : ((k 3), aQ (Y 3) 6 (orow np pad)) ∈ RO) (hpc : ∀ i, 0 ≤ i ∧ i < np → pC (pad i) (ps i) ∈ RO) (hS : okS S) (hw : ms_w S ≤ 9999) (hnc : 0 ≤ nc ∧ nc ≤ 4) (hcs : ∀ i, 0 ≤ i ∧ i < nc → okC (cs i)) (hnp : 0 ≤ np ∧ np ≤ 6) (hps : ∀ i, 0 ≤ i ∧ i < np → okP (ps i)) (hcu : -2147483648 ≤ cu ∧ cu ≤ 2147483647) (hc : -2147483648 ≤ c ∧ c ≤ 2147483647) : jMi l yX9_gone wsX9_gone { frames := 6, cells := 0, slots := 0, locals := 140 } D Y RO [.ref (k 0), vI cu, vI c] [((k 4), oC 2 [.ref (k 5), .ref (k 6), vI (ms_w S), vI (ms_l S), vI (ms_s S), vI (ms_a S), vI (ms_t S), vI (ms_p S)]), ((k 5), aI (Y 0) 7 (ms_h S)), ((k 6), aI (Y 0) 420 (ms_m S)), ((k 10), oC 2 [.ref (k 11), .ref (k 12), vI (ms_w U), vI (ms_l U), vI (ms_s U), vI (ms_a U), vI (ms_t U), vI (ms_p U)]), ((k 11), aI (Y 0) 7 (ms_h U)), ((k 12), aI (Y 0) 420 (ms_m U))] (fun e w1 => e = rGone cu c nc cs np ps S ∧ ∃ V : MS, w1 = [((k 4), oC 2 [.ref (k 5), .ref (k 6), vI (ms_w S), vI (ms_l S), vI (ms_s S), vI (ms_a S), vI (ms_t S), vI (ms_p S)]), ((k 5), aI (Y 0) 7 (ms_h S)), ((k 6), aI (Y 0) 420 (ms_m S)), ((k 10), oC 2 [.ref (k 11), .ref (k 12), vI (ms_w V), vI (ms_l V), vI (ms_s V), vI (ms_a V), vI (ms_t V), vI (ms_p V)]), ((k 11), aI (Y 0) 7 (ms_h V)), ((k 12), aI (Y 0) 420 (ms_m V))]) := by
  refine j_ofi RX9 rfl rfl rfl (Nat.le_of_ble_eq_true rfl) (fun X C Rt => ?_)
  have hw0 := hS.w
  refine j_aload_n (pc := 0) C 0 0 rfl rfl dX9_gone_0 ?_
  refine j_iload_n (pc := 1) C 1 1 rfl rfl dX9_gone_1 ?_
  refine j_callVr (pc := 2) (As := [vI cu]) (na := 1) (st := []) C [] [0, 1, 2, 3, 4, 5] (wr := [((k 4), oC 2 [.ref (k 5), .ref (k 6), vI (ms_w S), vI (ms_l S), vI (ms_s S), vI (ms_a S), vI (ms_t S), vI (ms_p S)]), ((k 5), aI (Y 0) 7 (ms_h S)), ((k 6), aI (Y 0) 420 (ms_m S)), ((k 10), oC 2 [.ref (k 11), .ref (k 12), vI (ms_w U), vI (ms_l U), vI (ms_s U), vI (ms_a U), vI (ms_t U), vI (ms_p U)]), ((k 11), aI (Y 0) 7 (ms_h U)), ((k 12), aI (Y 0) 420 (ms_m U))]) (fun l => k_customAt l D Y _ k nc np ik cad cu (List.mem_append_right _ ko) (List.mem_append_right _ kc) (by first | assumption | omega) (by first | assumption | omega)) rfl rfl rfl rfl (by decide) rfl (Or.inr (List.mem_append_right _ ko)) rfl gX9_gone_X9_customAt ⟨rfl, by decide +kernel⟩ (by decide) rfl rfl (Nat.le_of_ble_eq_true rfl) (by decide) dX9_gone_2 (fun e_1 w_2 h_3 => ?_)
  obtain ⟨rfl, rfl⟩ := h_3
  refine j_perm (ws' := [((k 4), oC 2 [.ref (k 5), .ref (k 6), vI (ms_w S), vI (ms_l S), vI (ms_s S), vI (ms_a S), vI (ms_t S), vI (ms_p S)]), ((k 5), aI (Y 0) 7 (ms_h S)), ((k 6), aI (Y 0) 420 (ms_m S)), ((k 10), oC 2 [.ref (k 11), .ref (k 12), vI (ms_w U), vI (ms_l U), vI (ms_s U), vI (ms_a U), vI (ms_t U), vI (ms_p U)]), ((k 11), aI (Y 0) 7 (ms_h U)), ((k 12), aI (Y 0) 420 (ms_m U))]) [0, 1, 2, 3, 4, 5] rfl rfl ?_
  by_cases hq_4 : 0 ≤ cu ∧ cu < nc
  · rw [show orow nc cad cu = some (cad cu) from orow_in hq_4]
    have hc4 := hcc cu hq_4
    have hC4 := hcs cu hq_4
    refine j_astore_n (pc := 5) (lc' := [(3, .ref (cad cu)), (0, .ref (k 0)), (1, vI cu), (2, vI c)]) C 3 rfl (by decide) rfl dX9_gone_5 ?_
    refine j_aload_n (pc := 6) C 3 0 rfl rfl dX9_gone_6 ?_
    refine j_ifnull (pc := 7) C dX9_gone_7 ?_
    refine j_iload_n (pc := 10) C 2 3 rfl rfl dX9_gone_10 ?_
    refine j_callSi (pc := 11) (As := [vI c]) (na := 1) (st := []) C [] [0, 1, 2, 3, 4, 5] (wr := [((k 4), oC 2 [.ref (k 5), .ref (k 6), vI (ms_w S), vI (ms_l S), vI (ms_s S), vI (ms_a S), vI (ms_t S), vI (ms_p S)]), ((k 5), aI (Y 0) 7 (ms_h S)), ((k 6), aI (Y 0) 420 (ms_m S)), ((k 10), oC 2 [.ref (k 11), .ref (k 12), vI (ms_w U), vI (ms_l U), vI (ms_s U), vI (ms_a U), vI (ms_t U), vI (ms_p U)]), ((k 11), aI (Y 0) 7 (ms_h U)), ((k 12), aI (Y 0) 420 (ms_m U))]) (fun l => c_isCairn l D Y _ c (by first | assumption | omega)) rfl rfl rfl rfl (by decide) rfl gX9_gone_X9_isCairn (by decide +kernel) (by decide) rfl rfl (Nat.le_of_ble_eq_true rfl) (by decide) dX9_gone_11 (fun e_5 w_6 h_7 => ?_)
    obtain ⟨rfl, rfl⟩ := h_7
    refine j_perm (ws' := [((k 4), oC 2 [.ref (k 5), .ref (k 6), vI (ms_w S), vI (ms_l S), vI (ms_s S), vI (ms_a S), vI (ms_t S), vI (ms_p S)]), ((k 5), aI (Y 0) 7 (ms_h S)), ((k 6), aI (Y 0) 420 (ms_m S)), ((k 10), oC 2 [.ref (k 11), .ref (k 12), vI (ms_w U), vI (ms_l U), vI (ms_s U), vI (ms_a U), vI (ms_t U), vI (ms_p U)]), ((k 11), aI (Y 0) 7 (ms_h U)), ((k 12), aI (Y 0) 420 (ms_m U))]) [0, 1, 2, 3, 4, 5] rfl rfl ?_
    refine j_if_neb (pc := 14) C 20 rfl dX9_gone_14 (fun h_8p14 => ?_) (fun h_8p14 => ?_)
    · skip
      refine j_aload_n (pc := 20) C 0 1 rfl rfl dX9_gone_20 ?_
      refine j_get (pc := 21) C (Or.inr ko) rfl fX9_gone_X9 8 (by decide) (List.mem_of_getElem? (i := 1) rfl) (Or.inl rfl) rfl dX9_gone_21 ?_
      refine j_aload_n (pc := 24) C 0 1 rfl rfl dX9_gone_24 ?_
      refine j_get (pc := 25) C (Or.inr ko) rfl fX9_gone_X9 5 (by decide) (List.mem_of_getElem? (i := 2) rfl) (Or.inl rfl) rfl dX9_gone_25 ?_
      refine j_callVv (pc := 28) (As := [.ref (k 4)]) (na := 1) (st := []) C [3, 4, 5, 0, 1, 2] [] (wr := []) (fun l => c_become l D Y _ (k 10) (k 11) (k 12) U (k 4) (k 5) (k 6) S ) rfl rfl rfl rfl (by decide) rfl (Or.inl (List.mem_of_getElem? (i := 0) rfl)) rfl gX9_gone_X2_become ⟨rfl, by decide +kernel⟩ (by decide) rfl rfl (Nat.le_of_ble_eq_true rfl) (by decide) dX9_gone_28 (fun w_10 h_11 => ?_)
      subst h_11
      refine j_perm (ws' := [((k 4), oC 2 [.ref (k 5), .ref (k 6), vI (ms_w S), vI (ms_l S), vI (ms_s S), vI (ms_a S), vI (ms_t S), vI (ms_p S)]), ((k 5), aI (Y 0) 7 (ms_h S)), ((k 6), aI (Y 0) 420 (ms_m S)), ((k 10), oC 2 [.ref (k 11), .ref (k 12), vI (ms_w S), vI (ms_l S), vI (ms_s S), vI (ms_a S), vI (ms_t S), vI (ms_p S)]), ((k 11), aI (Y 0) 7 (ms_h S)), ((k 12), aI (Y 0) 420 (ms_m S))]) [3, 4, 5, 0, 1, 2] rfl rfl ?_
      refine j_aload_n (pc := 31) C 0 1 rfl rfl dX9_gone_31 ?_
      refine j_get (pc := 32) C (Or.inr ko) rfl fX9_gone_X9 8 (by decide) (List.mem_of_getElem? (i := 1) rfl) (Or.inl rfl) rfl dX9_gone_32 ?_
      refine j_get (pc := 35) C (Or.inl (List.mem_of_getElem? (i := 3) rfl)) rfl fX9_gone_X2 0 (by decide) (List.mem_of_getElem? (i := 3) rfl) (Or.inl rfl) rfl dX9_gone_35 ?_
      refine j_iload_n (pc := 38) C 2 3 rfl rfl dX9_gone_38 ?_
      refine j_iald (pc := 39) C (Or.inl (List.mem_of_getElem? (i := 4) rfl)) rfl (by omega) (by decide) dX9_gone_39 ?_
      have f_12 := hS.1 c (by omega)
      refine j_if_ne (pc := 40) C 45 rfl (by omega) dX9_gone_40 (fun h_13p40 => ?_) (fun h_13p40 => ?_)
      · skip
        refine j_aload_n (pc := 45) C 0 1 rfl rfl dX9_gone_45 ?_
        refine j_aload_n (pc := 46) C 3 0 rfl rfl dX9_gone_46 ?_
        refine j_iload_n (pc := 47) C 2 3 rfl rfl dX9_gone_47 ?_
        refine j_bipush (pc := 48) (w := 60) C rfl dX9_gone_48 ?_
        refine j_callVi (pc := 50) (As := [.ref (cad cu), vI c, vI 60]) (na := 3) (st := []) C [3, 4, 5] [0, 1, 2] (wr := [((k 4), oC 2 [.ref (k 5), .ref (k 6), vI (ms_w S), vI (ms_l S), vI (ms_s S), vI (ms_a S), vI (ms_t S), vI (ms_p S)]), ((k 5), aI (Y 0) 7 (ms_h S)), ((k 6), aI (Y 0) 420 (ms_m S))]) (fun l => k_dreamTillEmpty l D Y _ k nc np ik cad cs pad ps S (cad cu) (cs cu) c 60 (List.mem_append_right _ ko) (List.mem_append_right _ kp) (fun i hi => List.mem_append_right _ (hpc i hi)) (List.mem_append_right _ hc4) hS (by omega) (by first | assumption | omega) (by first | assumption | omega) (by first | assumption | omega) (by first | assumption | omega) (by decide)) rfl rfl rfl rfl (by decide) rfl (Or.inr (List.mem_append_right _ ko)) rfl gX9_gone_X9_dreamTillEmpty ⟨rfl, by decide +kernel⟩ (by decide) rfl rfl (Nat.le_of_ble_eq_true rfl) (by decide) dX9_gone_50 (fun e_14 w_15 h_16 => ?_)
        obtain ⟨rfl, V_17, rfl⟩ := h_16
        refine j_perm (ws' := [((k 4), oC 2 [.ref (k 5), .ref (k 6), vI (ms_w S), vI (ms_l S), vI (ms_s S), vI (ms_a S), vI (ms_t S), vI (ms_p S)]), ((k 5), aI (Y 0) 7 (ms_h S)), ((k 6), aI (Y 0) 420 (ms_m S)), ((k 10), oC 2 [.ref (k 11), .ref (k 12), vI (ms_w V_17), vI (ms_l V_17), vI (ms_s V_17), vI (ms_a V_17), vI (ms_t V_17), vI (ms_p V_17)]), ((k 11), aI (Y 0) 7 (ms_h V_17)), ((k 12), aI (Y 0) 420 (ms_m V_17))]) [0, 1, 2, 3, 4, 5] rfl rfl ?_
        refine j_istore (pc := 53) (lc' := [(4, vI (tillI (cs cu) np ps c 60 S)), (3, .ref (cad cu)), (0, .ref (k 0)), (1, vI cu), (2, vI c)]) C (by decide) rfl dX9_gone_53 ?_
        refine j_iload (pc := 55) C 0 rfl dX9_gone_55 ?_
        have hti := tillI_in (cs cu) np ps c S (n := 60) (by decide)
        refine j_bipush (pc := 57) (w := 60) C rfl dX9_gone_57 ?_
        refine j_icmp_le (pc := 59) C 66 rfl (by omega) dX9_gone_59 (fun h_18p59 => ?_) (fun h_18p59 => ?_)
        · skip
          refine j_iload (pc := 66) C 0 rfl dX9_gone_66 ?_
          exact Rt _ _ _ _ _ _ (by decide) (by decide) ⟨by unfold rGone; rw [if_neg (by omega), gone_till (by assumption)]; first | rw [if_pos (by omega)] | rw [if_neg (by omega)], _, rfl⟩ dX9_gone_68
        · skip
          refine j_iconst (pc := 62) C dX9_gone_62 ?_
          refine j_goto (pc := 63) C 68 rfl dX9_gone_63 ?_
          exact Rt _ _ _ _ _ _ (by decide) (by decide) ⟨by unfold rGone; rw [if_neg (by omega), gone_till (by assumption)]; first | rw [if_pos (by omega)] | rw [if_neg (by omega)], _, rfl⟩ dX9_gone_68
      · skip
        refine j_iconst (pc := 43) C dX9_gone_43 ?_
        exact Rt _ _ _ _ _ _ (by decide) (by decide) ⟨by unfold rGone; rw [if_neg (by omega)]; exact (fst_hit (P := fun b => ms_h (weeksS (cs cu) ps np b S) c = 0) (i := 0) (by decide) (by decide) rfl (by assumption)).symm, _, rfl⟩ dX9_gone_44
    · skip
      refine j_bipush (pc := 17) (w := (-101)) C rfl dX9_gone_17 ?_
      exact Rt _ _ _ _ _ _ (by decide) (by decide) ⟨by unfold rGone; rw [if_pos (by omega)], _, rfl⟩ dX9_gone_19
  · rw [show orow nc cad cu = none from orow_out hq_4]
    refine j_astore_nN (pc := 5) (lc' := [(3, .null), (0, .ref (k 0)), (1, vI cu), (2, vI c)]) C 3 rfl (by decide) rfl dX9_gone_5 ?_
    refine j_aload_nN (pc := 6) C 3 0 rfl rfl dX9_gone_6 ?_
    refine j_ifnullN (pc := 7) C 17 rfl dX9_gone_7 ?_
    refine j_bipush (pc := 17) (w := (-101)) C rfl dX9_gone_17 ?_
    exact Rt _ _ _ _ _ _ (by decide) (by decide) ⟨by unfold rGone; rw [if_pos (by omega)], _, rfl⟩ dX9_gone_19

theorem fX9_saved_X2 : ∀ w ∈ u_ws RX2 TX2 8, w ∈ wsX9_saved := j_words [157, 158, 159, 160, 161, 162, 163, 164] (by decide +kernel)
theorem fX9_saved_X9 : ∀ w ∈ u_ws RX9 TX9 11, w ∈ wsX9_saved := j_words [146, 147, 148, 149, 150, 151, 152, 153, 154, 155, 156] (by decide +kernel)
set_option maxHeartbeats 4000000 in
set_option maxRecDepth 100000 in
theorem k_saved (l : Launch) (D : va_G) (Y : Nat → ClassId) (RO : va_W) (k : Nat → Nat) (nc : Int) (np : Int) (ik : Int) (cad : Int → Nat) (cs : Int → CT) (pad : Int → Nat) (ps : Int → PT) (S : MS) (U : MS) (cu : Int) (c : Int) (n : Int) (ko : ((k 0), oC 8 [.ref (k 1), .ref (k 2), vI nc, .ref (k 3), vI np, .ref (k 4), .ref (k 7), vI ik, .ref (k 10), .ref (k 13), .ref (k 14)]) ∈ RO) (kc : ((k 2), aQ (Y 2) 4 (orow nc cad)) ∈ RO) (hcc : ∀ i, 0 ≤ i ∧ i < nc → (cad i, oC 1 [vI (cw (cs i)), vI (cz (cs i)), vI (ce (cs i))]) ∈ RO) (kp : ((k 3), aQ (Y 3) 6 (orow np pad)) ∈ RO) (hpc : ∀ i, 0 ≤ i ∧ i < np → pC (pad i) (ps i) ∈ RO) (hS : okS S) (hw : ms_w S ≤ 9999) (hnc : 0 ≤ nc ∧ nc ≤ 4) (hcs : ∀ i, 0 ≤ i ∧ i < nc → okC (cs i)) (hnp : 0 ≤ np ∧ np ≤ 6) (hps : ∀ i, 0 ≤ i ∧ i < np → okP (ps i)) (hcu : -2147483648 ≤ cu ∧ cu ≤ 2147483647) (hc : -2147483648 ≤ c ∧ c ≤ 2147483647) (hn : -2147483648 ≤ n ∧ n ≤ 2147483647) : jMi l yX9_saved wsX9_saved { frames := 6, cells := 0, slots := 0, locals := 140 } D Y RO [.ref (k 0), vI cu, vI c, vI n] [((k 4), oC 2 [.ref (k 5), .ref (k 6), vI (ms_w S), vI (ms_l S), vI (ms_s S), vI (ms_a S), vI (ms_t S), vI (ms_p S)]), ((k 5), aI (Y 0) 7 (ms_h S)), ((k 6), aI (Y 0) 420 (ms_m S)), ((k 10), oC 2 [.ref (k 11), .ref (k 12), vI (ms_w U), vI (ms_l U), vI (ms_s U), vI (ms_a U), vI (ms_t U), vI (ms_p U)]), ((k 11), aI (Y 0) 7 (ms_h U)), ((k 12), aI (Y 0) 420 (ms_m U))] (fun e w1 => e = rSaved cu c n nc cs np ps S ∧ ∃ V : MS, w1 = [((k 4), oC 2 [.ref (k 5), .ref (k 6), vI (ms_w S), vI (ms_l S), vI (ms_s S), vI (ms_a S), vI (ms_t S), vI (ms_p S)]), ((k 5), aI (Y 0) 7 (ms_h S)), ((k 6), aI (Y 0) 420 (ms_m S)), ((k 10), oC 2 [.ref (k 11), .ref (k 12), vI (ms_w V), vI (ms_l V), vI (ms_s V), vI (ms_a V), vI (ms_t V), vI (ms_p V)]), ((k 11), aI (Y 0) 7 (ms_h V)), ((k 12), aI (Y 0) 420 (ms_m V))]) := by
  refine j_ofi RX9 rfl rfl rfl (Nat.le_of_ble_eq_true rfl) (fun X C Rt => ?_)
  have hw0 := hS.w
  refine j_aload_n (pc := 0) C 0 0 rfl rfl dX9_saved_0 ?_
  refine j_iload_n (pc := 1) C 1 1 rfl rfl dX9_saved_1 ?_
  refine j_callVr (pc := 2) (As := [vI cu]) (na := 1) (st := []) C [] [0, 1, 2, 3, 4, 5] (wr := [((k 4), oC 2 [.ref (k 5), .ref (k 6), vI (ms_w S), vI (ms_l S), vI (ms_s S), vI (ms_a S), vI (ms_t S), vI (ms_p S)]), ((k 5), aI (Y 0) 7 (ms_h S)), ((k 6), aI (Y 0) 420 (ms_m S)), ((k 10), oC 2 [.ref (k 11), .ref (k 12), vI (ms_w U), vI (ms_l U), vI (ms_s U), vI (ms_a U), vI (ms_t U), vI (ms_p U)]), ((k 11), aI (Y 0) 7 (ms_h U)), ((k 12), aI (Y 0) 420 (ms_m U))]) (fun l => k_customAt l D Y _ k nc np ik cad cu (List.mem_append_right _ ko) (List.mem_append_right _ kc) (by first | assumption | omega) (by first | assumption | omega)) rfl rfl rfl rfl (by decide) rfl (Or.inr (List.mem_append_right _ ko)) rfl gX9_saved_X9_customAt ⟨rfl, by decide +kernel⟩ (by decide) rfl rfl (Nat.le_of_ble_eq_true rfl) (by decide) dX9_saved_2 (fun e_1 w_2 h_3 => ?_)
  obtain ⟨rfl, rfl⟩ := h_3
  refine j_perm (ws' := [((k 4), oC 2 [.ref (k 5), .ref (k 6), vI (ms_w S), vI (ms_l S), vI (ms_s S), vI (ms_a S), vI (ms_t S), vI (ms_p S)]), ((k 5), aI (Y 0) 7 (ms_h S)), ((k 6), aI (Y 0) 420 (ms_m S)), ((k 10), oC 2 [.ref (k 11), .ref (k 12), vI (ms_w U), vI (ms_l U), vI (ms_s U), vI (ms_a U), vI (ms_t U), vI (ms_p U)]), ((k 11), aI (Y 0) 7 (ms_h U)), ((k 12), aI (Y 0) 420 (ms_m U))]) [0, 1, 2, 3, 4, 5] rfl rfl ?_
  by_cases hq_4 : 0 ≤ cu ∧ cu < nc
  · rw [show orow nc cad cu = some (cad cu) from orow_in hq_4]
    have hc4 := hcc cu hq_4
    have hC4 := hcs cu hq_4
    refine j_astore (pc := 5) (lc' := [(4, .ref (cad cu)), (0, .ref (k 0)), (1, vI cu), (2, vI c), (3, vI n)]) C (by decide) rfl dX9_saved_5 ?_
    refine j_aload (pc := 7) C 0 rfl dX9_saved_7 ?_
    refine j_ifnull (pc := 9) C dX9_saved_9 ?_
    refine j_iload_n (pc := 12) C 2 3 rfl rfl dX9_saved_12 ?_
    refine j_callSi (pc := 13) (As := [vI c]) (na := 1) (st := []) C [] [0, 1, 2, 3, 4, 5] (wr := [((k 4), oC 2 [.ref (k 5), .ref (k 6), vI (ms_w S), vI (ms_l S), vI (ms_s S), vI (ms_a S), vI (ms_t S), vI (ms_p S)]), ((k 5), aI (Y 0) 7 (ms_h S)), ((k 6), aI (Y 0) 420 (ms_m S)), ((k 10), oC 2 [.ref (k 11), .ref (k 12), vI (ms_w U), vI (ms_l U), vI (ms_s U), vI (ms_a U), vI (ms_t U), vI (ms_p U)]), ((k 11), aI (Y 0) 7 (ms_h U)), ((k 12), aI (Y 0) 420 (ms_m U))]) (fun l => c_isCairn l D Y _ c (by first | assumption | omega)) rfl rfl rfl rfl (by decide) rfl gX9_saved_X9_isCairn (by decide +kernel) (by decide) rfl rfl (Nat.le_of_ble_eq_true rfl) (by decide) dX9_saved_13 (fun e_5 w_6 h_7 => ?_)
    obtain ⟨rfl, rfl⟩ := h_7
    refine j_perm (ws' := [((k 4), oC 2 [.ref (k 5), .ref (k 6), vI (ms_w S), vI (ms_l S), vI (ms_s S), vI (ms_a S), vI (ms_t S), vI (ms_p S)]), ((k 5), aI (Y 0) 7 (ms_h S)), ((k 6), aI (Y 0) 420 (ms_m S)), ((k 10), oC 2 [.ref (k 11), .ref (k 12), vI (ms_w U), vI (ms_l U), vI (ms_s U), vI (ms_a U), vI (ms_t U), vI (ms_p U)]), ((k 11), aI (Y 0) 7 (ms_h U)), ((k 12), aI (Y 0) 420 (ms_m U))]) [0, 1, 2, 3, 4, 5] rfl rfl ?_
    refine j_if_neb (pc := 16) C 22 rfl dX9_saved_16 (fun h_8p16 => ?_) (fun h_8p16 => ?_)
    · skip
      refine j_iload_n (pc := 22) C 3 4 rfl rfl dX9_saved_22 ?_
      refine j_iconst (pc := 23) C dX9_saved_23 ?_
      refine j_icmp_lt (pc := 24) C 33 rfl (by omega) dX9_saved_24 (fun h_9p24 => ?_) (fun h_9p24 => ?_)
      · skip
        refine j_bipush (pc := 33) (w := (-102)) C rfl dX9_saved_33 ?_
        exact Rt _ _ _ _ _ _ (by decide) (by decide) ⟨by unfold rSaved; rw [if_neg (by omega), if_pos (by omega)], _, rfl⟩ dX9_saved_35
      · skip
        refine j_iload_n (pc := 27) C 3 4 rfl rfl dX9_saved_27 ?_
        refine j_bipush (pc := 28) (w := 60) C rfl dX9_saved_28 ?_
        refine j_icmp_le (pc := 30) C 36 rfl (by omega) dX9_saved_30 (fun h_10p30 => ?_) (fun h_10p30 => ?_)
        · skip
          refine j_bipush (pc := 36) (w := 60) C rfl dX9_saved_36 ?_
          refine j_aload_n (pc := 38) C 0 1 rfl rfl dX9_saved_38 ?_
          refine j_get (pc := 39) C (Or.inr ko) rfl fX9_saved_X9 5 (by decide) (List.mem_of_getElem? (i := 1) rfl) (Or.inl rfl) rfl dX9_saved_39 ?_
          refine j_get (pc := 42) C (Or.inl (List.mem_of_getElem? (i := 0) rfl)) rfl fX9_saved_X2 0 (by decide) (List.mem_of_getElem? (i := 2) rfl) (Or.inl rfl) rfl dX9_saved_42 ?_
          refine j_iload_n (pc := 45) C 2 3 rfl rfl dX9_saved_45 ?_
          refine j_iald (pc := 46) C (Or.inl (List.mem_of_getElem? (i := 1) rfl)) rfl (by omega) (by decide) dX9_saved_46 ?_
          have f_11 := hS.1 c (by omega)
          refine j_isub (pc := 47) C dX9_saved_47 ?_
          refine j_istore (pc := 48) (lc' := [(5, vI (60 - ms_h S c)), (4, .ref (cad cu)), (0, .ref (k 0)), (1, vI cu), (2, vI c), (3, vI n)]) C (by decide) rfl dX9_saved_48 ?_
          refine j_iconst (pc := 50) C dX9_saved_50 ?_
          refine j_istore (pc := 51) (lc' := [(6, vI 0), (5, vI (60 - ms_h S c)), (4, .ref (cad cu)), (0, .ref (k 0)), (1, vI cu), (2, vI c), (3, vI n)]) C (by decide) rfl dX9_saved_51 ?_
          have hL53 : ∀ (N53 : Nat) (m : Int) (V : MS), ((61 - m).toNat) < N53 → (0 ≤ m ∧ m ≤ 61) → (m ≤ 60 - ms_h S c + 1) → (fstI (fun m => drainI (cs cu) np ps c n (layS c m S) = -1) m = -1) → jW X 7 0 0 [((k 4), oC 2 [.ref (k 5), .ref (k 6), vI (ms_w S), vI (ms_l S), vI (ms_s S), vI (ms_a S), vI (ms_t S), vI (ms_p S)]), ((k 5), aI (Y 0) 7 (ms_h S)), ((k 6), aI (Y 0) 420 (ms_m S)), ((k 10), oC 2 [.ref (k 11), .ref (k 12), vI (ms_w V), vI (ms_l V), vI (ms_s V), vI (ms_a V), vI (ms_t V), vI (ms_p V)]), ((k 11), aI (Y 0) 7 (ms_h V)), ((k 12), aI (Y 0) 420 (ms_m V))] [(0, .ref (k 0)), (2, vI c), (3, vI n), (4, .ref (cad cu)), (5, vI (60 - ms_h S c)), (6, vI m)] 53 [] := by
            intro N53
            induction N53 with
            | zero => intro m V hm53 i53_0 i53_1 i53_2; omega
            | succ N53 ih53 =>
              intro m V hm53 i53_0 i53_1 i53_2
              refine j_iload (pc := 53) C 5 rfl dX9_saved_53 ?_
              refine j_iload (pc := 55) C 4 rfl dX9_saved_55 ?_
              refine j_icmp_gt (pc := 57) C 109 rfl (by omega) dX9_saved_57 (fun h_12p57 => ?_) (fun h_12p57 => ?_)
              · skip
                refine j_iconst (pc := 109) C dX9_saved_109 ?_
                exact Rt _ _ _ _ _ _ (by decide) (by decide) ⟨by unfold rSaved; rw [if_neg (by omega), if_neg (by omega)]; exact (saved_none hS (by omega) (by omega) (by omega) (by omega) i53_2).symm, _, rfl⟩ dX9_saved_110
              · skip
                refine j_iload (pc := 60) C 5 rfl dX9_saved_60 ?_
                refine j_bipush (pc := 62) (w := 60) C rfl dX9_saved_62 ?_
                refine j_icmp_gt (pc := 64) C 109 rfl (by omega) dX9_saved_64 (fun h_13p64 => ?_) (fun h_13p64 => ?_)
                · skip
                  refine j_iconst (pc := 109) C dX9_saved_109 ?_
                  exact Rt _ _ _ _ _ _ (by decide) (by decide) ⟨by unfold rSaved; rw [if_neg (by omega), if_neg (by omega)]; exact (saved_none hS (by omega) (by omega) (by omega) (by omega) i53_2).symm, _, rfl⟩ dX9_saved_110
                · skip
                  refine j_aload_n (pc := 67) C 0 0 rfl rfl dX9_saved_67 ?_
                  refine j_get (pc := 68) C (Or.inr ko) rfl fX9_saved_X9 8 (by decide) (List.mem_of_getElem? (i := 3) rfl) (Or.inl rfl) rfl dX9_saved_68 ?_
                  refine j_aload_n (pc := 71) C 0 0 rfl rfl dX9_saved_71 ?_
                  refine j_get (pc := 72) C (Or.inr ko) rfl fX9_saved_X9 5 (by decide) (List.mem_of_getElem? (i := 1) rfl) (Or.inl rfl) rfl dX9_saved_72 ?_
                  refine j_callVv (pc := 75) (As := [.ref (k 4)]) (na := 1) (st := []) C [3, 4, 5, 0, 1, 2] [] (wr := []) (fun l => c_become l D Y _ (k 10) (k 11) (k 12) V (k 4) (k 5) (k 6) S ) rfl rfl rfl rfl (by decide) rfl (Or.inl (List.mem_of_getElem? (i := 0) rfl)) rfl gX9_saved_X2_become ⟨rfl, by decide +kernel⟩ (by decide) rfl rfl (Nat.le_of_ble_eq_true rfl) (by decide) dX9_saved_75 (fun w_15 h_16 => ?_)
                  subst h_16
                  refine j_perm (ws' := [((k 4), oC 2 [.ref (k 5), .ref (k 6), vI (ms_w S), vI (ms_l S), vI (ms_s S), vI (ms_a S), vI (ms_t S), vI (ms_p S)]), ((k 5), aI (Y 0) 7 (ms_h S)), ((k 6), aI (Y 0) 420 (ms_m S)), ((k 10), oC 2 [.ref (k 11), .ref (k 12), vI (ms_w S), vI (ms_l S), vI (ms_s S), vI (ms_a S), vI (ms_t S), vI (ms_p S)]), ((k 11), aI (Y 0) 7 (ms_h S)), ((k 12), aI (Y 0) 420 (ms_m S))]) [3, 4, 5, 0, 1, 2] rfl rfl ?_
                  refine j_aload_n (pc := 78) C 0 0 rfl rfl dX9_saved_78 ?_
                  refine j_get (pc := 79) C (Or.inr ko) rfl fX9_saved_X9 8 (by decide) (List.mem_of_getElem? (i := 3) rfl) (Or.inl rfl) rfl dX9_saved_79 ?_
                  refine j_iload_n (pc := 82) C 2 1 rfl rfl dX9_saved_82 ?_
                  refine j_iload (pc := 83) C 5 rfl dX9_saved_83 ?_
                  refine j_callVv (pc := 85) (As := [vI c, vI m]) (na := 2) (st := []) C [3, 4, 5] [0, 1, 2] (wr := [((k 4), oC 2 [.ref (k 5), .ref (k 6), vI (ms_w S), vI (ms_l S), vI (ms_s S), vI (ms_a S), vI (ms_t S), vI (ms_p S)]), ((k 5), aI (Y 0) 7 (ms_h S)), ((k 6), aI (Y 0) 420 (ms_m S))]) (fun l => c_layNew l D Y _ (k 10) (k 11) (k 12) S c m hS (by first | assumption | omega) (by first | assumption | omega)) rfl rfl rfl rfl (by decide) rfl (Or.inl (List.mem_of_getElem? (i := 0) rfl)) rfl gX9_saved_X2_layNew ⟨rfl, by decide +kernel⟩ (by decide) rfl rfl (Nat.le_of_ble_eq_true rfl) (by decide) dX9_saved_85 (fun w_18 h_19 => ?_)
                  subst h_19
                  refine j_perm (ws' := [((k 4), oC 2 [.ref (k 5), .ref (k 6), vI (ms_w S), vI (ms_l S), vI (ms_s S), vI (ms_a S), vI (ms_t S), vI (ms_p S)]), ((k 5), aI (Y 0) 7 (ms_h S)), ((k 6), aI (Y 0) 420 (ms_m S)), ((k 10), oC 2 [.ref (k 11), .ref (k 12), vI (ms_w (layS c m S)), vI (ms_l (layS c m S)), vI (ms_s (layS c m S)), vI (ms_a (layS c m S)), vI (ms_t (layS c m S)), vI (ms_p (layS c m S))]), ((k 11), aI (Y 0) 7 (ms_h (layS c m S))), ((k 12), aI (Y 0) 420 (ms_m (layS c m S)))]) [0, 1, 2, 3, 4, 5] rfl rfl ?_
                  refine j_aload_n (pc := 88) C 0 0 rfl rfl dX9_saved_88 ?_
                  refine j_aload (pc := 89) C 3 rfl dX9_saved_89 ?_
                  refine j_iload_n (pc := 91) C 2 1 rfl rfl dX9_saved_91 ?_
                  refine j_iload_n (pc := 92) C 3 2 rfl rfl dX9_saved_92 ?_
                  refine j_callVi (pc := 93) (As := [.ref (cad cu), vI c, vI n]) (na := 3) (st := []) C [3, 4, 5] [0, 1, 2] (wr := [((k 4), oC 2 [.ref (k 5), .ref (k 6), vI (ms_w S), vI (ms_l S), vI (ms_s S), vI (ms_a S), vI (ms_t S), vI (ms_p S)]), ((k 5), aI (Y 0) 7 (ms_h S)), ((k 6), aI (Y 0) 420 (ms_m S))]) (fun l => k_dreamTillEmpty l D Y _ k nc np ik cad cs pad ps (layS c m S) (cad cu) (cs cu) c n (List.mem_append_right _ ko) (List.mem_append_right _ kp) (fun i hi => List.mem_append_right _ (hpc i hi)) (List.mem_append_right _ hc4) (okS_lay hS (by omega) (by omega)) (by rw [layS_w hS (by omega) (by omega)]; omega) (by first | assumption | omega) (by first | assumption | omega) (by first | assumption | omega) (by first | assumption | omega) (by first | assumption | omega)) rfl rfl rfl rfl (by decide) rfl (Or.inr (List.mem_append_right _ ko)) rfl gX9_saved_X9_dreamTillEmpty ⟨rfl, by decide +kernel⟩ (by decide) rfl rfl (Nat.le_of_ble_eq_true rfl) (by decide) dX9_saved_93 (fun e_20 w_21 h_22 => ?_)
                  obtain ⟨rfl, V_23, rfl⟩ := h_22
                  refine j_perm (ws' := [((k 4), oC 2 [.ref (k 5), .ref (k 6), vI (ms_w S), vI (ms_l S), vI (ms_s S), vI (ms_a S), vI (ms_t S), vI (ms_p S)]), ((k 5), aI (Y 0) 7 (ms_h S)), ((k 6), aI (Y 0) 420 (ms_m S)), ((k 10), oC 2 [.ref (k 11), .ref (k 12), vI (ms_w V_23), vI (ms_l V_23), vI (ms_s V_23), vI (ms_a V_23), vI (ms_t V_23), vI (ms_p V_23)]), ((k 11), aI (Y 0) 7 (ms_h V_23)), ((k 12), aI (Y 0) 420 (ms_m V_23))]) [0, 1, 2, 3, 4, 5] rfl rfl ?_
                  have hti := tillI_in (cs cu) np ps c (layS c m S) (n := n) (by omega)
                  refine j_iload_n (pc := 96) C 3 2 rfl rfl dX9_saved_96 ?_
                  refine j_icmp_le (pc := 97) C 103 rfl (by omega) dX9_saved_97 (fun h_24p97 => ?_) (fun h_24p97 => ?_)
                  · skip
                    refine j_iinc (pc := 103) (lc' := [(6, vI (m + 1)), (0, .ref (k 0)), (2, vI c), (3, vI n), (4, .ref (cad cu)), (5, vI (60 - ms_h S c))]) C 5 rfl (by decide) rfl dX9_saved_103 ?_
                    refine j_goto (pc := 106) C 53 rfl dX9_saved_106 ?_
                    refine j_locals (lc' := [(0, .ref (k 0)), (2, vI c), (3, vI n), (4, .ref (cad cu)), (5, vI (60 - ms_h S c)), (6, vI (m + 1))]) [1, 2, 3, 4, 5, 0] rfl ?_
                    exact ih53 (m + 1) V_23 (by omega) (by omega) (by omega) (fst_step (P := (fun m => drainI (cs cu) np ps c n (layS c m S) = -1)) (by omega) i53_2 (by (try dsimp only); intro q; unfold tillI at *; rw [if_pos q] at *; omega))
                  · skip
                    refine j_iload (pc := 100) C 5 rfl dX9_saved_100 ?_
                    exact Rt _ _ _ _ _ _ (by decide) (by decide) ⟨by unfold rSaved; rw [if_neg (by omega), if_neg (by omega)]; exact (fst_hit (P := (fun m => drainI (cs cu) np ps c n (layS c m S) = -1)) (by omega) (by omega) i53_2 (by (try dsimp only); exact Classical.byContradiction (fun q => by have hd := drainI_in (cs cu) np ps c (layS c m S) (n := n) (by omega); unfold tillI at *; rw [if_neg q] at *; omega))).symm, _, rfl⟩ dX9_saved_102
          refine j_locals (lc' := [(0, .ref (k 0)), (2, vI c), (3, vI n), (4, .ref (cad cu)), (5, vI (60 - ms_h S c)), (6, vI 0)]) [3, 5, 6, 2, 1, 0] rfl ?_
          exact hL53 _ 0 U (Nat.lt_succ_self _) (by omega) (by omega) rfl
        · skip
          refine j_bipush (pc := 33) (w := (-102)) C rfl dX9_saved_33 ?_
          exact Rt _ _ _ _ _ _ (by decide) (by decide) ⟨by unfold rSaved; rw [if_neg (by omega), if_pos (by omega)], _, rfl⟩ dX9_saved_35
    · skip
      refine j_bipush (pc := 19) (w := (-101)) C rfl dX9_saved_19 ?_
      exact Rt _ _ _ _ _ _ (by decide) (by decide) ⟨by unfold rSaved; rw [if_pos (by omega)], _, rfl⟩ dX9_saved_21
  · rw [show orow nc cad cu = none from orow_out hq_4]
    refine j_astoreN (pc := 5) (lc' := [(4, .null), (0, .ref (k 0)), (1, vI cu), (2, vI c), (3, vI n)]) C (by decide) rfl dX9_saved_5 ?_
    refine j_aloadN (pc := 7) C 0 rfl dX9_saved_7 ?_
    refine j_ifnullN (pc := 9) C 19 rfl dX9_saved_9 ?_
    refine j_bipush (pc := 19) (w := (-101)) C rfl dX9_saved_19 ?_
    exact Rt _ _ _ _ _ _ (by decide) (by decide) ⟨by unfold rSaved; rw [if_pos (by omega)], _, rfl⟩ dX9_saved_21

theorem fX9_unlike_X2 : ∀ w ∈ u_ws RX2 TX2 8, w ∈ wsX9_unlike := j_words [159, 160, 161, 162, 163, 164, 165, 166] (by decide +kernel)
theorem fX9_unlike_X9 : ∀ w ∈ u_ws RX9 TX9 11, w ∈ wsX9_unlike := j_words [148, 149, 150, 151, 152, 153, 154, 155, 156, 157, 158] (by decide +kernel)
set_option maxHeartbeats 4000000 in
set_option maxRecDepth 100000 in
theorem k_unlike (l : Launch) (D : va_G) (Y : Nat → ClassId) (RO : va_W) (k : Nat → Nat) (nc : Int) (np : Int) (ik : Int) (cad : Int → Nat) (cs : Int → CT) (pad : Int → Nat) (ps : Int → PT) (S : MS) (U : MS) (z : Int → Int) (a : Int) (b : Int) (n : Int) (ko : ((k 0), oC 8 [.ref (k 1), .ref (k 2), vI nc, .ref (k 3), vI np, .ref (k 4), .ref (k 7), vI ik, .ref (k 10), .ref (k 13), .ref (k 14)]) ∈ RO) (kc : ((k 2), aQ (Y 2) 4 (orow nc cad)) ∈ RO) (hcc : ∀ i, 0 ≤ i ∧ i < nc → (cad i, oC 1 [vI (cw (cs i)), vI (cz (cs i)), vI (ce (cs i))]) ∈ RO) (kp : ((k 3), aQ (Y 3) 6 (orow np pad)) ∈ RO) (hpc : ∀ i, 0 ≤ i ∧ i < np → pC (pad i) (ps i) ∈ RO) (hS : okS S) (hw : ms_w S ≤ 9999) (hnc : 0 ≤ nc ∧ nc ≤ 4) (hcs : ∀ i, 0 ≤ i ∧ i < nc → okC (cs i)) (hnp : 0 ≤ np ∧ np ≤ 6) (hps : ∀ i, 0 ≤ i ∧ i < np → okP (ps i)) (ha : -2147483648 ≤ a ∧ a ≤ 2147483647) (hb : -2147483648 ≤ b ∧ b ≤ 2147483647) (hn : -2147483648 ≤ n ∧ n ≤ 2147483647) : jMi l yX9_unlike wsX9_unlike { frames := 6, cells := 0, slots := 0, locals := 139 } D Y RO [.ref (k 0), vI a, vI b, vI n] [((k 4), oC 2 [.ref (k 5), .ref (k 6), vI (ms_w S), vI (ms_l S), vI (ms_s S), vI (ms_a S), vI (ms_t S), vI (ms_p S)]), ((k 5), aI (Y 0) 7 (ms_h S)), ((k 6), aI (Y 0) 420 (ms_m S)), ((k 10), oC 2 [.ref (k 11), .ref (k 12), vI (ms_w U), vI (ms_l U), vI (ms_s U), vI (ms_a U), vI (ms_t U), vI (ms_p U)]), ((k 11), aI (Y 0) 7 (ms_h U)), ((k 12), aI (Y 0) 420 (ms_m U)), ((k 13), aI (Y 0) 7 z)] (fun e w1 => e = rUnlike a b n nc cs np ps S ∧ ∃ (V : MS) (zz : Int → Int), w1 = [((k 4), oC 2 [.ref (k 5), .ref (k 6), vI (ms_w S), vI (ms_l S), vI (ms_s S), vI (ms_a S), vI (ms_t S), vI (ms_p S)]), ((k 5), aI (Y 0) 7 (ms_h S)), ((k 6), aI (Y 0) 420 (ms_m S)), ((k 10), oC 2 [.ref (k 11), .ref (k 12), vI (ms_w V), vI (ms_l V), vI (ms_s V), vI (ms_a V), vI (ms_t V), vI (ms_p V)]), ((k 11), aI (Y 0) 7 (ms_h V)), ((k 12), aI (Y 0) 420 (ms_m V)), ((k 13), aI (Y 0) 7 zz)]) := by
  refine j_ofi RX9 rfl rfl rfl (Nat.le_of_ble_eq_true rfl) (fun X C Rt => ?_)
  have hw0 := hS.w
  refine j_aload_n (pc := 0) C 0 0 rfl rfl dX9_unlike_0 ?_
  refine j_iload_n (pc := 1) C 1 1 rfl rfl dX9_unlike_1 ?_
  refine j_callVr (pc := 2) (As := [vI a]) (na := 1) (st := []) C [] [0, 1, 2, 3, 4, 5, 6] (wr := [((k 4), oC 2 [.ref (k 5), .ref (k 6), vI (ms_w S), vI (ms_l S), vI (ms_s S), vI (ms_a S), vI (ms_t S), vI (ms_p S)]), ((k 5), aI (Y 0) 7 (ms_h S)), ((k 6), aI (Y 0) 420 (ms_m S)), ((k 10), oC 2 [.ref (k 11), .ref (k 12), vI (ms_w U), vI (ms_l U), vI (ms_s U), vI (ms_a U), vI (ms_t U), vI (ms_p U)]), ((k 11), aI (Y 0) 7 (ms_h U)), ((k 12), aI (Y 0) 420 (ms_m U)), ((k 13), aI (Y 0) 7 z)]) (fun l => k_customAt l D Y _ k nc np ik cad a (List.mem_append_right _ ko) (List.mem_append_right _ kc) (by first | assumption | omega) (by first | assumption | omega)) rfl rfl rfl rfl (by decide) rfl (Or.inr (List.mem_append_right _ ko)) rfl gX9_unlike_X9_customAt ⟨rfl, by decide +kernel⟩ (by decide) rfl rfl (Nat.le_of_ble_eq_true rfl) (by decide) dX9_unlike_2 (fun e_1 w_2 h_3 => ?_)
  obtain ⟨rfl, rfl⟩ := h_3
  refine j_perm (ws' := [((k 4), oC 2 [.ref (k 5), .ref (k 6), vI (ms_w S), vI (ms_l S), vI (ms_s S), vI (ms_a S), vI (ms_t S), vI (ms_p S)]), ((k 5), aI (Y 0) 7 (ms_h S)), ((k 6), aI (Y 0) 420 (ms_m S)), ((k 10), oC 2 [.ref (k 11), .ref (k 12), vI (ms_w U), vI (ms_l U), vI (ms_s U), vI (ms_a U), vI (ms_t U), vI (ms_p U)]), ((k 11), aI (Y 0) 7 (ms_h U)), ((k 12), aI (Y 0) 420 (ms_m U)), ((k 13), aI (Y 0) 7 z)]) [0, 1, 2, 3, 4, 5, 6] rfl rfl ?_
  by_cases hq_4 : 0 ≤ a ∧ a < nc
  · rw [show orow nc cad a = some (cad a) from orow_in hq_4]
    have hc4 := hcc a hq_4
    have hC4 := hcs a hq_4
    refine j_astore (pc := 5) (lc' := [(4, .ref (cad a)), (0, .ref (k 0)), (1, vI a), (2, vI b), (3, vI n)]) C (by decide) rfl dX9_unlike_5 ?_
    refine j_aload_n (pc := 7) C 0 1 rfl rfl dX9_unlike_7 ?_
    refine j_iload_n (pc := 8) C 2 3 rfl rfl dX9_unlike_8 ?_
    refine j_callVr (pc := 9) (As := [vI b]) (na := 1) (st := []) C [] [0, 1, 2, 3, 4, 5, 6] (wr := [((k 4), oC 2 [.ref (k 5), .ref (k 6), vI (ms_w S), vI (ms_l S), vI (ms_s S), vI (ms_a S), vI (ms_t S), vI (ms_p S)]), ((k 5), aI (Y 0) 7 (ms_h S)), ((k 6), aI (Y 0) 420 (ms_m S)), ((k 10), oC 2 [.ref (k 11), .ref (k 12), vI (ms_w U), vI (ms_l U), vI (ms_s U), vI (ms_a U), vI (ms_t U), vI (ms_p U)]), ((k 11), aI (Y 0) 7 (ms_h U)), ((k 12), aI (Y 0) 420 (ms_m U)), ((k 13), aI (Y 0) 7 z)]) (fun l => k_customAt l D Y _ k nc np ik cad b (List.mem_append_right _ ko) (List.mem_append_right _ kc) (by first | assumption | omega) (by first | assumption | omega)) rfl rfl rfl rfl (by decide) rfl (Or.inr (List.mem_append_right _ ko)) rfl gX9_unlike_X9_customAt ⟨rfl, by decide +kernel⟩ (by decide) rfl rfl (Nat.le_of_ble_eq_true rfl) (by decide) dX9_unlike_9 (fun e_5 w_6 h_7 => ?_)
    obtain ⟨rfl, rfl⟩ := h_7
    refine j_perm (ws' := [((k 4), oC 2 [.ref (k 5), .ref (k 6), vI (ms_w S), vI (ms_l S), vI (ms_s S), vI (ms_a S), vI (ms_t S), vI (ms_p S)]), ((k 5), aI (Y 0) 7 (ms_h S)), ((k 6), aI (Y 0) 420 (ms_m S)), ((k 10), oC 2 [.ref (k 11), .ref (k 12), vI (ms_w U), vI (ms_l U), vI (ms_s U), vI (ms_a U), vI (ms_t U), vI (ms_p U)]), ((k 11), aI (Y 0) 7 (ms_h U)), ((k 12), aI (Y 0) 420 (ms_m U)), ((k 13), aI (Y 0) 7 z)]) [0, 1, 2, 3, 4, 5, 6] rfl rfl ?_
    by_cases hq_8 : 0 ≤ b ∧ b < nc
    · rw [show orow nc cad b = some (cad b) from orow_in hq_8]
      have hc8 := hcc b hq_8
      have hC8 := hcs b hq_8
      refine j_astore (pc := 12) (lc' := [(5, .ref (cad b)), (4, .ref (cad a)), (0, .ref (k 0)), (1, vI a), (2, vI b), (3, vI n)]) C (by decide) rfl dX9_unlike_12 ?_
      refine j_aload (pc := 14) C 1 rfl dX9_unlike_14 ?_
      refine j_ifnull (pc := 16) C dX9_unlike_16 ?_
      refine j_aload (pc := 19) C 0 rfl dX9_unlike_19 ?_
      refine j_ifnonnull (pc := 21) C 27 rfl dX9_unlike_21 ?_
      refine j_iload_n (pc := 27) C 3 5 rfl rfl dX9_unlike_27 ?_
      refine j_if_lt (pc := 28) C 37 rfl (by omega) dX9_unlike_28 (fun h_9p28 => ?_) (fun h_9p28 => ?_)
      · skip
        refine j_bipush (pc := 37) (w := (-102)) C rfl dX9_unlike_37 ?_
        exact Rt _ _ _ _ _ _ (by decide) (by decide) ⟨by unfold rUnlike; rw [if_neg (by omega), if_pos (by omega)], _, _, rfl⟩ dX9_unlike_39
      · skip
        refine j_iload_n (pc := 31) C 3 5 rfl rfl dX9_unlike_31 ?_
        refine j_bipush (pc := 32) (w := 60) C rfl dX9_unlike_32 ?_
        refine j_icmp_le (pc := 34) C 40 rfl (by omega) dX9_unlike_34 (fun h_10p34 => ?_) (fun h_10p34 => ?_)
        · skip
          refine j_aload_n (pc := 40) C 0 2 rfl rfl dX9_unlike_40 ?_
          refine j_aload (pc := 41) C 1 rfl dX9_unlike_41 ?_
          refine j_iload_n (pc := 43) C 3 5 rfl rfl dX9_unlike_43 ?_
          refine j_callVv (pc := 44) (As := [.ref (cad a), vI n]) (na := 2) (st := []) C [0, 1, 2, 3, 4, 5] [6] (wr := [((k 13), aI (Y 0) 7 z)]) (fun l => k_dreamOf l D Y _ k nc np ik cad cs pad ps S U (cad a) (cs a) n (List.mem_append_right _ ko) (List.mem_append_right _ kp) (fun i hi => List.mem_append_right _ (hpc i hi)) (List.mem_append_right _ hc4) (by first | assumption | omega) (by omega) (by first | assumption | omega) (by first | assumption | omega) (by first | assumption | omega) (by first | assumption | omega)) rfl rfl rfl rfl (by decide) rfl (Or.inr (List.mem_append_right _ ko)) rfl gX9_unlike_X9_dreamOf ⟨rfl, by decide +kernel⟩ (by decide) rfl rfl (Nat.le_of_ble_eq_true rfl) (by decide) dX9_unlike_44 (fun w_12 h_13 => ?_)
          subst h_13
          refine j_perm (ws' := [((k 4), oC 2 [.ref (k 5), .ref (k 6), vI (ms_w S), vI (ms_l S), vI (ms_s S), vI (ms_a S), vI (ms_t S), vI (ms_p S)]), ((k 5), aI (Y 0) 7 (ms_h S)), ((k 6), aI (Y 0) 420 (ms_m S)), ((k 10), oC 2 [.ref (k 11), .ref (k 12), vI (ms_w (weeksS (cs a) ps np n S)), vI (ms_l (weeksS (cs a) ps np n S)), vI (ms_s (weeksS (cs a) ps np n S)), vI (ms_a (weeksS (cs a) ps np n S)), vI (ms_t (weeksS (cs a) ps np n S)), vI (ms_p (weeksS (cs a) ps np n S))]), ((k 11), aI (Y 0) 7 (ms_h (weeksS (cs a) ps np n S))), ((k 12), aI (Y 0) 420 (ms_m (weeksS (cs a) ps np n S))), ((k 13), aI (Y 0) 7 z)]) [1, 2, 3, 4, 5, 6, 0] rfl rfl ?_
          refine j_iconst (pc := 47) C dX9_unlike_47 ?_
          refine j_istore (pc := 48) (lc' := [(6, vI 0), (5, .ref (cad b)), (4, .ref (cad a)), (0, .ref (k 0)), (1, vI a), (2, vI b), (3, vI n)]) C (by decide) rfl dX9_unlike_48 ?_
          have hL50 : ∀ (N50 : Nat) (i : Int) (z1 : Int → Int), ((7 - i).toNat) < N50 → (0 ≤ i ∧ i ≤ 7) → (∀ j : Int, 0 ≤ j → j < i → z1 j = ms_h (weeksS (cs a) ps np n S) j) → jW X 8 0 0 [((k 4), oC 2 [.ref (k 5), .ref (k 6), vI (ms_w S), vI (ms_l S), vI (ms_s S), vI (ms_a S), vI (ms_t S), vI (ms_p S)]), ((k 5), aI (Y 0) 7 (ms_h S)), ((k 6), aI (Y 0) 420 (ms_m S)), ((k 10), oC 2 [.ref (k 11), .ref (k 12), vI (ms_w ((weeksS (cs a) ps np n S))), vI (ms_l ((weeksS (cs a) ps np n S))), vI (ms_s ((weeksS (cs a) ps np n S))), vI (ms_a ((weeksS (cs a) ps np n S))), vI (ms_t ((weeksS (cs a) ps np n S))), vI (ms_p ((weeksS (cs a) ps np n S)))]), ((k 11), aI (Y 0) 7 (ms_h ((weeksS (cs a) ps np n S)))), ((k 12), aI (Y 0) 420 (ms_m ((weeksS (cs a) ps np n S)))), ((k 13), aI (Y 0) 7 z1)] [(0, .ref (k 0)), (3, vI n), (4, .ref (cad a)), (5, .ref (cad b)), (6, vI i)] 50 [] := by
            intro N50
            induction N50 with
            | zero => intro i z1 hm50 i50_0 i50_1; omega
            | succ N50 ih50 =>
              intro i z1 hm50 i50_0 i50_1
              refine j_iload (pc := 50) C 4 rfl dX9_unlike_50 ?_
              refine j_bipush (pc := 52) (w := 7) C rfl dX9_unlike_52 ?_
              refine j_icmp_ge (pc := 54) C 80 rfl (by omega) dX9_unlike_54 (fun h_14p54 => ?_) (fun h_14p54 => ?_)
              · skip
                refine j_aload_n (pc := 80) C 0 0 rfl rfl dX9_unlike_80 ?_
                refine j_aload (pc := 81) C 3 rfl dX9_unlike_81 ?_
                refine j_iload_n (pc := 83) C 3 1 rfl rfl dX9_unlike_83 ?_
                refine j_callVv (pc := 84) (As := [.ref (cad b), vI n]) (na := 2) (st := []) C [0, 1, 2, 3, 4, 5] [6] (wr := [((k 13), aI (Y 0) 7 z1)]) (fun l => k_dreamOf l D Y _ k nc np ik cad cs pad ps S ((weeksS (cs a) ps np n S)) (cad b) (cs b) n (List.mem_append_right _ ko) (List.mem_append_right _ kp) (fun i hi => List.mem_append_right _ (hpc i hi)) (List.mem_append_right _ hc8) (by first | assumption | omega) (by first | assumption | omega) (by first | assumption | omega) (by first | assumption | omega) (by first | assumption | omega) (by first | assumption | omega)) rfl rfl rfl rfl (by decide) rfl (Or.inr (List.mem_append_right _ ko)) rfl gX9_unlike_X9_dreamOf ⟨rfl, by decide +kernel⟩ (by decide) rfl rfl (Nat.le_of_ble_eq_true rfl) (by decide) dX9_unlike_84 (fun w_16 h_17 => ?_)
                subst h_17
                refine j_perm (ws' := [((k 4), oC 2 [.ref (k 5), .ref (k 6), vI (ms_w S), vI (ms_l S), vI (ms_s S), vI (ms_a S), vI (ms_t S), vI (ms_p S)]), ((k 5), aI (Y 0) 7 (ms_h S)), ((k 6), aI (Y 0) 420 (ms_m S)), ((k 10), oC 2 [.ref (k 11), .ref (k 12), vI (ms_w (weeksS (cs b) ps np n S)), vI (ms_l (weeksS (cs b) ps np n S)), vI (ms_s (weeksS (cs b) ps np n S)), vI (ms_a (weeksS (cs b) ps np n S)), vI (ms_t (weeksS (cs b) ps np n S)), vI (ms_p (weeksS (cs b) ps np n S))]), ((k 11), aI (Y 0) 7 (ms_h (weeksS (cs b) ps np n S))), ((k 12), aI (Y 0) 420 (ms_m (weeksS (cs b) ps np n S))), ((k 13), aI (Y 0) 7 z1)]) [1, 2, 3, 4, 5, 6, 0] rfl rfl ?_
                refine j_iconst (pc := 87) C dX9_unlike_87 ?_
                refine j_istore (pc := 88) (lc' := [(6, vI 0), (0, .ref (k 0)), (3, vI n), (4, .ref (cad a)), (5, .ref (cad b))]) C (by decide) rfl dX9_unlike_88 ?_
                refine j_iconst (pc := 90) C dX9_unlike_90 ?_
                refine j_istore (pc := 91) (lc' := [(7, vI 0), (6, vI 0), (0, .ref (k 0)), (3, vI n), (4, .ref (cad a)), (5, .ref (cad b))]) C (by decide) rfl dX9_unlike_91 ?_
                have hL93 : ∀ (N93 : Nat) (j : Int) (t : Int), ((7 - j).toNat) < N93 → (0 ≤ j ∧ j ≤ 7) → (t = fo (unlF (ms_h (weeksS (cs a) ps np n S)) (ms_h (weeksS (cs b) ps np n S))) j 0) → jW X 8 0 0 [((k 4), oC 2 [.ref (k 5), .ref (k 6), vI (ms_w S), vI (ms_l S), vI (ms_s S), vI (ms_a S), vI (ms_t S), vI (ms_p S)]), ((k 5), aI (Y 0) 7 (ms_h S)), ((k 6), aI (Y 0) 420 (ms_m S)), ((k 10), oC 2 [.ref (k 11), .ref (k 12), vI (ms_w ((weeksS (cs b) ps np n S))), vI (ms_l ((weeksS (cs b) ps np n S))), vI (ms_s ((weeksS (cs b) ps np n S))), vI (ms_a ((weeksS (cs b) ps np n S))), vI (ms_t ((weeksS (cs b) ps np n S))), vI (ms_p ((weeksS (cs b) ps np n S)))]), ((k 11), aI (Y 0) 7 (ms_h ((weeksS (cs b) ps np n S)))), ((k 12), aI (Y 0) 420 (ms_m ((weeksS (cs b) ps np n S)))), ((k 13), aI (Y 0) 7 z1)] [(0, .ref (k 0)), (6, vI t), (7, vI j)] 93 [] := by
                  intro N93
                  induction N93 with
                  | zero => intro j t hm93 i93_0 i93_1; omega
                  | succ N93 ih93 =>
                    intro j t hm93 i93_0 i93_1
                    refine j_iload (pc := 93) C 2 rfl dX9_unlike_93 ?_
                    refine j_bipush (pc := 95) (w := 7) C rfl dX9_unlike_95 ?_
                    refine j_icmp_ge (pc := 97) C 132 rfl (by omega) dX9_unlike_97 (fun h_18p97 => ?_) (fun h_18p97 => ?_)
                    · skip
                      refine j_iload (pc := 132) C 1 rfl dX9_unlike_132 ?_
                      exact Rt _ _ _ _ _ _ (by decide) (by decide) ⟨by unfold rUnlike; rw [if_neg (by omega), if_neg (by omega), i93_1, show j = 7 by omega], _, _, rfl⟩ dX9_unlike_134
                    · skip
                      have hA := okS_weeks (C := cs a) (n := n) hS (by assumption) hps hnp (by omega)
                      have hB := okS_weeks (C := cs b) (n := n) hS (by assumption) hps hnp (by omega)
                      have ez := i50_1 j (by omega) (by omega)
                      have f1 := hA.1.1 j (by omega)
                      have f2 := hB.1.1 j (by omega)
                      refine j_iload (pc := 100) C 1 rfl dX9_unlike_100 ?_
                      refine j_aload_n (pc := 102) C 0 0 rfl rfl dX9_unlike_102 ?_
                      refine j_get (pc := 103) C (Or.inr ko) rfl fX9_unlike_X9 9 (by decide) (List.mem_of_getElem? (i := 1) rfl) (Or.inl rfl) rfl dX9_unlike_103 ?_
                      refine j_iload (pc := 106) C 2 rfl dX9_unlike_106 ?_
                      refine j_iald (pc := 108) C (Or.inl (List.mem_of_getElem? (i := 6) rfl)) rfl (by omega) (by decide) dX9_unlike_108 ?_
                      refine j_aload_n (pc := 109) C 0 0 rfl rfl dX9_unlike_109 ?_
                      refine j_get (pc := 110) C (Or.inr ko) rfl fX9_unlike_X9 8 (by decide) (List.mem_of_getElem? (i := 2) rfl) (Or.inl rfl) rfl dX9_unlike_110 ?_
                      refine j_get (pc := 113) C (Or.inl (List.mem_of_getElem? (i := 3) rfl)) rfl fX9_unlike_X2 0 (by decide) (List.mem_of_getElem? (i := 3) rfl) (Or.inl rfl) rfl dX9_unlike_113 ?_
                      refine j_iload (pc := 116) C 2 rfl dX9_unlike_116 ?_
                      refine j_iald (pc := 118) C (Or.inl (List.mem_of_getElem? (i := 4) rfl)) rfl (by omega) (by decide) dX9_unlike_118 ?_
                      refine j_isub (pc := 119) C dX9_unlike_119 ?_
                      refine j_mabs (pc := 120) (st := [vI t]) C (by omega) (List.mem_of_getElem? (i := 4) rfl) (List.mem_of_getElem? (i := 5) rfl) (List.mem_of_getElem? (i := 6) rfl) (List.mem_of_getElem? (i := 7) rfl) (by decide) (Nat.le_of_ble_eq_true rfl) (by decide) dX9_unlike_120 ?_
                      refine j_iadd (pc := 123) C dX9_unlike_123 ?_
                      refine j_istore (pc := 124) (lc' := [(6, vI (t + (if 0 ≤ (z1 j - ms_h ((weeksS (cs b) ps np n S)) j) then (z1 j - ms_h ((weeksS (cs b) ps np n S)) j) else -(z1 j - ms_h ((weeksS (cs b) ps np n S)) j)))), (0, .ref (k 0)), (7, vI j)]) C (by decide) rfl dX9_unlike_124 ?_
                      refine j_iinc (pc := 126) (lc' := [(7, vI (j + 1)), (6, vI (t + (if 0 ≤ (z1 j - ms_h ((weeksS (cs b) ps np n S)) j) then (z1 j - ms_h ((weeksS (cs b) ps np n S)) j) else -(z1 j - ms_h ((weeksS (cs b) ps np n S)) j)))), (0, .ref (k 0))]) C 2 rfl (by decide) rfl dX9_unlike_126 ?_
                      refine j_goto (pc := 129) C 93 rfl dX9_unlike_129 ?_
                      refine j_locals (lc' := [(0, .ref (k 0)), (6, vI (t + (if 0 ≤ (z1 j - ms_h ((weeksS (cs b) ps np n S)) j) then (z1 j - ms_h ((weeksS (cs b) ps np n S)) j) else -(z1 j - ms_h ((weeksS (cs b) ps np n S)) j)))), (7, vI (j + 1))]) [2, 1, 0] rfl ?_
                      exact ih93 (j + 1) (t + (if 0 ≤ (z1 j - ms_h ((weeksS (cs b) ps np n S)) j) then (z1 j - ms_h ((weeksS (cs b) ps np n S)) j) else -(z1 j - ms_h ((weeksS (cs b) ps np n S)) j))) (by omega) (by omega) (by rw [fo_succ _ (by omega), ← i93_1]; unfold unlF absI; rw [ez])
                refine j_locals (lc' := [(0, .ref (k 0)), (6, vI 0), (7, vI 0)]) [2, 1, 0] rfl ?_
                exact hL93 _ 0 0 (Nat.lt_succ_self _) (by omega) rfl
              · skip
                have hA := okS_weeks (C := cs a) (n := n) hS (by assumption) hps hnp (by omega)
                refine j_aload_n (pc := 57) C 0 0 rfl rfl dX9_unlike_57 ?_
                refine j_get (pc := 58) C (Or.inr ko) rfl fX9_unlike_X9 9 (by decide) (List.mem_of_getElem? (i := 1) rfl) (Or.inl rfl) rfl dX9_unlike_58 ?_
                refine j_iload (pc := 61) C 4 rfl dX9_unlike_61 ?_
                refine j_aload_n (pc := 63) C 0 0 rfl rfl dX9_unlike_63 ?_
                refine j_get (pc := 64) C (Or.inr ko) rfl fX9_unlike_X9 8 (by decide) (List.mem_of_getElem? (i := 2) rfl) (Or.inl rfl) rfl dX9_unlike_64 ?_
                refine j_get (pc := 67) C (Or.inl (List.mem_of_getElem? (i := 3) rfl)) rfl fX9_unlike_X2 0 (by decide) (List.mem_of_getElem? (i := 3) rfl) (Or.inl rfl) rfl dX9_unlike_67 ?_
                refine j_iload (pc := 70) C 4 rfl dX9_unlike_70 ?_
                refine j_iald (pc := 72) C (Or.inl (List.mem_of_getElem? (i := 4) rfl)) rfl (by omega) (by decide) dX9_unlike_72 ?_
                refine j_iast (pc := 73) (ws' := [((k 4), oC 2 [.ref (k 5), .ref (k 6), vI (ms_w S), vI (ms_l S), vI (ms_s S), vI (ms_a S), vI (ms_t S), vI (ms_p S)]), ((k 5), aI (Y 0) 7 (ms_h S)), ((k 6), aI (Y 0) 420 (ms_m S)), ((k 10), oC 2 [.ref (k 11), .ref (k 12), vI (ms_w ((weeksS (cs a) ps np n S))), vI (ms_l ((weeksS (cs a) ps np n S))), vI (ms_s ((weeksS (cs a) ps np n S))), vI (ms_a ((weeksS (cs a) ps np n S))), vI (ms_t ((weeksS (cs a) ps np n S))), vI (ms_p ((weeksS (cs a) ps np n S)))]), ((k 11), aI (Y 0) 7 (ms_h ((weeksS (cs a) ps np n S)))), ((k 12), aI (Y 0) 420 (ms_m ((weeksS (cs a) ps np n S)))), ((k 13), aI (Y 0) 7 (up z1 i (ms_h ((weeksS (cs a) ps np n S)) i)))]) C 6 rfl rfl (by omega) (by decide) rfl dX9_unlike_73 ?_
                refine j_iinc (pc := 74) (lc' := [(6, vI (i + 1)), (0, .ref (k 0)), (3, vI n), (4, .ref (cad a)), (5, .ref (cad b))]) C 4 rfl (by decide) rfl dX9_unlike_74 ?_
                refine j_goto (pc := 77) C 50 rfl dX9_unlike_77 ?_
                refine j_locals (lc' := [(0, .ref (k 0)), (3, vI n), (4, .ref (cad a)), (5, .ref (cad b)), (6, vI (i + 1))]) [1, 2, 3, 4, 0] rfl ?_
                exact ih50 (i + 1) (up z1 i (ms_h ((weeksS (cs a) ps np n S)) i)) (by omega) (by omega) (up_agree i50_1)
          refine j_locals (lc' := [(0, .ref (k 0)), (3, vI n), (4, .ref (cad a)), (5, .ref (cad b)), (6, vI 0)]) [3, 6, 2, 1, 0] rfl ?_
          exact hL50 _ 0 z (Nat.lt_succ_self _) (by omega) (fun j h0 h1 => by omega)
        · skip
          refine j_bipush (pc := 37) (w := (-102)) C rfl dX9_unlike_37 ?_
          exact Rt _ _ _ _ _ _ (by decide) (by decide) ⟨by unfold rUnlike; rw [if_neg (by omega), if_pos (by omega)], _, _, rfl⟩ dX9_unlike_39
    · rw [show orow nc cad b = none from orow_out hq_8]
      refine j_astoreN (pc := 12) (lc' := [(5, .null), (4, .ref (cad a)), (0, .ref (k 0)), (1, vI a), (2, vI b), (3, vI n)]) C (by decide) rfl dX9_unlike_12 ?_
      refine j_aload (pc := 14) C 1 rfl dX9_unlike_14 ?_
      refine j_ifnull (pc := 16) C dX9_unlike_16 ?_
      refine j_aloadN (pc := 19) C 0 rfl dX9_unlike_19 ?_
      refine j_ifnonnullN (pc := 21) C dX9_unlike_21 ?_
      refine j_bipush (pc := 24) (w := (-101)) C rfl dX9_unlike_24 ?_
      exact Rt _ _ _ _ _ _ (by decide) (by decide) ⟨by unfold rUnlike; rw [if_pos (by omega)], _, _, rfl⟩ dX9_unlike_26
  · rw [show orow nc cad a = none from orow_out hq_4]
    refine j_astoreN (pc := 5) (lc' := [(4, .null), (0, .ref (k 0)), (1, vI a), (2, vI b), (3, vI n)]) C (by decide) rfl dX9_unlike_5 ?_
    refine j_aload_n (pc := 7) C 0 1 rfl rfl dX9_unlike_7 ?_
    refine j_iload_n (pc := 8) C 2 3 rfl rfl dX9_unlike_8 ?_
    refine j_callVr (pc := 9) (As := [vI b]) (na := 1) (st := []) C [] [0, 1, 2, 3, 4, 5, 6] (wr := [((k 4), oC 2 [.ref (k 5), .ref (k 6), vI (ms_w S), vI (ms_l S), vI (ms_s S), vI (ms_a S), vI (ms_t S), vI (ms_p S)]), ((k 5), aI (Y 0) 7 (ms_h S)), ((k 6), aI (Y 0) 420 (ms_m S)), ((k 10), oC 2 [.ref (k 11), .ref (k 12), vI (ms_w U), vI (ms_l U), vI (ms_s U), vI (ms_a U), vI (ms_t U), vI (ms_p U)]), ((k 11), aI (Y 0) 7 (ms_h U)), ((k 12), aI (Y 0) 420 (ms_m U)), ((k 13), aI (Y 0) 7 z)]) (fun l => k_customAt l D Y _ k nc np ik cad b (List.mem_append_right _ ko) (List.mem_append_right _ kc) (by first | assumption | omega) (by first | assumption | omega)) rfl rfl rfl rfl (by decide) rfl (Or.inr (List.mem_append_right _ ko)) rfl gX9_unlike_X9_customAt ⟨rfl, by decide +kernel⟩ (by decide) rfl rfl (Nat.le_of_ble_eq_true rfl) (by decide) dX9_unlike_9 (fun e_19 w_20 h_21 => ?_)
    obtain ⟨rfl, rfl⟩ := h_21
    refine j_perm (ws' := [((k 4), oC 2 [.ref (k 5), .ref (k 6), vI (ms_w S), vI (ms_l S), vI (ms_s S), vI (ms_a S), vI (ms_t S), vI (ms_p S)]), ((k 5), aI (Y 0) 7 (ms_h S)), ((k 6), aI (Y 0) 420 (ms_m S)), ((k 10), oC 2 [.ref (k 11), .ref (k 12), vI (ms_w U), vI (ms_l U), vI (ms_s U), vI (ms_a U), vI (ms_t U), vI (ms_p U)]), ((k 11), aI (Y 0) 7 (ms_h U)), ((k 12), aI (Y 0) 420 (ms_m U)), ((k 13), aI (Y 0) 7 z)]) [0, 1, 2, 3, 4, 5, 6] rfl rfl ?_
    by_cases hq_22 : 0 ≤ b ∧ b < nc
    · rw [show orow nc cad b = some (cad b) from orow_in hq_22]
      have hc22 := hcc b hq_22
      have hC22 := hcs b hq_22
      refine j_astore (pc := 12) (lc' := [(5, .ref (cad b)), (4, .null), (0, .ref (k 0)), (1, vI a), (2, vI b), (3, vI n)]) C (by decide) rfl dX9_unlike_12 ?_
      refine j_aloadN (pc := 14) C 1 rfl dX9_unlike_14 ?_
      refine j_ifnullN (pc := 16) C 24 rfl dX9_unlike_16 ?_
      refine j_bipush (pc := 24) (w := (-101)) C rfl dX9_unlike_24 ?_
      exact Rt _ _ _ _ _ _ (by decide) (by decide) ⟨by unfold rUnlike; rw [if_pos (by omega)], _, _, rfl⟩ dX9_unlike_26
    · rw [show orow nc cad b = none from orow_out hq_22]
      refine j_astoreN (pc := 12) (lc' := [(5, .null), (4, .null), (0, .ref (k 0)), (1, vI a), (2, vI b), (3, vI n)]) C (by decide) rfl dX9_unlike_12 ?_
      refine j_aloadN (pc := 14) C 1 rfl dX9_unlike_14 ?_
      refine j_ifnullN (pc := 16) C 24 rfl dX9_unlike_16 ?_
      refine j_bipush (pc := 24) (w := (-101)) C rfl dX9_unlike_24 ?_
      exact Rt _ _ _ _ _ _ (by decide) (by decide) ⟨by unfold rUnlike; rw [if_pos (by omega)], _, _, rfl⟩ dX9_unlike_26

theorem fX9_lie_X2 : ∀ w ∈ u_ws RX2 TX2 8, w ∈ wsX9_lie := j_words [28, 29, 30, 31, 32, 33, 34, 35] (by decide +kernel)
theorem fX9_lie_X9 : ∀ w ∈ u_ws RX9 TX9 11, w ∈ wsX9_lie := j_words [17, 18, 19, 20, 21, 22, 23, 24, 25, 26, 27] (by decide +kernel)
set_option maxHeartbeats 4000000 in
set_option maxRecDepth 100000 in
theorem k_lie (l : Launch) (D : va_G) (Y : Nat → ClassId) (RO : va_W) (k : Nat → Nat) (nc : Int) (np : Int) (ik : Int) (S : MS) (c : Int) (ko : ((k 0), oC 8 [.ref (k 1), .ref (k 2), vI nc, .ref (k 3), vI np, .ref (k 4), .ref (k 7), vI ik, .ref (k 10), .ref (k 13), .ref (k 14)]) ∈ RO) (n0 : ((k 4), oC 2 [.ref (k 5), .ref (k 6), vI (ms_w S), vI (ms_l S), vI (ms_s S), vI (ms_a S), vI (ms_t S), vI (ms_p S)]) ∈ RO) (n1 : ((k 5), aI (Y 0) 7 (ms_h S)) ∈ RO) (hS : okS S) (hc : -2147483648 ≤ c ∧ c ≤ 2147483647) : jMi l yX9_lie wsX9_lie { frames := 1, cells := 0, slots := 0, locals := 24 } D Y RO [.ref (k 0), vI c] [] (fun e w1 => e = rLie c S ∧ w1 = []) := by
  refine j_ofi RX9 rfl rfl rfl (Nat.le_of_ble_eq_true rfl) (fun X C Rt => ?_)
  have hsum := sumI_in hS
  refine j_iload_n (pc := 0) C 1 1 rfl rfl dX9_lie_0 ?_
  refine j_callSi (pc := 1) (As := [vI c]) (na := 1) (st := []) C [] [] (wr := []) (fun l => c_isCairn l D Y _ c (by first | assumption | omega)) rfl rfl rfl rfl (by decide) rfl gX9_lie_X9_isCairn (by decide +kernel) (by decide) rfl rfl (Nat.le_of_ble_eq_true rfl) (by decide) dX9_lie_1 (fun e_1 w_2 h_3 => ?_)
  obtain ⟨rfl, rfl⟩ := h_3
  refine j_perm (ws' := []) [] rfl rfl ?_
  refine j_if_neb (pc := 4) C 10 rfl dX9_lie_4 (fun h_4p4 => ?_) (fun h_4p4 => ?_)
  · skip
    refine j_aload_n (pc := 10) C 0 0 rfl rfl dX9_lie_10 ?_
    refine j_get (pc := 11) C (Or.inr ko) rfl fX9_lie_X9 5 (by decide) (List.mem_of_getElem? (i := 1) rfl) (Or.inl rfl) rfl dX9_lie_11 ?_
    refine j_get (pc := 14) C (Or.inr n0) rfl fX9_lie_X2 0 (by decide) (List.mem_of_getElem? (i := 2) rfl) (Or.inl rfl) rfl dX9_lie_14 ?_
    refine j_iload_n (pc := 17) C 1 1 rfl rfl dX9_lie_17 ?_
    refine j_iald (pc := 18) C (Or.inr n1) rfl (by omega) (by decide) dX9_lie_18 ?_
    have f_5 := hS.1 c (by omega)
    refine j_istore_n (pc := 19) (lc' := [(2, vI (ms_h S c)), (0, .ref (k 0)), (1, vI c)]) C 2 rfl (by decide) rfl dX9_lie_19 ?_
    refine j_aload_n (pc := 20) C 0 1 rfl rfl dX9_lie_20 ?_
    refine j_get (pc := 21) C (Or.inr ko) rfl fX9_lie_X9 5 (by decide) (List.mem_of_getElem? (i := 1) rfl) (Or.inl rfl) rfl dX9_lie_21 ?_
    refine j_callVi (pc := 24) (As := []) (na := 0) (st := []) C [] [] (wr := []) (fun l => c_pebbles l D Y _ (k 4) (k 5) (k 6) S (List.mem_append_right _ n0) (List.mem_append_right _ n1) ) rfl rfl rfl rfl (by decide) rfl (Or.inr (List.mem_append_right _ n0)) rfl gX9_lie_X2_pebbles ⟨rfl, by decide +kernel⟩ (by decide) rfl rfl (Nat.le_of_ble_eq_true rfl) (by decide) dX9_lie_24 (fun e_6 w_7 h_8 => ?_)
    obtain ⟨rfl, rfl⟩ := h_8
    refine j_perm (ws' := []) [] rfl rfl ?_
    refine j_iload_n (pc := 27) C 2 0 rfl rfl dX9_lie_27 ?_
    refine j_isub (pc := 28) C dX9_lie_28 ?_
    refine j_istore_n (pc := 29) (lc' := [(3, vI (sumI (ms_h S) 7 - ms_h S c)), (2, vI (ms_h S c)), (0, .ref (k 0)), (1, vI c)]) C 3 rfl (by decide) rfl dX9_lie_29 ?_
    have hge := sumI_ge hS (c := c) (by omega)
    refine j_iconst (pc := 30) C dX9_lie_30 ?_
    refine j_istore (pc := 31) (lc' := [(4, vI 0), (3, vI (sumI (ms_h S) 7 - ms_h S c)), (2, vI (ms_h S c)), (0, .ref (k 0)), (1, vI c)]) C (by decide) rfl dX9_lie_31 ?_
    have hL33 : ∀ (N33 : Nat) (x : Int), ((sumI (ms_h S) 7 - ms_h S c + 1 - x).toNat) < N33 → (0 ≤ x ∧ (x ≤ sumI (ms_h S) 7 - ms_h S c + 1 ∨ x = 0)) → (fstI (fun x => surI (ms_h S) (ms_h S c + x - 1) c ≤ x) x = -1) → jW X 5 0 0 [] [(0, .ref (k 0)), (1, vI c), (2, vI (ms_h S c)), (3, vI (sumI (ms_h S) 7 - ms_h S c)), (4, vI x)] 33 [] := by
      intro N33
      induction N33 with
      | zero => intro x hm33 i33_0 i33_1; omega
      | succ N33 ih33 =>
        intro x hm33 i33_0 i33_1
        refine j_iload (pc := 33) C 4 rfl dX9_lie_33 ?_
        refine j_iload_n (pc := 35) C 3 3 rfl rfl dX9_lie_35 ?_
        refine j_icmp_gt (pc := 36) C 67 rfl (by omega) dX9_lie_36 (fun h_9p36 => ?_) (fun h_9p36 => ?_)
        · skip
          refine j_iconst (pc := 67) C dX9_lie_67 ?_
          exact Rt _ _ _ _ _ _ (by decide) (by decide) ⟨by unfold rLie; rw [if_neg (by omega)]; rw [show sumI (ms_h S) 7 - ms_h S c + 1 = x by omega]; exact i33_1.symm, rfl⟩ dX9_lie_68
        · skip
          refine j_aload_n (pc := 39) C 0 0 rfl rfl dX9_lie_39 ?_
          refine j_get (pc := 40) C (Or.inr ko) rfl fX9_lie_X9 5 (by decide) (List.mem_of_getElem? (i := 1) rfl) (Or.inl rfl) rfl dX9_lie_40 ?_
          refine j_iload_n (pc := 43) C 2 2 rfl rfl dX9_lie_43 ?_
          refine j_iload (pc := 44) C 4 rfl dX9_lie_44 ?_
          refine j_iadd (pc := 46) C dX9_lie_46 ?_
          refine j_iconst (pc := 47) C dX9_lie_47 ?_
          refine j_isub (pc := 48) C dX9_lie_48 ?_
          refine j_iload_n (pc := 49) C 1 1 rfl rfl dX9_lie_49 ?_
          refine j_callVi (pc := 50) (As := [vI ((ms_h S c + x) - 1), vI c]) (na := 2) (st := []) C [] [] (wr := []) (fun l => c_surplusOver l D Y _ (k 4) (k 5) (k 6) S ((ms_h S c + x) - 1) c (List.mem_append_right _ n0) (List.mem_append_right _ n1) hS (by omega) (by first | assumption | omega)) rfl rfl rfl rfl (by decide) rfl (Or.inr (List.mem_append_right _ n0)) rfl gX9_lie_X2_surplusOver ⟨rfl, by decide +kernel⟩ (by decide) rfl rfl (Nat.le_of_ble_eq_true rfl) (by decide) dX9_lie_50 (fun e_10 w_11 h_12 => ?_)
          obtain ⟨rfl, rfl⟩ := h_12
          refine j_perm (ws' := []) [] rfl rfl ?_
          have hsu := surI_in hS (lv := ms_h S c + x - 1) (but := c) (by omega)
          refine j_iload (pc := 53) C 4 rfl dX9_lie_53 ?_
          refine j_icmp_gt (pc := 55) C 61 rfl (by omega) dX9_lie_55 (fun h_13p55 => ?_) (fun h_13p55 => ?_)
          · skip
            refine j_iinc (pc := 61) (lc' := [(4, vI (x + 1)), (0, .ref (k 0)), (1, vI c), (2, vI (ms_h S c)), (3, vI (sumI (ms_h S) 7 - ms_h S c))]) C 4 rfl (by decide) rfl dX9_lie_61 ?_
            refine j_goto (pc := 64) C 33 rfl dX9_lie_64 ?_
            refine j_locals (lc' := [(0, .ref (k 0)), (1, vI c), (2, vI (ms_h S c)), (3, vI (sumI (ms_h S) 7 - ms_h S c)), (4, vI (x + 1))]) [1, 2, 3, 4, 0] rfl ?_
            exact ih33 (x + 1) (by omega) (by omega) (fst_step (P := (fun x => surI (ms_h S) (ms_h S c + x - 1) c ≤ x)) (by omega) i33_1 (by (try dsimp only); omega))
          · skip
            refine j_iload (pc := 58) C 4 rfl dX9_lie_58 ?_
            exact Rt _ _ _ _ _ _ (by decide) (by decide) ⟨by unfold rLie; rw [if_neg (by omega)]; exact (fst_hit (P := (fun x => surI (ms_h S) (ms_h S c + x - 1) c ≤ x)) (by omega) (by omega) i33_1 (by assumption)).symm, rfl⟩ dX9_lie_60
    refine j_locals (lc' := [(0, .ref (k 0)), (1, vI c), (2, vI (ms_h S c)), (3, vI (sumI (ms_h S) 7 - ms_h S c)), (4, vI 0)]) [3, 4, 2, 1, 0] rfl ?_
    exact hL33 _ 0 (Nat.lt_succ_self _) (by omega) rfl
  · skip
    refine j_bipush (pc := 7) (w := (-101)) C rfl dX9_lie_7 ?_
    exact Rt _ _ _ _ _ _ (by decide) (by decide) ⟨by unfold rLie; rw [if_pos (by omega)], rfl⟩ dX9_lie_9

theorem fX9_image_X9 : ∀ w ∈ u_ws RX9 TX9 11, w ∈ wsX9_image := j_words [25, 26, 27, 28, 29, 30, 31, 32, 33, 34, 35] (by decide +kernel)
set_option maxHeartbeats 4000000 in
set_option maxRecDepth 100000 in
theorem k_image (l : Launch) (D : va_G) (Y : Nat → ClassId) (RO : va_W) (k : Nat → Nat) (nc : Int) (np : Int) (ik : Int) (S : MS) (T : MS)   : jMi l yX9_image wsX9_image { frames := 2, cells := 0, slots := 0, locals := 61 } D Y RO [.ref (k 0)] [((k 4), oC 2 [.ref (k 5), .ref (k 6), vI (ms_w S), vI (ms_l S), vI (ms_s S), vI (ms_a S), vI (ms_t S), vI (ms_p S)]), ((k 5), aI (Y 0) 7 (ms_h S)), ((k 6), aI (Y 0) 420 (ms_m S)), ((k 7), oC 2 [.ref (k 8), .ref (k 9), vI (ms_w T), vI (ms_l T), vI (ms_s T), vI (ms_a T), vI (ms_t T), vI (ms_p T)]), ((k 8), aI (Y 0) 7 (ms_h T)), ((k 9), aI (Y 0) 420 (ms_m T)), ((k 0), oC 8 [.ref (k 1), .ref (k 2), vI nc, .ref (k 3), vI np, .ref (k 4), .ref (k 7), vI ik, .ref (k 10), .ref (k 13), .ref (k 14)])] (fun e w1 => e = sumI (ms_h S) 7 ∧ w1 = [((k 4), oC 2 [.ref (k 5), .ref (k 6), vI (ms_w S), vI (ms_l S), vI (ms_s S), vI (ms_a S), vI (ms_t S), vI (ms_p S)]), ((k 5), aI (Y 0) 7 (ms_h S)), ((k 6), aI (Y 0) 420 (ms_m S)), ((k 7), oC 2 [.ref (k 8), .ref (k 9), vI (ms_w S), vI (ms_l S), vI (ms_s S), vI (ms_a S), vI (ms_t S), vI (ms_p S)]), ((k 8), aI (Y 0) 7 (ms_h S)), ((k 9), aI (Y 0) 420 (ms_m S)), ((k 0), oC 8 [.ref (k 1), .ref (k 2), vI nc, .ref (k 3), vI np, .ref (k 4), .ref (k 7), vI 1, .ref (k 10), .ref (k 13), .ref (k 14)])]) := by
  refine j_ofi RX9 rfl rfl rfl (Nat.le_of_ble_eq_true rfl) (fun X C Rt => ?_)
  refine j_aload_n (pc := 0) C 0 0 rfl rfl dX9_image_0 ?_
  refine j_get (pc := 1) C (Or.inl (List.mem_of_getElem? (i := 6) rfl)) rfl fX9_image_X9 6 (by decide) (List.mem_of_getElem? (i := 1) rfl) (Or.inl rfl) rfl dX9_image_1 ?_
  refine j_aload_n (pc := 4) C 0 0 rfl rfl dX9_image_4 ?_
  refine j_get (pc := 5) C (Or.inl (List.mem_of_getElem? (i := 6) rfl)) rfl fX9_image_X9 5 (by decide) (List.mem_of_getElem? (i := 2) rfl) (Or.inl rfl) rfl dX9_image_5 ?_
  refine j_callVv (pc := 8) (As := [.ref (k 4)]) (na := 1) (st := []) C [3, 4, 5, 0, 1, 2] [6] (wr := [((k 0), oC 8 [.ref (k 1), .ref (k 2), vI nc, .ref (k 3), vI np, .ref (k 4), .ref (k 7), vI ik, .ref (k 10), .ref (k 13), .ref (k 14)])]) (fun l => c_become l D Y _ (k 7) (k 8) (k 9) T (k 4) (k 5) (k 6) S ) rfl rfl rfl rfl (by decide) rfl (Or.inl (List.mem_of_getElem? (i := 0) rfl)) rfl gX9_image_X2_become ⟨rfl, by decide +kernel⟩ (by decide) rfl rfl (Nat.le_of_ble_eq_true rfl) (by decide) dX9_image_8 (fun w_2 h_3 => ?_)
  subst h_3
  refine j_perm (ws' := [((k 4), oC 2 [.ref (k 5), .ref (k 6), vI (ms_w S), vI (ms_l S), vI (ms_s S), vI (ms_a S), vI (ms_t S), vI (ms_p S)]), ((k 5), aI (Y 0) 7 (ms_h S)), ((k 6), aI (Y 0) 420 (ms_m S)), ((k 7), oC 2 [.ref (k 8), .ref (k 9), vI (ms_w S), vI (ms_l S), vI (ms_s S), vI (ms_a S), vI (ms_t S), vI (ms_p S)]), ((k 8), aI (Y 0) 7 (ms_h S)), ((k 9), aI (Y 0) 420 (ms_m S)), ((k 0), oC 8 [.ref (k 1), .ref (k 2), vI nc, .ref (k 3), vI np, .ref (k 4), .ref (k 7), vI ik, .ref (k 10), .ref (k 13), .ref (k 14)])]) [4, 5, 6, 1, 2, 3, 0] rfl rfl ?_
  refine j_aload_n (pc := 11) C 0 0 rfl rfl dX9_image_11 ?_
  refine j_iconst (pc := 12) C dX9_image_12 ?_
  refine j_put (pc := 13) (ws' := [((k 4), oC 2 [.ref (k 5), .ref (k 6), vI (ms_w S), vI (ms_l S), vI (ms_s S), vI (ms_a S), vI (ms_t S), vI (ms_p S)]), ((k 5), aI (Y 0) 7 (ms_h S)), ((k 6), aI (Y 0) 420 (ms_m S)), ((k 7), oC 2 [.ref (k 8), .ref (k 9), vI (ms_w S), vI (ms_l S), vI (ms_s S), vI (ms_a S), vI (ms_t S), vI (ms_p S)]), ((k 8), aI (Y 0) 7 (ms_h S)), ((k 9), aI (Y 0) 420 (ms_m S)), ((k 0), oC 8 [.ref (k 1), .ref (k 2), vI nc, .ref (k 3), vI np, .ref (k 4), .ref (k 7), vI 1, .ref (k 10), .ref (k 13), .ref (k 14)])]) C 6 rfl rfl fX9_image_X9 tyX9_ok nmX9 7 (by decide) (List.mem_of_getElem? (i := 3) rfl) (Or.inl rfl) rfl rfl rfl rfl (Nat.le_of_ble_eq_true rfl) rfl dX9_image_13 ?_
  refine j_aload_n (pc := 16) C 0 0 rfl rfl dX9_image_16 ?_
  refine j_get (pc := 17) C (Or.inl (List.mem_of_getElem? (i := 6) rfl)) rfl fX9_image_X9 5 (by decide) (List.mem_of_getElem? (i := 2) rfl) (Or.inl rfl) rfl dX9_image_17 ?_
  refine j_callVi (pc := 20) (As := []) (na := 0) (st := []) C [] [0, 1, 2, 3, 4, 5, 6] (wr := [((k 4), oC 2 [.ref (k 5), .ref (k 6), vI (ms_w S), vI (ms_l S), vI (ms_s S), vI (ms_a S), vI (ms_t S), vI (ms_p S)]), ((k 5), aI (Y 0) 7 (ms_h S)), ((k 6), aI (Y 0) 420 (ms_m S)), ((k 7), oC 2 [.ref (k 8), .ref (k 9), vI (ms_w S), vI (ms_l S), vI (ms_s S), vI (ms_a S), vI (ms_t S), vI (ms_p S)]), ((k 8), aI (Y 0) 7 (ms_h S)), ((k 9), aI (Y 0) 420 (ms_m S)), ((k 0), oC 8 [.ref (k 1), .ref (k 2), vI nc, .ref (k 3), vI np, .ref (k 4), .ref (k 7), vI 1, .ref (k 10), .ref (k 13), .ref (k 14)])]) (fun l => c_pebbles l D Y _ (k 4) (k 5) (k 6) S (List.mem_append_left _ (List.mem_of_getElem? (i := 0) rfl)) (List.mem_append_left _ (List.mem_of_getElem? (i := 1) rfl)) ) rfl rfl rfl rfl (by decide) rfl (Or.inr (List.mem_append_left _ (List.mem_of_getElem? (i := 0) rfl))) rfl gX9_image_X2_pebbles ⟨rfl, by decide +kernel⟩ (by decide) rfl rfl (Nat.le_of_ble_eq_true rfl) (by decide) dX9_image_20 (fun e_4 w_5 h_6 => ?_)
  obtain ⟨rfl, rfl⟩ := h_6
  refine j_perm (ws' := [((k 4), oC 2 [.ref (k 5), .ref (k 6), vI (ms_w S), vI (ms_l S), vI (ms_s S), vI (ms_a S), vI (ms_t S), vI (ms_p S)]), ((k 5), aI (Y 0) 7 (ms_h S)), ((k 6), aI (Y 0) 420 (ms_m S)), ((k 7), oC 2 [.ref (k 8), .ref (k 9), vI (ms_w S), vI (ms_l S), vI (ms_s S), vI (ms_a S), vI (ms_t S), vI (ms_p S)]), ((k 8), aI (Y 0) 7 (ms_h S)), ((k 9), aI (Y 0) 420 (ms_m S)), ((k 0), oC 8 [.ref (k 1), .ref (k 2), vI nc, .ref (k 3), vI np, .ref (k 4), .ref (k 7), vI 1, .ref (k 10), .ref (k 13), .ref (k 14)])]) [0, 1, 2, 3, 4, 5, 6] rfl rfl ?_
  exact Rt _ _ _ _ _ _ (by decide) (by decide) ⟨rfl, rfl⟩ dX9_image_23

theorem fX9_restore_X9 : ∀ w ∈ u_ws RX9 TX9 11, w ∈ wsX9_restore := j_words [25, 26, 27, 28, 29, 30, 31, 32, 33, 34, 35] (by decide +kernel)
set_option maxHeartbeats 4000000 in
set_option maxRecDepth 100000 in
theorem k_restore (l : Launch) (D : va_G) (Y : Nat → ClassId) (RO : va_W) (k : Nat → Nat) (nc : Int) (np : Int) (ik : Int) (S : MS) (T : MS) (ko : ((k 0), oC 8 [.ref (k 1), .ref (k 2), vI nc, .ref (k 3), vI np, .ref (k 4), .ref (k 7), vI ik, .ref (k 10), .ref (k 13), .ref (k 14)]) ∈ RO) (hik : 0 ≤ ik ∧ ik ≤ 1) : jMi l yX9_restore wsX9_restore { frames := 2, cells := 0, slots := 0, locals := 61 } D Y RO [.ref (k 0)] [((k 4), oC 2 [.ref (k 5), .ref (k 6), vI (ms_w S), vI (ms_l S), vI (ms_s S), vI (ms_a S), vI (ms_t S), vI (ms_p S)]), ((k 5), aI (Y 0) 7 (ms_h S)), ((k 6), aI (Y 0) 420 (ms_m S)), ((k 7), oC 2 [.ref (k 8), .ref (k 9), vI (ms_w T), vI (ms_l T), vI (ms_s T), vI (ms_a T), vI (ms_t T), vI (ms_p T)]), ((k 8), aI (Y 0) 7 (ms_h T)), ((k 9), aI (Y 0) 420 (ms_m T))] (fun e w1 => e = rRestore ik S T ∧ w1 = [((k 4), oC 2 [.ref (k 5), .ref (k 6), vI (ms_w (sRestore ik S T)), vI (ms_l (sRestore ik S T)), vI (ms_s (sRestore ik S T)), vI (ms_a (sRestore ik S T)), vI (ms_t (sRestore ik S T)), vI (ms_p (sRestore ik S T))]), ((k 5), aI (Y 0) 7 (ms_h (sRestore ik S T))), ((k 6), aI (Y 0) 420 (ms_m (sRestore ik S T))), ((k 7), oC 2 [.ref (k 8), .ref (k 9), vI (ms_w T), vI (ms_l T), vI (ms_s T), vI (ms_a T), vI (ms_t T), vI (ms_p T)]), ((k 8), aI (Y 0) 7 (ms_h T)), ((k 9), aI (Y 0) 420 (ms_m T))]) := by
  refine j_ofi RX9 rfl rfl rfl (Nat.le_of_ble_eq_true rfl) (fun X C Rt => ?_)
  refine j_aload_n (pc := 0) C 0 0 rfl rfl dX9_restore_0 ?_
  refine j_get (pc := 1) C (Or.inr ko) rfl fX9_restore_X9 7 (by decide) (List.mem_of_getElem? (i := 1) rfl) (Or.inl rfl) rfl dX9_restore_1 ?_
  refine j_if_ne (pc := 4) C 10 rfl (by omega) dX9_restore_4 (fun h_1p4 => ?_) (fun h_1p4 => ?_)
  · skip
    refine j_aload_n (pc := 10) C 0 0 rfl rfl dX9_restore_10 ?_
    refine j_get (pc := 11) C (Or.inr ko) rfl fX9_restore_X9 5 (by decide) (List.mem_of_getElem? (i := 2) rfl) (Or.inl rfl) rfl dX9_restore_11 ?_
    refine j_aload_n (pc := 14) C 0 0 rfl rfl dX9_restore_14 ?_
    refine j_get (pc := 15) C (Or.inr ko) rfl fX9_restore_X9 6 (by decide) (List.mem_of_getElem? (i := 3) rfl) (Or.inl rfl) rfl dX9_restore_15 ?_
    refine j_callVv (pc := 18) (As := [.ref (k 7)]) (na := 1) (st := []) C [0, 1, 2, 3, 4, 5] [] (wr := []) (fun l => c_become l D Y _ (k 4) (k 5) (k 6) S (k 7) (k 8) (k 9) T ) rfl rfl rfl rfl (by decide) rfl (Or.inl (List.mem_of_getElem? (i := 0) rfl)) rfl gX9_restore_X2_become ⟨rfl, by decide +kernel⟩ (by decide) rfl rfl (Nat.le_of_ble_eq_true rfl) (by decide) dX9_restore_18 (fun w_3 h_4 => ?_)
    subst h_4
    refine j_perm (ws' := [((k 4), oC 2 [.ref (k 5), .ref (k 6), vI (ms_w T), vI (ms_l T), vI (ms_s T), vI (ms_a T), vI (ms_t T), vI (ms_p T)]), ((k 5), aI (Y 0) 7 (ms_h T)), ((k 6), aI (Y 0) 420 (ms_m T)), ((k 7), oC 2 [.ref (k 8), .ref (k 9), vI (ms_w T), vI (ms_l T), vI (ms_s T), vI (ms_a T), vI (ms_t T), vI (ms_p T)]), ((k 8), aI (Y 0) 7 (ms_h T)), ((k 9), aI (Y 0) 420 (ms_m T))]) [0, 1, 2, 3, 4, 5] rfl rfl ?_
    refine j_aload_n (pc := 21) C 0 0 rfl rfl dX9_restore_21 ?_
    refine j_get (pc := 22) C (Or.inr ko) rfl fX9_restore_X9 5 (by decide) (List.mem_of_getElem? (i := 2) rfl) (Or.inl rfl) rfl dX9_restore_22 ?_
    refine j_callVi (pc := 25) (As := []) (na := 0) (st := []) C [] [0, 1, 2, 3, 4, 5] (wr := [((k 4), oC 2 [.ref (k 5), .ref (k 6), vI (ms_w T), vI (ms_l T), vI (ms_s T), vI (ms_a T), vI (ms_t T), vI (ms_p T)]), ((k 5), aI (Y 0) 7 (ms_h T)), ((k 6), aI (Y 0) 420 (ms_m T)), ((k 7), oC 2 [.ref (k 8), .ref (k 9), vI (ms_w T), vI (ms_l T), vI (ms_s T), vI (ms_a T), vI (ms_t T), vI (ms_p T)]), ((k 8), aI (Y 0) 7 (ms_h T)), ((k 9), aI (Y 0) 420 (ms_m T))]) (fun l => c_pebbles l D Y _ (k 4) (k 5) (k 6) T (List.mem_append_left _ (List.mem_of_getElem? (i := 0) rfl)) (List.mem_append_left _ (List.mem_of_getElem? (i := 1) rfl)) ) rfl rfl rfl rfl (by decide) rfl (Or.inr (List.mem_append_left _ (List.mem_of_getElem? (i := 0) rfl))) rfl gX9_restore_X2_pebbles ⟨rfl, by decide +kernel⟩ (by decide) rfl rfl (Nat.le_of_ble_eq_true rfl) (by decide) dX9_restore_25 (fun e_5 w_6 h_7 => ?_)
    obtain ⟨rfl, rfl⟩ := h_7
    refine j_perm (ws' := [((k 4), oC 2 [.ref (k 5), .ref (k 6), vI (ms_w T), vI (ms_l T), vI (ms_s T), vI (ms_a T), vI (ms_t T), vI (ms_p T)]), ((k 5), aI (Y 0) 7 (ms_h T)), ((k 6), aI (Y 0) 420 (ms_m T)), ((k 7), oC 2 [.ref (k 8), .ref (k 9), vI (ms_w T), vI (ms_l T), vI (ms_s T), vI (ms_a T), vI (ms_t T), vI (ms_p T)]), ((k 8), aI (Y 0) 7 (ms_h T)), ((k 9), aI (Y 0) 420 (ms_m T))]) [0, 1, 2, 3, 4, 5] rfl rfl ?_
    exact Rt _ _ _ _ _ _ (by decide) (by decide) ⟨by unfold rRestore; rw [if_neg (by omega)], by unfold sRestore; rw [if_neg (by omega)]; first | done | rfl⟩ dX9_restore_28
  · skip
    refine j_bipush (pc := 7) (w := (-103)) C rfl dX9_restore_7 ?_
    exact Rt _ _ _ _ _ _ (by decide) (by decide) ⟨by unfold rRestore; rw [if_pos (by omega)], by unfold sRestore; rw [if_pos (by omega)]; first | done | rfl⟩ dX9_restore_9

theorem fX9_count_X2 : ∀ w ∈ u_ws RX2 TX2 8, w ∈ wsX9_count := j_words [29, 30, 31, 32, 33, 34, 35, 36] (by decide +kernel)
theorem fX9_count_X4 : ∀ w ∈ u_ws RX4 TX4 2, w ∈ wsX9_count := j_words [37, 38] (by decide +kernel)
theorem fX9_count_X9 : ∀ w ∈ u_ws RX9 TX9 11, w ∈ wsX9_count := j_words [18, 19, 20, 21, 22, 23, 24, 25, 26, 27, 28] (by decide +kernel)
set_option maxHeartbeats 4000000 in
set_option maxRecDepth 100000 in
theorem k_count (l : Launch) (D : va_G) (Y : Nat → ClassId) (RO : va_W) (k : Nat → Nat) (nc : Int) (np : Int) (ik : Int) (S : MS) (pl : Int) (w : Int) (ko : ((k 0), oC 8 [.ref (k 1), .ref (k 2), vI nc, .ref (k 3), vI np, .ref (k 4), .ref (k 7), vI ik, .ref (k 10), .ref (k 13), .ref (k 14)]) ∈ RO) (n0 : ((k 4), oC 2 [.ref (k 5), .ref (k 6), vI (ms_w S), vI (ms_l S), vI (ms_s S), vI (ms_a S), vI (ms_t S), vI (ms_p S)]) ∈ RO) (n1 : ((k 5), aI (Y 0) 7 (ms_h S)) ∈ RO) (n2 : ((k 6), aI (Y 0) 420 (ms_m S)) ∈ RO) (pgo : ((k 1), oC 3 [.ref (k 17), vI pl]) ∈ RO) (hw : -2147483648 ≤ w ∧ w ≤ 2147483647) : jMi l yX9_count wsX9_count { frames := 1, cells := 0, slots := 0, locals := 22 } D Y RO [.ref (k 0), vI w] [] (fun e w1 => e = rCount w np nc pl S ∧ w1 = []) := by
  refine j_ofi RX9 rfl rfl rfl (Nat.le_of_ble_eq_true rfl) (fun X C Rt => ?_)
  refine j_iload_n (pc := 0) C 1 1 rfl rfl dX9_count_0 ?_
  rcases (show w = 0 ∨ w = 1 ∨ w = 2 ∨ w = 3 ∨ w = 4 ∨ w = 5 ∨ w = 6 ∨ w = 7 ∨ w = 8 ∨ w = 9 ∨ (w < 0 ∨ 9 < w) by omega) with h_1p1 | h_1p1 | h_1p1 | h_1p1 | h_1p1 | h_1p1 | h_1p1 | h_1p1 | h_1p1 | h_1p1 | h_1p1
  · refine j_tableC (pc := 1) C 0 56 h_1p1 (by decide) rfl rfl dX9_count_1 ?_
    refine j_aload_n (pc := 56) C 0 0 rfl rfl dX9_count_56 ?_
    refine j_get (pc := 57) C (Or.inr ko) rfl fX9_count_X9 4 (by decide) (List.mem_of_getElem? (i := 1) rfl) (Or.inl rfl) rfl dX9_count_57 ?_
    exact Rt _ _ _ _ _ _ (by decide) (by decide) ⟨by unfold rCount; rw [if_pos (by omega)], rfl⟩ dX9_count_60
  · refine j_tableC (pc := 1) C 1 61 h_1p1 (by decide) rfl rfl dX9_count_1 ?_
    refine j_aload_n (pc := 61) C 0 0 rfl rfl dX9_count_61 ?_
    refine j_get (pc := 62) C (Or.inr ko) rfl fX9_count_X9 2 (by decide) (List.mem_of_getElem? (i := 2) rfl) (Or.inl rfl) rfl dX9_count_62 ?_
    exact Rt _ _ _ _ _ _ (by decide) (by decide) ⟨by unfold rCount; rw [if_neg (by omega), if_pos (by omega)], rfl⟩ dX9_count_65
  · refine j_tableC (pc := 1) C 2 66 h_1p1 (by decide) rfl rfl dX9_count_1 ?_
    refine j_aload_n (pc := 66) C 0 0 rfl rfl dX9_count_66 ?_
    refine j_get (pc := 67) C (Or.inr ko) rfl fX9_count_X9 5 (by decide) (List.mem_of_getElem? (i := 3) rfl) (Or.inl rfl) rfl dX9_count_67 ?_
    refine j_callVi (pc := 70) (As := []) (na := 0) (st := []) C [] [] (wr := []) (fun l => c_pebbles l D Y _ (k 4) (k 5) (k 6) S (List.mem_append_right _ n0) (List.mem_append_right _ n1) ) rfl rfl rfl rfl (by decide) rfl (Or.inr (List.mem_append_right _ n0)) rfl gX9_count_X2_pebbles ⟨rfl, by decide +kernel⟩ (by decide) rfl rfl (Nat.le_of_ble_eq_true rfl) (by decide) dX9_count_70 (fun e_2 w_3 h_4 => ?_)
    obtain ⟨rfl, rfl⟩ := h_4
    refine j_perm (ws' := []) [] rfl rfl ?_
    exact Rt _ _ _ _ _ _ (by decide) (by decide) ⟨by unfold rCount; rw [if_neg (by omega), if_neg (by omega), if_pos (by omega)], rfl⟩ dX9_count_73
  · refine j_tableC (pc := 1) C 3 74 h_1p1 (by decide) rfl rfl dX9_count_1 ?_
    refine j_aload_n (pc := 74) C 0 0 rfl rfl dX9_count_74 ?_
    refine j_get (pc := 75) C (Or.inr ko) rfl fX9_count_X9 5 (by decide) (List.mem_of_getElem? (i := 3) rfl) (Or.inl rfl) rfl dX9_count_75 ?_
    refine j_get (pc := 78) C (Or.inr n0) rfl fX9_count_X2 2 (by decide) (List.mem_of_getElem? (i := 4) rfl) (Or.inl rfl) rfl dX9_count_78 ?_
    exact Rt _ _ _ _ _ _ (by decide) (by decide) ⟨by unfold rCount; rw [if_neg (by omega), if_neg (by omega), if_neg (by omega), if_pos (by omega)], rfl⟩ dX9_count_81
  · refine j_tableC (pc := 1) C 4 82 h_1p1 (by decide) rfl rfl dX9_count_1 ?_
    refine j_aload_n (pc := 82) C 0 0 rfl rfl dX9_count_82 ?_
    refine j_get (pc := 83) C (Or.inr ko) rfl fX9_count_X9 5 (by decide) (List.mem_of_getElem? (i := 3) rfl) (Or.inl rfl) rfl dX9_count_83 ?_
    refine j_get (pc := 86) C (Or.inr n0) rfl fX9_count_X2 4 (by decide) (List.mem_of_getElem? (i := 5) rfl) (Or.inl rfl) rfl dX9_count_86 ?_
    exact Rt _ _ _ _ _ _ (by decide) (by decide) ⟨by unfold rCount; rw [if_neg (by omega), if_neg (by omega), if_neg (by omega), if_neg (by omega), if_pos (by omega)], rfl⟩ dX9_count_89
  · refine j_tableC (pc := 1) C 5 90 h_1p1 (by decide) rfl rfl dX9_count_1 ?_
    refine j_aload_n (pc := 90) C 0 0 rfl rfl dX9_count_90 ?_
    refine j_get (pc := 91) C (Or.inr ko) rfl fX9_count_X9 5 (by decide) (List.mem_of_getElem? (i := 3) rfl) (Or.inl rfl) rfl dX9_count_91 ?_
    refine j_get (pc := 94) C (Or.inr n0) rfl fX9_count_X2 3 (by decide) (List.mem_of_getElem? (i := 6) rfl) (Or.inl rfl) rfl dX9_count_94 ?_
    exact Rt _ _ _ _ _ _ (by decide) (by decide) ⟨by unfold rCount; rw [if_neg (by omega), if_neg (by omega), if_neg (by omega), if_neg (by omega), if_neg (by omega), if_pos (by omega)], rfl⟩ dX9_count_97
  · refine j_tableC (pc := 1) C 6 98 h_1p1 (by decide) rfl rfl dX9_count_1 ?_
    refine j_aload_n (pc := 98) C 0 0 rfl rfl dX9_count_98 ?_
    refine j_get (pc := 99) C (Or.inr ko) rfl fX9_count_X9 5 (by decide) (List.mem_of_getElem? (i := 3) rfl) (Or.inl rfl) rfl dX9_count_99 ?_
    refine j_get (pc := 102) C (Or.inr n0) rfl fX9_count_X2 5 (by decide) (List.mem_of_getElem? (i := 7) rfl) (Or.inl rfl) rfl dX9_count_102 ?_
    exact Rt _ _ _ _ _ _ (by decide) (by decide) ⟨by unfold rCount; rw [if_neg (by omega), if_neg (by omega), if_neg (by omega), if_neg (by omega), if_neg (by omega), if_neg (by omega), if_pos (by omega)], rfl⟩ dX9_count_105
  · refine j_tableC (pc := 1) C 7 106 h_1p1 (by decide) rfl rfl dX9_count_1 ?_
    refine j_aload_n (pc := 106) C 0 0 rfl rfl dX9_count_106 ?_
    refine j_get (pc := 107) C (Or.inr ko) rfl fX9_count_X9 5 (by decide) (List.mem_of_getElem? (i := 3) rfl) (Or.inl rfl) rfl dX9_count_107 ?_
    refine j_get (pc := 110) C (Or.inr n0) rfl fX9_count_X2 6 (by decide) (List.mem_of_getElem? (i := 8) rfl) (Or.inl rfl) rfl dX9_count_110 ?_
    exact Rt _ _ _ _ _ _ (by decide) (by decide) ⟨by unfold rCount; rw [if_neg (by omega), if_neg (by omega), if_neg (by omega), if_neg (by omega), if_neg (by omega), if_neg (by omega), if_neg (by omega), if_pos (by omega)], rfl⟩ dX9_count_113
  · refine j_tableC (pc := 1) C 8 114 h_1p1 (by decide) rfl rfl dX9_count_1 ?_
    refine j_aload_n (pc := 114) C 0 0 rfl rfl dX9_count_114 ?_
    refine j_get (pc := 115) C (Or.inr ko) rfl fX9_count_X9 5 (by decide) (List.mem_of_getElem? (i := 3) rfl) (Or.inl rfl) rfl dX9_count_115 ?_
    refine j_get (pc := 118) C (Or.inr n0) rfl fX9_count_X2 7 (by decide) (List.mem_of_getElem? (i := 9) rfl) (Or.inl rfl) rfl dX9_count_118 ?_
    exact Rt _ _ _ _ _ _ (by decide) (by decide) ⟨by unfold rCount; rw [if_neg (by omega), if_neg (by omega), if_neg (by omega), if_neg (by omega), if_neg (by omega), if_neg (by omega), if_neg (by omega), if_neg (by omega), if_pos (by omega)], rfl⟩ dX9_count_121
  · refine j_tableC (pc := 1) C 9 122 h_1p1 (by decide) rfl rfl dX9_count_1 ?_
    refine j_aload_n (pc := 122) C 0 0 rfl rfl dX9_count_122 ?_
    refine j_get (pc := 123) C (Or.inr ko) rfl fX9_count_X9 0 (by decide) (List.mem_of_getElem? (i := 10) rfl) (Or.inl rfl) rfl dX9_count_123 ?_
    refine j_get (pc := 126) C (Or.inr pgo) rfl fX9_count_X4 1 (by decide) (List.mem_of_getElem? (i := 11) rfl) (Or.inl rfl) rfl dX9_count_126 ?_
    exact Rt _ _ _ _ _ _ (by decide) (by decide) ⟨by unfold rCount; rw [if_neg (by omega), if_neg (by omega), if_neg (by omega), if_neg (by omega), if_neg (by omega), if_neg (by omega), if_neg (by omega), if_neg (by omega), if_neg (by omega), if_pos (by omega)], rfl⟩ dX9_count_129
  · refine j_tableD (pc := 1) C 130 (by omega) h_1p1 rfl dX9_count_1 ?_
    refine j_bipush (pc := 130) (w := (-102)) C rfl dX9_count_130 ?_
    exact Rt _ _ _ _ _ _ (by decide) (by decide) ⟨by unfold rCount; rw [if_neg (by omega), if_neg (by omega), if_neg (by omega), if_neg (by omega), if_neg (by omega), if_neg (by omega), if_neg (by omega), if_neg (by omega), if_neg (by omega), if_neg (by omega)], rfl⟩ dX9_count_132
