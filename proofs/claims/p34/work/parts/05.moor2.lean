theorem fX2_takeOff_X2 : ∀ w ∈ u_ws RX2 TX2 8, w ∈ wsX2_takeOff := j_words [10, 11, 12, 13, 14, 15, 16, 17] (by decide +kernel)
set_option maxHeartbeats 4000000 in
set_option maxRecDepth 100000 in
theorem c_takeOff (l : Launch) (D : va_G) (Y : Nat → ClassId) (RO : va_W) (h : Nat) (hh : Nat) (hm : Nat) (S : MS) (c : Int) (n : Int)  (hS : okS S) (hc : 0 ≤ c ∧ c < 7) (hn : 0 ≤ n ∧ n ≤ 2147483647) : jMv l yX2_takeOff wsX2_takeOff { frames := 1, cells := 0, slots := 0, locals := 21 } D Y RO [.ref h, vI c, vI n] [(h, oC 2 [.ref hh, .ref hm, vI (ms_w S), vI (ms_l S), vI (ms_s S), vI (ms_a S), vI (ms_t S), vI (ms_p S)]), (hh, aI (Y 0) 7 (ms_h S)), (hm, aI (Y 0) 420 (ms_m S))] (fun w1 => w1 = [(h, oC 2 [.ref hh, .ref hm, vI (ms_w (takeS c n S)), vI (ms_l (takeS c n S)), vI (ms_s (takeS c n S)), vI (ms_a (takeS c n S)), vI (ms_t (takeS c n S)), vI (ms_p (takeS c n S))]), (hh, aI (Y 0) 7 (ms_h (takeS c n S))), (hm, aI (Y 0) 420 (ms_m (takeS c n S)))]) := by
  refine j_ofv RX2 rfl rfl rfl (Nat.le_of_ble_eq_true rfl) (fun X C Rt hI => ?_)
  refine j_iload_n (pc := 0) C 1 1 rfl rfl dX2_takeOff_0 ?_
  refine j_callSNi (pc := 1) (As := [vI c]) (na := 1) (st := []) C [] [0, 1, 2] (wr := [(h, oC 2 [.ref hh, .ref hm, vI (ms_w S), vI (ms_l S), vI (ms_s S), vI (ms_a S), vI (ms_t S), vI (ms_p S)]), (hh, aI (Y 0) 7 (ms_h S)), (hm, aI (Y 0) 420 (ms_m S))]) (fun l => c_isCairn l D Y _ c (by first | assumption | omega)) rfl rfl rfl rfl (by decide) rfl (host := "KneelingStones") gX2_takeOff_X9_isCairn_n43 (List.mem_of_getElem? (i := 7) rfl) (List.mem_of_getElem? (i := 8) rfl) (fun _ h => h.1.1) (by decide +kernel) (by decide) rfl rfl (Nat.le_of_ble_eq_true rfl) (by decide) dX2_takeOff_1 (fun e_1 w_2 h_3 => ?_)
  obtain ⟨rfl, rfl⟩ := h_3
  refine j_perm (ws' := [(h, oC 2 [.ref hh, .ref hm, vI (ms_w S), vI (ms_l S), vI (ms_s S), vI (ms_a S), vI (ms_t S), vI (ms_p S)]), (hh, aI (Y 0) 7 (ms_h S)), (hm, aI (Y 0) 420 (ms_m S))]) [0, 1, 2] rfl rfl ?_
  refine j_if_neb (pc := 4) C 8 rfl dX2_takeOff_4 (fun h_4p4 => ?_) (fun h_4p4 => ?_)
  · skip
    refine j_iload_n (pc := 8) C 2 2 rfl rfl dX2_takeOff_8 ?_
    refine j_aload_n (pc := 9) C 0 0 rfl rfl dX2_takeOff_9 ?_
    refine j_get (pc := 10) C (Or.inl (List.mem_of_getElem? (i := 0) rfl)) rfl fX2_takeOff_X2 0 (by decide) (List.mem_of_getElem? (i := 1) rfl) (Or.inl rfl) rfl dX2_takeOff_10 ?_
    refine j_iload_n (pc := 13) C 1 1 rfl rfl dX2_takeOff_13 ?_
    refine j_iald (pc := 14) C (Or.inl (List.mem_of_getElem? (i := 1) rfl)) rfl (by omega) (by decide) dX2_takeOff_14 ?_
    have f_5 := hS.1 c (by omega)
    refine j_mmin (pc := 15) (st := []) C (by omega) (List.mem_of_getElem? (i := 2) rfl) (List.mem_of_getElem? (i := 3) rfl) (List.mem_of_getElem? (i := 4) rfl) (List.mem_of_getElem? (i := 5) rfl) (by decide) (Nat.le_of_ble_eq_true rfl) (by decide) dX2_takeOff_15 ?_
    refine j_istore_n (pc := 18) (lc' := [(3, vI (if ms_h S c < n then ms_h S c else n)), (0, .ref h), (1, vI c), (2, vI n)]) C 3 rfl (by decide) rfl dX2_takeOff_18 ?_
    refine j_aload_n (pc := 19) C 0 1 rfl rfl dX2_takeOff_19 ?_
    refine j_get (pc := 20) C (Or.inl (List.mem_of_getElem? (i := 0) rfl)) rfl fX2_takeOff_X2 0 (by decide) (List.mem_of_getElem? (i := 1) rfl) (Or.inl rfl) rfl dX2_takeOff_20 ?_
    refine j_iload_n (pc := 23) C 1 2 rfl rfl dX2_takeOff_23 ?_
    refine j_dup2 (pc := 24) C rfl rfl dX2_takeOff_24 ?_
    refine j_iald (pc := 25) C (Or.inl (List.mem_of_getElem? (i := 1) rfl)) rfl (by omega) (by decide) dX2_takeOff_25 ?_
    have f_6 := hS.1 c (by omega)
    refine j_iload_n (pc := 26) C 3 0 rfl rfl dX2_takeOff_26 ?_
    refine j_isub (pc := 27) C dX2_takeOff_27 ?_
    refine j_iast (pc := 28) (ws' := [(h, oC 2 [.ref hh, .ref hm, vI (ms_w S), vI (ms_l S), vI (ms_s S), vI (ms_a S), vI (ms_t S), vI (ms_p S)]), (hh, aI (Y 0) 7 (up (ms_h S) c (ms_h S c - (if ms_h S c < n then ms_h S c else n)))), (hm, aI (Y 0) 420 (ms_m S))]) C 1 rfl rfl (by omega) (by decide) rfl dX2_takeOff_28 ?_
    refine j_aload_n (pc := 29) C 0 1 rfl rfl dX2_takeOff_29 ?_
    refine j_dup (pc := 30) C rfl dX2_takeOff_30 ?_
    refine j_get (pc := 31) C (Or.inl (List.mem_of_getElem? (i := 0) rfl)) rfl fX2_takeOff_X2 6 (by decide) (List.mem_of_getElem? (i := 6) rfl) (Or.inl rfl) rfl dX2_takeOff_31 ?_
    refine j_iload_n (pc := 34) C 3 0 rfl rfl dX2_takeOff_34 ?_
    refine j_iadd (pc := 35) C dX2_takeOff_35 ?_
    refine j_put (pc := 36) (ws' := [(h, oC 2 [.ref hh, .ref hm, vI (ms_w S), vI (ms_l S), vI (ms_s S), vI (ms_a S), vI (ms_t S + (if ms_h S c < n then ms_h S c else n)), vI (ms_p S)]), (hh, aI (Y 0) 7 (up (ms_h S) c (ms_h S c - (if ms_h S c < n then ms_h S c else n)))), (hm, aI (Y 0) 420 (ms_m S))]) C 0 rfl rfl fX2_takeOff_X2 tyX2_ok nmX2 6 (by decide) (List.mem_of_getElem? (i := 6) rfl) (Or.inl rfl) rfl rfl rfl rfl (Nat.le_of_ble_eq_true rfl) rfl dX2_takeOff_36 ?_
    exact Rt _ _ _ _ _ (by decide) (by decide) rfl dX2_takeOff_39
  · skip
    exact absurd hc h_4p4

theorem fX2_markAt_X2 : ∀ w ∈ u_ws RX2 TX2 8, w ∈ wsX2_markAt := j_words [6, 7, 8, 9, 10, 11, 12, 13] (by decide +kernel)
set_option maxHeartbeats 4000000 in
set_option maxRecDepth 100000 in
theorem c_markAt (l : Launch) (D : va_G) (Y : Nat → ClassId) (RO : va_W) (h : Nat) (hh : Nat) (hm : Nat) (S : MS) (c : Int) (d : Int) (r0 : (h, oC 2 [.ref hh, .ref hm, vI (ms_w S), vI (ms_l S), vI (ms_s S), vI (ms_a S), vI (ms_t S), vI (ms_p S)]) ∈ RO) (r1 : (hh, aI (Y 0) 7 (ms_h S)) ∈ RO) (r2 : (hm, aI (Y 0) 420 (ms_m S)) ∈ RO) (hS : okS S) (hc : 0 ≤ c ∧ c < 7) (hd : 0 ≤ d ∧ d ≤ 2147483000) : jMi l yX2_markAt wsX2_markAt { frames := 1, cells := 0, slots := 0, locals := 20 } D Y RO [.ref h, vI c, vI d] [] (fun e w1 => e = markS c d S ∧ w1 = []) := by
  refine j_ofi RX2 rfl rfl rfl (Nat.le_of_ble_eq_true rfl) (fun X C Rt => ?_)
  refine j_iload_n (pc := 0) C 1 1 rfl rfl dX2_markAt_0 ?_
  refine j_callSNi (pc := 1) (As := [vI c]) (na := 1) (st := []) C [] [] (wr := []) (fun l => c_isCairn l D Y _ c (by first | assumption | omega)) rfl rfl rfl rfl (by decide) rfl (host := "KneelingStones") gX2_markAt_X9_isCairn_n43 (List.mem_of_getElem? (i := 3) rfl) (List.mem_of_getElem? (i := 4) rfl) (fun _ h => h.1.1) (by decide +kernel) (by decide) rfl rfl (Nat.le_of_ble_eq_true rfl) (by decide) dX2_markAt_1 (fun e_1 w_2 h_3 => ?_)
  obtain ⟨rfl, rfl⟩ := h_3
  refine j_perm (ws' := []) [] rfl rfl ?_
  refine j_if_neb (pc := 4) C 9 rfl dX2_markAt_4 (fun h_4p4 => ?_) (fun h_4p4 => ?_)
  · skip
    refine j_aload_n (pc := 9) C 0 0 rfl rfl dX2_markAt_9 ?_
    refine j_get (pc := 10) C (Or.inr r0) rfl fX2_markAt_X2 0 (by decide) (List.mem_of_getElem? (i := 1) rfl) (Or.inl rfl) rfl dX2_markAt_10 ?_
    refine j_iload_n (pc := 13) C 1 1 rfl rfl dX2_markAt_13 ?_
    refine j_iald (pc := 14) C (Or.inr r1) rfl (by omega) (by decide) dX2_markAt_14 ?_
    have f_5 := hS.1 c (by omega)
    refine j_iconst (pc := 15) C dX2_markAt_15 ?_
    refine j_isub (pc := 16) C dX2_markAt_16 ?_
    refine j_iload_n (pc := 17) C 2 2 rfl rfl dX2_markAt_17 ?_
    refine j_isub (pc := 18) C dX2_markAt_18 ?_
    refine j_istore_n (pc := 19) (lc' := [(3, vI ((ms_h S c - 1) - d)), (0, .ref h), (1, vI c), (2, vI d)]) C 3 rfl (by decide) rfl dX2_markAt_19 ?_
    refine j_iload_n (pc := 20) C 3 0 rfl rfl dX2_markAt_20 ?_
    refine j_if_lt (pc := 21) C 30 rfl (by omega) dX2_markAt_21 (fun h_6p21 => ?_) (fun h_6p21 => ?_)
    · skip
      refine j_iconst (pc := 30) C dX2_markAt_30 ?_
      exact Rt _ _ _ _ _ _ (by decide) (by decide) ⟨by unfold markS; rw [if_neg (by omega)], rfl⟩ dX2_markAt_31
    · skip
      refine j_iload_n (pc := 24) C 3 0 rfl rfl dX2_markAt_24 ?_
      refine j_bipush (pc := 25) (w := 60) C rfl dX2_markAt_25 ?_
      refine j_icmp_lt (pc := 27) C 32 rfl (by omega) dX2_markAt_27 (fun h_7p27 => ?_) (fun h_7p27 => ?_)
      · skip
        refine j_aload_n (pc := 32) C 0 1 rfl rfl dX2_markAt_32 ?_
        refine j_get (pc := 33) C (Or.inr r0) rfl fX2_markAt_X2 1 (by decide) (List.mem_of_getElem? (i := 2) rfl) (Or.inl rfl) rfl dX2_markAt_33 ?_
        refine j_iload_n (pc := 36) C 1 2 rfl rfl dX2_markAt_36 ?_
        refine j_bipush (pc := 37) (w := 60) C rfl dX2_markAt_37 ?_
        refine j_imul (pc := 39) C dX2_markAt_39 ?_
        rw [show ((c * 60) : Int) = (60 * c) from Int.mul_comm _ _]
        refine j_iload_n (pc := 40) C 3 0 rfl rfl dX2_markAt_40 ?_
        refine j_iadd (pc := 41) C dX2_markAt_41 ?_
        refine j_iald (pc := 42) C (Or.inr r2) rfl (by omega) (by decide) dX2_markAt_42 ?_
        exact Rt _ _ _ _ _ _ (by decide) (by decide) ⟨by unfold markS; rw [if_pos (by omega)], rfl⟩ dX2_markAt_43
      · skip
        refine j_iconst (pc := 30) C dX2_markAt_30 ?_
        exact Rt _ _ _ _ _ _ (by decide) (by decide) ⟨by unfold markS; rw [if_neg (by omega)], rfl⟩ dX2_markAt_31
  · skip
    exact absurd hc h_4p4

theorem fX2_draw_X2 : ∀ w ∈ u_ws RX2 TX2 8, w ∈ wsX2_draw := j_words [5, 6, 7, 8, 9, 10, 11, 12] (by decide +kernel)
set_option maxHeartbeats 4000000 in
set_option maxRecDepth 100000 in
theorem c_draw (l : Launch) (D : va_G) (Y : Nat → ClassId) (RO : va_W) (h : Nat) (hh : Nat) (hm : Nat) (S : MS)  (hS : okS S) : jMi l yX2_draw wsX2_draw { frames := 0, cells := 0, slots := 0, locals := 0 } D Y RO [.ref h] [(h, oC 2 [.ref hh, .ref hm, vI (ms_w S), vI (ms_l S), vI (ms_s S), vI (ms_a S), vI (ms_t S), vI (ms_p S)]), (hh, aI (Y 0) 7 (ms_h S)), (hm, aI (Y 0) 420 (ms_m S))] (fun e w1 => e = drawV (drawS S) ∧ w1 = [(h, oC 2 [.ref hh, .ref hm, vI (ms_w (drawS S)), vI (ms_l (drawS S)), vI (ms_s (drawS S)), vI (ms_a (drawS S)), vI (ms_t (drawS S)), vI (ms_p (drawS S))]), (hh, aI (Y 0) 7 (ms_h (drawS S))), (hm, aI (Y 0) 420 (ms_m (drawS S)))]) := by
  refine j_ofi RX2 rfl rfl rfl (Nat.le_of_ble_eq_true rfl) (fun X C Rt => ?_)
  have hs := hS.2.2.2
  refine j_aload_n (pc := 0) C 0 0 rfl rfl dX2_draw_0 ?_
  refine j_ldc2 (pc := 1) (w := 1103515245) C (List.mem_of_getElem? (i := 1) rfl) dX2_draw_1 ?_
  refine j_aload_n (pc := 4) C 0 0 rfl rfl dX2_draw_4 ?_
  refine j_get (pc := 5) C (Or.inl (List.mem_of_getElem? (i := 0) rfl)) rfl fX2_draw_X2 4 (by decide) (List.mem_of_getElem? (i := 2) rfl) (Or.inl rfl) rfl dX2_draw_5 ?_
  refine j_i2l (pc := 8) C (by omega) dX2_draw_8 ?_
  refine j_lmul (pc := 9) C dX2_draw_9 ?_
  refine j_ldc2 (pc := 10) (w := 12345) C (List.mem_of_getElem? (i := 3) rfl) dX2_draw_10 ?_
  refine j_ladd (pc := 13) C dX2_draw_13 ?_
  refine j_ldc2 (pc := 14) (w := 2147483647) C (List.mem_of_getElem? (i := 4) rfl) dX2_draw_14 ?_
  refine j_land (pc := 17) C dX2_draw_17 ?_
  rw [land31]
  refine j_l2i (pc := 18) C dX2_draw_18 ?_
  refine j_put (pc := 19) (ws' := [(h, oC 2 [.ref hh, .ref hm, vI (ms_w S), vI (ms_l S), vI ((1103515245 * ms_s S + 12345) % 2147483648), vI (ms_a S), vI (ms_t S), vI (ms_p S)]), (hh, aI (Y 0) 7 (ms_h S)), (hm, aI (Y 0) 420 (ms_m S))]) C 0 rfl rfl fX2_draw_X2 tyX2_ok nmX2 4 (by decide) (List.mem_of_getElem? (i := 2) rfl) (Or.inl rfl) rfl rfl rfl rfl (Nat.le_of_ble_eq_true rfl) rfl dX2_draw_19 ?_
  refine j_aload_n (pc := 22) C 0 0 rfl rfl dX2_draw_22 ?_
  refine j_get (pc := 23) C (Or.inl (List.mem_of_getElem? (i := 0) rfl)) rfl fX2_draw_X2 4 (by decide) (List.mem_of_getElem? (i := 2) rfl) (Or.inl rfl) rfl dX2_draw_23 ?_
  refine j_bipush (pc := 26) (w := 16) C rfl dX2_draw_26 ?_
  refine j_ishr (pc := 28) C dX2_draw_28 ?_
  rw [shr16 (by omega)]
  refine j_bipush (pc := 29) (w := 10) C rfl dX2_draw_29 ?_
  refine j_irem (pc := 31) C (by omega) dX2_draw_31 ?_
  exact Rt _ _ _ _ _ _ (by decide) (by decide) ⟨rfl, rfl⟩ dX2_draw_32

theorem fX2_cairnBy_X2 : ∀ w ∈ u_ws RX2 TX2 8, w ∈ wsX2_cairnBy := j_words [12, 13, 14, 15, 16, 17, 18, 19] (by decide +kernel)
set_option maxHeartbeats 4000000 in
set_option maxRecDepth 100000 in
theorem c_cairnBy (l : Launch) (D : va_G) (Y : Nat → ClassId) (RO : va_W) (h : Nat) (hh : Nat) (hm : Nat) (S : MS) (r : Int) (num : Int) (r0 : (h, oC 2 [.ref hh, .ref hm, vI (ms_w S), vI (ms_l S), vI (ms_s S), vI (ms_a S), vI (ms_t S), vI (ms_p S)]) ∈ RO) (r1 : (hh, aI (Y 0) 7 (ms_h S)) ∈ RO) (hS : okS S) (hr : okR r) : jMi l yX2_cairnBy wsX2_cairnBy { frames := 1, cells := 0, slots := 0, locals := 22 } D Y RO [.ref h, vI r, vI num] [] (fun e w1 => e = ruleS r num S ∧ w1 = []) := by
  refine j_ofi RX2 rfl rfl rfl (Nat.le_of_ble_eq_true rfl) (fun X C Rt => ?_)
  have hl := hS.2.2.1
  unfold okR at hr
  refine j_iload_n (pc := 0) C 1 1 rfl rfl dX2_cairnBy_0 ?_
  rcases (show r = 7 ∨ r = 8 ∨ r = 9 ∨ r = 10 ∨ (r < 7 ∨ 10 < r) by omega) with h_1p1 | h_1p1 | h_1p1 | h_1p1 | h_1p1
  · refine j_tableC (pc := 1) C 7 32 h_1p1 (by decide) rfl rfl dX2_cairnBy_1 ?_
    refine j_aload_n (pc := 32) C 0 0 rfl rfl dX2_cairnBy_32 ?_
    refine j_callVi (pc := 33) (As := []) (na := 0) (st := []) C [] [] (wr := []) (fun l => c_most l D Y _ h hh hm S (List.mem_append_right _ r0) (List.mem_append_right _ r1) (by first | assumption | omega)) rfl rfl rfl rfl (by decide) rfl (Or.inr (List.mem_append_right _ r0)) rfl gX2_cairnBy_X2_most ⟨rfl, by decide +kernel⟩ (by decide) rfl rfl (Nat.le_of_ble_eq_true rfl) (by decide) dX2_cairnBy_33 (fun e_2 w_3 h_4 => ?_)
    obtain ⟨rfl, rfl⟩ := h_4
    refine j_perm (ws' := []) [] rfl rfl ?_
    exact Rt _ _ _ _ _ _ (by decide) (by decide) ⟨by unfold ruleS; rw [if_pos (by omega)], rfl⟩ dX2_cairnBy_36
  · refine j_tableC (pc := 1) C 8 37 h_1p1 (by decide) rfl rfl dX2_cairnBy_1 ?_
    refine j_aload_n (pc := 37) C 0 0 rfl rfl dX2_cairnBy_37 ?_
    refine j_callVi (pc := 38) (As := []) (na := 0) (st := []) C [] [] (wr := []) (fun l => c_fewest l D Y _ h hh hm S (List.mem_append_right _ r0) (List.mem_append_right _ r1) (by first | assumption | omega)) rfl rfl rfl rfl (by decide) rfl (Or.inr (List.mem_append_right _ r0)) rfl gX2_cairnBy_X2_fewest ⟨rfl, by decide +kernel⟩ (by decide) rfl rfl (Nat.le_of_ble_eq_true rfl) (by decide) dX2_cairnBy_38 (fun e_5 w_6 h_7 => ?_)
    obtain ⟨rfl, rfl⟩ := h_7
    refine j_perm (ws' := []) [] rfl rfl ?_
    exact Rt _ _ _ _ _ _ (by decide) (by decide) ⟨by unfold ruleS; rw [if_neg (by omega), if_pos (by omega)], rfl⟩ dX2_cairnBy_41
  · refine j_tableC (pc := 1) C 9 42 h_1p1 (by decide) rfl rfl dX2_cairnBy_1 ?_
    refine j_iload_n (pc := 42) C 2 2 rfl rfl dX2_cairnBy_42 ?_
    exact Rt _ _ _ _ _ _ (by decide) (by decide) ⟨by unfold ruleS; rw [if_neg (by omega), if_neg (by omega), if_pos (by omega)], rfl⟩ dX2_cairnBy_43
  · refine j_tableC (pc := 1) C 10 44 h_1p1 (by decide) rfl rfl dX2_cairnBy_1 ?_
    refine j_aload_n (pc := 44) C 0 0 rfl rfl dX2_cairnBy_44 ?_
    refine j_get (pc := 45) C (Or.inr r0) rfl fX2_cairnBy_X2 3 (by decide) (List.mem_of_getElem? (i := 1) rfl) (Or.inl rfl) rfl dX2_cairnBy_45 ?_
    refine j_iconst (pc := 48) C dX2_cairnBy_48 ?_
    refine j_iadd (pc := 49) C dX2_cairnBy_49 ?_
    refine j_bipush (pc := 50) (w := 7) C rfl dX2_cairnBy_50 ?_
    refine j_irem (pc := 52) C (by omega) dX2_cairnBy_52 ?_
    exact Rt _ _ _ _ _ _ (by decide) (by decide) ⟨by unfold ruleS; rw [if_neg (by omega), if_neg (by omega), if_neg (by omega), if_pos (by omega)], rfl⟩ dX2_cairnBy_53
  · refine j_tableD (pc := 1) C 54 (by omega) h_1p1 rfl dX2_cairnBy_1 ?_
    refine j_iload_n (pc := 54) C 1 1 rfl rfl dX2_cairnBy_54 ?_
    exact Rt _ _ _ _ _ _ (by decide) (by decide) ⟨by unfold ruleS; rw [if_neg (by omega), if_neg (by omega), if_neg (by omega), if_neg (by omega)], rfl⟩ dX2_cairnBy_55

theorem fX2_pebbles_X2 : ∀ w ∈ u_ws RX2 TX2 8, w ∈ wsX2_pebbles := j_words [2, 3, 4, 5, 6, 7, 8, 9] (by decide +kernel)
set_option maxHeartbeats 4000000 in
set_option maxRecDepth 100000 in
theorem c_pebbles (l : Launch) (D : va_G) (Y : Nat → ClassId) (RO : va_W) (h : Nat) (hh : Nat) (hm : Nat) (S : MS) (r0 : (h, oC 2 [.ref hh, .ref hm, vI (ms_w S), vI (ms_l S), vI (ms_s S), vI (ms_a S), vI (ms_t S), vI (ms_p S)]) ∈ RO) (r1 : (hh, aI (Y 0) 7 (ms_h S)) ∈ RO)  : jMi l yX2_pebbles wsX2_pebbles { frames := 0, cells := 0, slots := 0, locals := 0 } D Y RO [.ref h] [] (fun e w1 => e = sumI (ms_h S) 7 ∧ w1 = []) := by
  refine j_ofi RX2 rfl rfl rfl (Nat.le_of_ble_eq_true rfl) (fun X C Rt => ?_)
  refine j_iconst (pc := 0) C dX2_pebbles_0 ?_
  refine j_istore_n (pc := 1) (lc' := [(1, vI 0), (0, .ref h)]) C 1 rfl (by decide) rfl dX2_pebbles_1 ?_
  refine j_iconst (pc := 2) C dX2_pebbles_2 ?_
  refine j_istore_n (pc := 3) (lc' := [(2, vI 0), (1, vI 0), (0, .ref h)]) C 2 rfl (by decide) rfl dX2_pebbles_3 ?_
  have hL4 : ∀ (N4 : Nat) (b : Int) (i : Int), ((7 - i).toNat) < N4 → (0 ≤ i ∧ i ≤ 7) → (b = sumI (ms_h S) i) → jW X 3 0 0 [] [(0, .ref h), (1, vI b), (2, vI i)] 4 [] := by
    intro N4
    induction N4 with
    | zero => intro b i hm4 i4_0 i4_1; omega
    | succ N4 ih4 =>
      intro b i hm4 i4_0 i4_1
      refine j_iload_n (pc := 4) C 2 2 rfl rfl dX2_pebbles_4 ?_
      refine j_bipush (pc := 5) (w := 7) C rfl dX2_pebbles_5 ?_
      refine j_icmp_ge (pc := 7) C 25 rfl (by omega) dX2_pebbles_7 (fun h_1p7 => ?_) (fun h_1p7 => ?_)
      · skip
        refine j_iload_n (pc := 25) C 1 1 rfl rfl dX2_pebbles_25 ?_
        exact Rt _ _ _ _ _ _ (by decide) (by decide) ⟨by rw [i4_1, show i = 7 by omega], rfl⟩ dX2_pebbles_26
      · skip
        refine j_iload_n (pc := 10) C 1 1 rfl rfl dX2_pebbles_10 ?_
        refine j_aload_n (pc := 11) C 0 0 rfl rfl dX2_pebbles_11 ?_
        refine j_get (pc := 12) C (Or.inr r0) rfl fX2_pebbles_X2 0 (by decide) (List.mem_of_getElem? (i := 1) rfl) (Or.inl rfl) rfl dX2_pebbles_12 ?_
        refine j_iload_n (pc := 15) C 2 2 rfl rfl dX2_pebbles_15 ?_
        refine j_iald (pc := 16) C (Or.inr r1) rfl (by omega) (by decide) dX2_pebbles_16 ?_
        refine j_iadd (pc := 17) C dX2_pebbles_17 ?_
        refine j_istore_n (pc := 18) (lc' := [(1, vI (b + ms_h S i)), (0, .ref h), (2, vI i)]) C 1 rfl (by decide) rfl dX2_pebbles_18 ?_
        refine j_iinc (pc := 19) (lc' := [(2, vI (i + 1)), (1, vI (b + ms_h S i)), (0, .ref h)]) C 2 rfl (by decide) rfl dX2_pebbles_19 ?_
        refine j_goto (pc := 22) C 4 rfl dX2_pebbles_22 ?_
        refine j_locals (lc' := [(0, .ref h), (1, vI (b + ms_h S i)), (2, vI (i + 1))]) [2, 1, 0] rfl ?_
        exact ih4 (b + ms_h S i) (i + 1) (by omega) (by omega) (by unfold sumI; rw [fo_succ _ (by omega)]; unfold sumI at i4_1; rw [← i4_1]; rfl)
  refine j_locals (lc' := [(0, .ref h), (1, vI 0), (2, vI 0)]) [2, 1, 0] rfl ?_
  exact hL4 _ 0 0 (Nat.lt_succ_self _) (by omega) rfl

theorem fX2_steal_X2 : ∀ w ∈ u_ws RX2 TX2 8, w ∈ wsX2_steal := j_words [25, 26, 27, 28, 29, 30, 31, 32] (by decide +kernel)
set_option maxHeartbeats 4000000 in
set_option maxRecDepth 100000 in
theorem c_steal (l : Launch) (D : va_G) (Y : Nat → ClassId) (RO : va_W) (h : Nat) (hh : Nat) (hm : Nat) (S : MS) (c : Int) (to : Int)  (hS : okS S) (hc : 0 ≤ c ∧ c < 7) (ht : -1 ≤ to ∧ to < 7) (hw : ms_w S ≤ 2147483000) : jMv l yX2_steal wsX2_steal { frames := 2, cells := 0, slots := 0, locals := 44 } D Y RO [.ref h, vI c, vI to] [(h, oC 2 [.ref hh, .ref hm, vI (ms_w S), vI (ms_l S), vI (ms_s S), vI (ms_a S), vI (ms_t S), vI (ms_p S)]), (hh, aI (Y 0) 7 (ms_h S)), (hm, aI (Y 0) 420 (ms_m S))] (fun w1 => w1 = [(h, oC 2 [.ref hh, .ref hm, vI (ms_w (stealS c to S)), vI (ms_l (stealS c to S)), vI (ms_s (stealS c to S)), vI (ms_a (stealS c to S)), vI (ms_t (stealS c to S)), vI (ms_p (stealS c to S))]), (hh, aI (Y 0) 7 (ms_h (stealS c to S))), (hm, aI (Y 0) 420 (ms_m (stealS c to S)))]) := by
  refine j_ofv RX2 rfl rfl rfl (Nat.le_of_ble_eq_true rfl) (fun X C Rt hI => ?_)
  have hmk := markS_in (c := c) (d := 0) hS
  refine j_iload_n (pc := 0) C 2 2 rfl rfl dX2_steal_0 ?_
  refine j_iconst (pc := 1) C dX2_steal_1 ?_
  refine j_icmp_ne (pc := 2) C 12 rfl (by omega) dX2_steal_2 (fun h_1p2 => ?_) (fun h_1p2 => ?_)
  · skip
    refine j_aload_n (pc := 12) C 0 0 rfl rfl dX2_steal_12 ?_
    refine j_iload_n (pc := 13) C 1 1 rfl rfl dX2_steal_13 ?_
    refine j_iconst (pc := 14) C dX2_steal_14 ?_
    refine j_callVi (pc := 15) (As := [vI c, vI 0]) (na := 2) (st := []) C [] [0, 1, 2] (wr := [(h, oC 2 [.ref hh, .ref hm, vI (ms_w S), vI (ms_l S), vI (ms_s S), vI (ms_a S), vI (ms_t S), vI (ms_p S)]), (hh, aI (Y 0) 7 (ms_h S)), (hm, aI (Y 0) 420 (ms_m S))]) (fun l => c_markAt l D Y _ h hh hm S c 0 (List.mem_append_left _ (List.mem_of_getElem? (i := 0) rfl)) (List.mem_append_left _ (List.mem_of_getElem? (i := 1) rfl)) (List.mem_append_left _ (List.mem_of_getElem? (i := 2) rfl)) (by first | assumption | omega) (by first | assumption | omega) (by first | assumption | omega)) rfl rfl rfl rfl (by decide) rfl (Or.inr (List.mem_append_left _ (List.mem_of_getElem? (i := 0) rfl))) rfl gX2_steal_X2_markAt ⟨rfl, by decide +kernel⟩ (by decide) rfl rfl (Nat.le_of_ble_eq_true rfl) (by decide) dX2_steal_15 (fun e_2 w_3 h_4 => ?_)
    obtain ⟨rfl, rfl⟩ := h_4
    refine j_perm (ws' := [(h, oC 2 [.ref hh, .ref hm, vI (ms_w S), vI (ms_l S), vI (ms_s S), vI (ms_a S), vI (ms_t S), vI (ms_p S)]), (hh, aI (Y 0) 7 (ms_h S)), (hm, aI (Y 0) 420 (ms_m S))]) [0, 1, 2] rfl rfl ?_
    refine j_istore_n (pc := 18) (lc' := [(3, vI (markS c 0 S)), (0, .ref h), (1, vI c), (2, vI to)]) C 3 rfl (by decide) rfl dX2_steal_18 ?_
    refine j_iload_n (pc := 19) C 3 0 rfl rfl dX2_steal_19 ?_
    refine j_iconst (pc := 20) C dX2_steal_20 ?_
    refine j_icmp_eq (pc := 21) C 31 rfl (by omega) dX2_steal_21 (fun h_5p21 => ?_) (fun h_5p21 => ?_)
    · skip
      exact Rt _ _ _ _ _ (by decide) (by decide) (by have e : ms_h S c = 0 := markS_none hS hc (by omega); unfold stealS; rw [if_neg (by omega), if_pos e]; first | done | rfl) dX2_steal_31
    · skip
      refine j_iload_n (pc := 24) C 1 2 rfl rfl dX2_steal_24 ?_
      refine j_callSNi (pc := 25) (As := [vI c]) (na := 1) (st := []) C [] [0, 1, 2] (wr := [(h, oC 2 [.ref hh, .ref hm, vI (ms_w S), vI (ms_l S), vI (ms_s S), vI (ms_a S), vI (ms_t S), vI (ms_p S)]), (hh, aI (Y 0) 7 (ms_h S)), (hm, aI (Y 0) 420 (ms_m S))]) (fun l => c_isCairn l D Y _ c (by first | assumption | omega)) rfl rfl rfl rfl (by decide) rfl (host := "KneelingStones") gX2_steal_X9_isCairn_n43 (List.mem_of_getElem? (i := 12) rfl) (List.mem_of_getElem? (i := 13) rfl) (fun _ h => h.1.1) (by decide +kernel) (by decide) rfl rfl (Nat.le_of_ble_eq_true rfl) (by decide) dX2_steal_25 (fun e_6 w_7 h_8 => ?_)
      obtain ⟨rfl, rfl⟩ := h_8
      refine j_perm (ws' := [(h, oC 2 [.ref hh, .ref hm, vI (ms_w S), vI (ms_l S), vI (ms_s S), vI (ms_a S), vI (ms_t S), vI (ms_p S)]), (hh, aI (Y 0) 7 (ms_h S)), (hm, aI (Y 0) 420 (ms_m S))]) [0, 1, 2] rfl rfl ?_
      refine j_if_neb (pc := 28) C 32 rfl dX2_steal_28 (fun h_9p28 => ?_) (fun h_9p28 => ?_)
      · skip
        have hnz : ¬ ms_h S c = 0 := fun q => by have e : markS c 0 S = -1 := by { unfold markS; rw [if_neg (by omega)] }; omega
        refine j_aload_n (pc := 32) C 0 1 rfl rfl dX2_steal_32 ?_
        refine j_get (pc := 33) C (Or.inl (List.mem_of_getElem? (i := 0) rfl)) rfl fX2_steal_X2 0 (by decide) (List.mem_of_getElem? (i := 1) rfl) (Or.inl rfl) rfl dX2_steal_33 ?_
        refine j_iload_n (pc := 36) C 1 2 rfl rfl dX2_steal_36 ?_
        refine j_dup2 (pc := 37) C rfl rfl dX2_steal_37 ?_
        refine j_iald (pc := 38) C (Or.inl (List.mem_of_getElem? (i := 1) rfl)) rfl (by omega) (by decide) dX2_steal_38 ?_
        have f_10 := hS.1 c (by omega)
        refine j_iconst (pc := 39) C dX2_steal_39 ?_
        refine j_isub (pc := 40) C dX2_steal_40 ?_
        refine j_iast (pc := 41) (ws' := [(h, oC 2 [.ref hh, .ref hm, vI (ms_w S), vI (ms_l S), vI (ms_s S), vI (ms_a S), vI (ms_t S), vI (ms_p S)]), (hh, aI (Y 0) 7 (up (ms_h S) c (ms_h S c - 1))), (hm, aI (Y 0) 420 (ms_m S))]) C 1 rfl rfl (by omega) (by decide) rfl dX2_steal_41 ?_
        refine j_aload_n (pc := 42) C 0 1 rfl rfl dX2_steal_42 ?_
        refine j_iload_n (pc := 43) C 2 3 rfl rfl dX2_steal_43 ?_
        refine j_iload_n (pc := 44) C 3 0 rfl rfl dX2_steal_44 ?_
        refine j_callVv (pc := 45) (As := [vI to, vI (markS c 0 S)]) (na := 2) (st := []) C [0, 1, 2] [] (wr := []) (fun l => c_put l D Y _ h hh hm (up (ms_h S) c (ms_h S c - 1), ms_m S, ms_w S, ms_l S, ms_s S, ms_a S, ms_t S, ms_p S) to (markS c 0 S) (okS_H hS hc hnz) (by omega)) rfl rfl rfl rfl (by decide) rfl (Or.inl (List.mem_of_getElem? (i := 0) rfl)) rfl gX2_steal_X2_put ⟨rfl, by decide +kernel⟩ (by decide) rfl rfl (Nat.le_of_ble_eq_true rfl) (by decide) dX2_steal_45 (fun w_12 h_13 => ?_)
        subst h_13
        refine j_perm (ws' := [(h, oC 2 [.ref hh, .ref hm, vI (ms_w (putS to (markS c 0 S) (up (ms_h S) c (ms_h S c - 1), ms_m S, ms_w S, ms_l S, ms_s S, ms_a S, ms_t S, ms_p S))), vI (ms_l (putS to (markS c 0 S) (up (ms_h S) c (ms_h S c - 1), ms_m S, ms_w S, ms_l S, ms_s S, ms_a S, ms_t S, ms_p S))), vI (ms_s (putS to (markS c 0 S) (up (ms_h S) c (ms_h S c - 1), ms_m S, ms_w S, ms_l S, ms_s S, ms_a S, ms_t S, ms_p S))), vI (ms_a (putS to (markS c 0 S) (up (ms_h S) c (ms_h S c - 1), ms_m S, ms_w S, ms_l S, ms_s S, ms_a S, ms_t S, ms_p S))), vI (ms_t (putS to (markS c 0 S) (up (ms_h S) c (ms_h S c - 1), ms_m S, ms_w S, ms_l S, ms_s S, ms_a S, ms_t S, ms_p S))), vI (ms_p (putS to (markS c 0 S) (up (ms_h S) c (ms_h S c - 1), ms_m S, ms_w S, ms_l S, ms_s S, ms_a S, ms_t S, ms_p S)))]), (hh, aI (Y 0) 7 (ms_h (putS to (markS c 0 S) (up (ms_h S) c (ms_h S c - 1), ms_m S, ms_w S, ms_l S, ms_s S, ms_a S, ms_t S, ms_p S)))), (hm, aI (Y 0) 420 (ms_m (putS to (markS c 0 S) (up (ms_h S) c (ms_h S c - 1), ms_m S, ms_w S, ms_l S, ms_s S, ms_a S, ms_t S, ms_p S))))]) [0, 1, 2] rfl rfl ?_
        exact Rt _ _ _ _ _ (by decide) (by decide) (by unfold stealS; rw [if_neg (by omega), if_neg hnz]; first | done | rfl) dX2_steal_48
      · skip
        exact absurd hc h_9p28
  · skip
    refine j_aload_n (pc := 5) C 0 0 rfl rfl dX2_steal_5 ?_
    refine j_iload_n (pc := 6) C 1 1 rfl rfl dX2_steal_6 ?_
    refine j_iconst (pc := 7) C dX2_steal_7 ?_
    refine j_callVv (pc := 8) (As := [vI c, vI 1]) (na := 2) (st := []) C [0, 1, 2] [] (wr := []) (fun l => c_takeOff l D Y _ h hh hm S c 1 (by first | assumption | omega) (by first | assumption | omega) (by first | assumption | omega)) rfl rfl rfl rfl (by decide) rfl (Or.inl (List.mem_of_getElem? (i := 0) rfl)) rfl gX2_steal_X2_takeOff ⟨rfl, by decide +kernel⟩ (by decide) rfl rfl (Nat.le_of_ble_eq_true rfl) (by decide) dX2_steal_8 (fun w_15 h_16 => ?_)
    subst h_16
    refine j_perm (ws' := [(h, oC 2 [.ref hh, .ref hm, vI (ms_w (takeS c 1 S)), vI (ms_l (takeS c 1 S)), vI (ms_s (takeS c 1 S)), vI (ms_a (takeS c 1 S)), vI (ms_t (takeS c 1 S)), vI (ms_p (takeS c 1 S))]), (hh, aI (Y 0) 7 (ms_h (takeS c 1 S))), (hm, aI (Y 0) 420 (ms_m (takeS c 1 S)))]) [0, 1, 2] rfl rfl ?_
    exact Rt _ _ _ _ _ (by decide) (by decide) (by unfold stealS; rw [if_pos (by omega)]; first | done | rfl) dX2_steal_11

theorem fX2_flood_X2 : ∀ w ∈ u_ws RX2 TX2 8, w ∈ wsX2_flood := j_words [19, 20, 21, 22, 23, 24, 25, 26] (by decide +kernel)
set_option maxHeartbeats 4000000 in
set_option maxRecDepth 100000 in
theorem c_flood (l : Launch) (D : va_G) (Y : Nat → ClassId) (RO : va_W) (h : Nat) (hh : Nat) (hm : Nat) (S : MS)  (hS : okS S) : jMv l yX2_flood wsX2_flood { frames := 2, cells := 0, slots := 0, locals := 44 } D Y RO [.ref h] [(h, oC 2 [.ref hh, .ref hm, vI (ms_w S), vI (ms_l S), vI (ms_s S), vI (ms_a S), vI (ms_t S), vI (ms_p S)]), (hh, aI (Y 0) 7 (ms_h S)), (hm, aI (Y 0) 420 (ms_m S))] (fun w1 => w1 = [(h, oC 2 [.ref hh, .ref hm, vI (ms_w (drownS S)), vI (ms_l (drownS S)), vI (ms_s (drownS S)), vI (ms_a (drownS S)), vI (ms_t (drownS S)), vI (ms_p (drownS S))]), (hh, aI (Y 0) 7 (ms_h (drownS S))), (hm, aI (Y 0) 420 (ms_m (drownS S)))]) := by
  refine j_ofv RX2 rfl rfl rfl (Nat.le_of_ble_eq_true rfl) (fun X C Rt hI => ?_)
  have hlc := leastI_in (ms_h S)
  refine j_aload_n (pc := 0) C 0 0 rfl rfl dX2_flood_0 ?_
  refine j_callVi (pc := 1) (As := []) (na := 0) (st := []) C [] [0, 1, 2] (wr := [(h, oC 2 [.ref hh, .ref hm, vI (ms_w S), vI (ms_l S), vI (ms_s S), vI (ms_a S), vI (ms_t S), vI (ms_p S)]), (hh, aI (Y 0) 7 (ms_h S)), (hm, aI (Y 0) 420 (ms_m S))]) (fun l => c_fewest l D Y _ h hh hm S (List.mem_append_left _ (List.mem_of_getElem? (i := 0) rfl)) (List.mem_append_left _ (List.mem_of_getElem? (i := 1) rfl)) (by first | assumption | omega)) rfl rfl rfl rfl (by decide) rfl (Or.inr (List.mem_append_left _ (List.mem_of_getElem? (i := 0) rfl))) rfl gX2_flood_X2_fewest ⟨rfl, by decide +kernel⟩ (by decide) rfl rfl (Nat.le_of_ble_eq_true rfl) (by decide) dX2_flood_1 (fun e_1 w_2 h_3 => ?_)
  obtain ⟨rfl, rfl⟩ := h_3
  refine j_perm (ws' := [(h, oC 2 [.ref hh, .ref hm, vI (ms_w S), vI (ms_l S), vI (ms_s S), vI (ms_a S), vI (ms_t S), vI (ms_p S)]), (hh, aI (Y 0) 7 (ms_h S)), (hm, aI (Y 0) 420 (ms_m S))]) [0, 1, 2] rfl rfl ?_
  refine j_istore_n (pc := 4) (lc' := [(1, vI (leastI (ms_h S))), (0, .ref h)]) C 1 rfl (by decide) rfl dX2_flood_4 ?_
  refine j_iload_n (pc := 5) C 1 0 rfl rfl dX2_flood_5 ?_
  refine j_callSNi (pc := 6) (As := [vI (leastI (ms_h S))]) (na := 1) (st := []) C [] [0, 1, 2] (wr := [(h, oC 2 [.ref hh, .ref hm, vI (ms_w S), vI (ms_l S), vI (ms_s S), vI (ms_a S), vI (ms_t S), vI (ms_p S)]), (hh, aI (Y 0) 7 (ms_h S)), (hm, aI (Y 0) 420 (ms_m S))]) (fun l => c_isCairn l D Y _ (leastI (ms_h S)) (by first | assumption | omega)) rfl rfl rfl rfl (by decide) rfl (host := "KneelingStones") gX2_flood_X9_isCairn_n43 (List.mem_of_getElem? (i := 7) rfl) (List.mem_of_getElem? (i := 8) rfl) (fun _ h => h.1.1) (by decide +kernel) (by decide) rfl rfl (Nat.le_of_ble_eq_true rfl) (by decide) dX2_flood_6 (fun e_4 w_5 h_6 => ?_)
  obtain ⟨rfl, rfl⟩ := h_6
  refine j_perm (ws' := [(h, oC 2 [.ref hh, .ref hm, vI (ms_w S), vI (ms_l S), vI (ms_s S), vI (ms_a S), vI (ms_t S), vI (ms_p S)]), (hh, aI (Y 0) 7 (ms_h S)), (hm, aI (Y 0) 420 (ms_m S))]) [0, 1, 2] rfl rfl ?_
  refine j_if_eqb (pc := 9) C 27 rfl dX2_flood_9 (fun h_7p9 => ?_) (fun h_7p9 => ?_)
  · skip
    exact absurd hlc h_7p9
  · skip
    refine j_aload_n (pc := 12) C 0 1 rfl rfl dX2_flood_12 ?_
    refine j_iload_n (pc := 13) C 1 0 rfl rfl dX2_flood_13 ?_
    refine j_aload_n (pc := 14) C 0 1 rfl rfl dX2_flood_14 ?_
    refine j_get (pc := 15) C (Or.inl (List.mem_of_getElem? (i := 0) rfl)) rfl fX2_flood_X2 0 (by decide) (List.mem_of_getElem? (i := 1) rfl) (Or.inl rfl) rfl dX2_flood_15 ?_
    refine j_iload_n (pc := 18) C 1 0 rfl rfl dX2_flood_18 ?_
    refine j_iald (pc := 19) C (Or.inl (List.mem_of_getElem? (i := 1) rfl)) rfl (by omega) (by decide) dX2_flood_19 ?_
    have f_8 := hS.1 (leastI (ms_h S)) (by omega)
    refine j_iconst (pc := 20) C dX2_flood_20 ?_
    refine j_iadd (pc := 21) C dX2_flood_21 ?_
    refine j_iconst (pc := 22) C dX2_flood_22 ?_
    refine j_idiv (pc := 23) C (by omega) dX2_flood_23 ?_
    refine j_callVv (pc := 24) (As := [vI (leastI (ms_h S)), vI ((ms_h S (leastI (ms_h S)) + 1) / 2)]) (na := 2) (st := []) C [0, 1, 2] [] (wr := []) (fun l => c_takeOff l D Y _ h hh hm S (leastI (ms_h S)) ((ms_h S (leastI (ms_h S)) + 1) / 2) (by first | assumption | omega) (by first | assumption | omega) (by first | assumption | omega)) rfl rfl rfl rfl (by decide) rfl (Or.inl (List.mem_of_getElem? (i := 0) rfl)) rfl gX2_flood_X2_takeOff ⟨rfl, by decide +kernel⟩ (by decide) rfl rfl (Nat.le_of_ble_eq_true rfl) (by decide) dX2_flood_24 (fun w_10 h_11 => ?_)
    subst h_11
    refine j_perm (ws' := [(h, oC 2 [.ref hh, .ref hm, vI (ms_w (takeS (leastI (ms_h S)) ((ms_h S (leastI (ms_h S)) + 1) / 2) S)), vI (ms_l (takeS (leastI (ms_h S)) ((ms_h S (leastI (ms_h S)) + 1) / 2) S)), vI (ms_s (takeS (leastI (ms_h S)) ((ms_h S (leastI (ms_h S)) + 1) / 2) S)), vI (ms_a (takeS (leastI (ms_h S)) ((ms_h S (leastI (ms_h S)) + 1) / 2) S)), vI (ms_t (takeS (leastI (ms_h S)) ((ms_h S (leastI (ms_h S)) + 1) / 2) S)), vI (ms_p (takeS (leastI (ms_h S)) ((ms_h S (leastI (ms_h S)) + 1) / 2) S))]), (hh, aI (Y 0) 7 (ms_h (takeS (leastI (ms_h S)) ((ms_h S (leastI (ms_h S)) + 1) / 2) S))), (hm, aI (Y 0) 420 (ms_m (takeS (leastI (ms_h S)) ((ms_h S (leastI (ms_h S)) + 1) / 2) S)))]) [0, 1, 2] rfl rfl ?_
    exact Rt _ _ _ _ _ (by decide) (by decide) rfl dX2_flood_27

theorem fX2_walk_X0 : ∀ w ∈ u_ws RX0 TX0 4, w ∈ wsX2_walk := j_words [104, 105, 106, 107] (by decide +kernel)
theorem fX2_walk_X1 : ∀ w ∈ u_ws RX1 TX1 3, w ∈ wsX2_walk := j_words [120, 121, 122] (by decide +kernel)
theorem fX2_walk_X2 : ∀ w ∈ u_ws RX2 TX2 8, w ∈ wsX2_walk := j_words [123, 124, 125, 126, 127, 128, 129, 130] (by decide +kernel)
theorem fX2_walk_X5 : ∀ w ∈ u_ws RX5 TX5 4, w ∈ wsX2_walk := j_words [108, 109, 110, 111] (by decide +kernel)
theorem fX2_walk_X6 : ∀ w ∈ u_ws RX6 TX6 4, w ∈ wsX2_walk := j_words [112, 113, 114, 115] (by decide +kernel)
theorem fX2_walk_X7 : ∀ w ∈ u_ws RX7 TX7 4, w ∈ wsX2_walk := j_words [116, 117, 118, 119] (by decide +kernel)
set_option maxHeartbeats 4000000 in
set_option maxRecDepth 100000 in
theorem c_walk (l : Launch) (D : va_G) (Y : Nat → ClassId) (RO : va_W) (h : Nat) (hh : Nat) (hm : Nat) (S : MS) (ca : Nat) (Cu : CT) (a : Nat) (P : PT) (num : Int) (hc : (ca, oC 1 [vI (cw Cu), vI (cz Cu), vI (ce Cu)]) ∈ RO) (hp : pC a P ∈ RO) (hS : okS S) (hC : okC Cu) (hP : okP P) (hn : 0 ≤ num ∧ num < 7) (hw : ms_w S ≤ 2147483000) : jMv l yX2_walk wsX2_walk { frames := 3, cells := 0, slots := 0, locals := 67 } D Y RO [.ref h, .ref ca, .ref a, vI num] [(h, oC 2 [.ref hh, .ref hm, vI (ms_w S), vI (ms_l S), vI (ms_s S), vI (ms_a S), vI (ms_t S), vI (ms_p S)]), (hh, aI (Y 0) 7 (ms_h S)), (hm, aI (Y 0) 420 (ms_m S))] (fun w1 => w1 = [(h, oC 2 [.ref hh, .ref hm, vI (ms_w (walkS Cu P num S)), vI (ms_l (walkS Cu P num S)), vI (ms_s (walkS Cu P num S)), vI (ms_a (walkS Cu P num S)), vI (ms_t (walkS Cu P num S)), vI (ms_p (walkS Cu P num S))]), (hh, aI (Y 0) 7 (ms_h (walkS Cu P num S))), (hm, aI (Y 0) 420 (ms_m (walkS Cu P num S)))]) := by
  refine j_ofv RX2 rfl rfl rfl (Nat.le_of_ble_eq_true rfl) (fun X C Rt hI => ?_)
  have hP6 := hP.2.2.2.2.2
  have hS1 := okS_draw hS
  have hS2 := okS_draw hS1
  have hr1 := ruleS_in hC.1 hn hS1
  have hf2 := fromS_in (P := P) hS2 hC hn
  have hg := giftP_in hP
  have hhd := hideP_in hP
  have hd1 := drawV_in hS1
  have hd2 := drawV_in hS2
  refine j_aload_n (pc := 0) C 0 0 rfl rfl dX2_walk_0 ?_
  refine j_callVi (pc := 1) (As := []) (na := 0) (st := []) C [0, 1, 2] [] (wr := []) (fun l => c_draw l D Y _ h hh hm S (by first | assumption | omega)) rfl rfl rfl rfl (by decide) rfl (Or.inl (List.mem_of_getElem? (i := 0) rfl)) rfl gX2_walk_X2_draw ⟨rfl, by decide +kernel⟩ (by decide) rfl rfl (Nat.le_of_ble_eq_true rfl) (by decide) dX2_walk_1 (fun e_1 w_2 h_3 => ?_)
  obtain ⟨rfl, rfl⟩ := h_3
  refine j_perm (ws' := [(h, oC 2 [.ref hh, .ref hm, vI (ms_w (drawS S)), vI (ms_l (drawS S)), vI (ms_s (drawS S)), vI (ms_a (drawS S)), vI (ms_t (drawS S)), vI (ms_p (drawS S))]), (hh, aI (Y 0) 7 (ms_h (drawS S))), (hm, aI (Y 0) 420 (ms_m (drawS S)))]) [0, 1, 2] rfl rfl ?_
  refine j_aload_n (pc := 4) C 2 2 rfl rfl dX2_walk_4 ?_
  refine j_getP (pc := 5) C (Or.inr hp) hP.1 fX2_walk_X5 fX2_walk_X6 fX2_walk_X7 fX2_walk_X0 2 (by decide) (List.mem_of_getElem? (i := 1) rfl) (Or.inl rfl) rfl dX2_walk_5 ?_
  refine j_icmp_ge (pc := 8) C 41 rfl (by omega) dX2_walk_8 (fun h_4p8 => ?_) (fun h_4p8 => ?_)
  · skip
    refine j_aload_n (pc := 41) C 0 0 rfl rfl dX2_walk_41 ?_
    refine j_callVi (pc := 42) (As := []) (na := 0) (st := []) C [0, 1, 2] [] (wr := []) (fun l => c_draw l D Y _ h hh hm (drawS S) hS1) rfl rfl rfl rfl (by decide) rfl (Or.inl (List.mem_of_getElem? (i := 0) rfl)) rfl gX2_walk_X2_draw ⟨rfl, by decide +kernel⟩ (by decide) rfl rfl (Nat.le_of_ble_eq_true rfl) (by decide) dX2_walk_42 (fun e_5 w_6 h_7 => ?_)
    obtain ⟨rfl, rfl⟩ := h_7
    refine j_perm (ws' := [(h, oC 2 [.ref hh, .ref hm, vI (ms_w (drawS (drawS S))), vI (ms_l (drawS (drawS S))), vI (ms_s (drawS (drawS S))), vI (ms_a (drawS (drawS S))), vI (ms_t (drawS (drawS S))), vI (ms_p (drawS (drawS S)))]), (hh, aI (Y 0) 7 (ms_h (drawS (drawS S)))), (hm, aI (Y 0) 420 (ms_m (drawS (drawS S))))]) [0, 1, 2] rfl rfl ?_
    refine j_aload_n (pc := 45) C 2 2 rfl rfl dX2_walk_45 ?_
    refine j_getP (pc := 46) C (Or.inr hp) hP.1 fX2_walk_X5 fX2_walk_X6 fX2_walk_X7 fX2_walk_X0 3 (by decide) (List.mem_of_getElem? (i := 4) rfl) (Or.inl rfl) rfl dX2_walk_46 ?_
    refine j_icmp_ge (pc := 49) C 93 rfl (by omega) dX2_walk_49 (fun h_8p49 => ?_) (fun h_8p49 => ?_)
    · skip
      exact Rt _ _ _ _ _ (by decide) (by decide) (by unfold walkS; first | (rw [if_pos (by omega)]; first | done | rfl) | (rw [if_neg (by omega), if_pos (by omega)]; first | done | rfl) | (rw [if_neg (by omega), if_neg (by omega)]; first | done | rfl)) dX2_walk_93
    · skip
      refine j_aload_n (pc := 52) C 2 2 rfl rfl dX2_walk_52 ?_
      have kk_9 : jW X 5 0 0 [(h, oC 2 [.ref hh, .ref hm, vI (ms_w (drawS (drawS S))), vI (ms_l (drawS (drawS S))), vI (ms_s (drawS (drawS S))), vI (ms_a (drawS (drawS S))), vI (ms_t (drawS (drawS S))), vI (ms_p (drawS (drawS S)))]), (hh, aI (Y 0) 7 (ms_h (drawS (drawS S)))), (hm, aI (Y 0) 420 (ms_m (drawS (drawS S))))] [(0, .ref h), (1, .ref ca), (2, .ref a), (3, vI num)] 56 [vI (if pk P = 3 then 1 else 0)] := by
        refine j_if_eqb (pc := 56) C 66 rfl dX2_walk_56 (fun h_10p56 => ?_) (fun h_10p56 => ?_)
        · skip
          refine j_aload_n (pc := 66) C 0 0 rfl rfl dX2_walk_66 ?_
          refine j_aload_n (pc := 67) C 1 1 rfl rfl dX2_walk_67 ?_
          refine j_get (pc := 68) C (Or.inr hc) rfl fX2_walk_X1 1 (by decide) (List.mem_of_getElem? (i := 5) rfl) (Or.inl rfl) rfl dX2_walk_68 ?_
          refine j_iload_n (pc := 71) C 3 3 rfl rfl dX2_walk_71 ?_
          refine j_callVi (pc := 72) (As := [vI (cz Cu), vI num]) (na := 2) (st := []) C [] [0, 1, 2] (wr := [(h, oC 2 [.ref hh, .ref hm, vI (ms_w (drawS (drawS S))), vI (ms_l (drawS (drawS S))), vI (ms_s (drawS (drawS S))), vI (ms_a (drawS (drawS S))), vI (ms_t (drawS (drawS S))), vI (ms_p (drawS (drawS S)))]), (hh, aI (Y 0) 7 (ms_h (drawS (drawS S)))), (hm, aI (Y 0) 420 (ms_m (drawS (drawS S))))]) (fun l => c_cairnBy l D Y _ h hh hm (drawS (drawS S)) (cz Cu) num (List.mem_append_left _ (List.mem_of_getElem? (i := 0) rfl)) (List.mem_append_left _ (List.mem_of_getElem? (i := 1) rfl)) hS2 hC.2.1) rfl rfl rfl rfl (by decide) rfl (Or.inr (List.mem_append_left _ (List.mem_of_getElem? (i := 0) rfl))) rfl gX2_walk_X2_cairnBy ⟨rfl, by decide +kernel⟩ (by decide) rfl rfl (Nat.le_of_ble_eq_true rfl) (by decide) dX2_walk_72 (fun e_11 w_12 h_13 => ?_)
          obtain ⟨rfl, rfl⟩ := h_13
          refine j_perm (ws' := [(h, oC 2 [.ref hh, .ref hm, vI (ms_w (drawS (drawS S))), vI (ms_l (drawS (drawS S))), vI (ms_s (drawS (drawS S))), vI (ms_a (drawS (drawS S))), vI (ms_t (drawS (drawS S))), vI (ms_p (drawS (drawS S)))]), (hh, aI (Y 0) 7 (ms_h (drawS (drawS S)))), (hm, aI (Y 0) 420 (ms_m (drawS (drawS S))))]) [0, 1, 2] rfl rfl ?_
          rw [show ruleS (cz Cu) num (drawS (drawS S)) = fromS Cu P num (drawS (drawS S)) by unfold fromS; first | rw [if_pos (by omega)] | rw [if_neg (by omega)]]
          refine j_istore (pc := 75) (lc' := [(4, vI (fromS Cu P num (drawS (drawS S)))), (0, .ref h), (1, .ref ca), (2, .ref a), (3, vI num)]) C (by decide) rfl dX2_walk_75 ?_
          refine j_aload_n (pc := 77) C 0 1 rfl rfl dX2_walk_77 ?_
          refine j_iload (pc := 78) C 0 rfl dX2_walk_78 ?_
          refine j_aload_n (pc := 80) C 2 3 rfl rfl dX2_walk_80 ?_
          have kk_14 : jW X 5 0 0 [(h, oC 2 [.ref hh, .ref hm, vI (ms_w (drawS (drawS S))), vI (ms_l (drawS (drawS S))), vI (ms_s (drawS (drawS S))), vI (ms_a (drawS (drawS S))), vI (ms_t (drawS (drawS S))), vI (ms_p (drawS (drawS S)))]), (hh, aI (Y 0) 7 (ms_h (drawS (drawS S)))), (hm, aI (Y 0) 420 (ms_m (drawS (drawS S))))] [(4, vI (fromS Cu P num (drawS (drawS S)))), (0, .ref h), (1, .ref ca), (2, .ref a), (3, vI num)] 84 [vI (hideP P), vI (fromS Cu P num (drawS (drawS S))), .ref h] := by
            refine j_callVv (pc := 84) (As := [vI (fromS Cu P num (drawS (drawS S))), vI (hideP P)]) (na := 2) (st := []) C [0, 1, 2] [] (wr := []) (fun l => c_steal l D Y _ h hh hm (drawS (drawS S)) (fromS Cu P num (drawS (drawS S))) (hideP P) hS2 hf2 hhd hw) rfl rfl rfl rfl (by decide) rfl (Or.inl (List.mem_of_getElem? (i := 0) rfl)) rfl gX2_walk_X2_steal ⟨rfl, by decide +kernel⟩ (by decide) rfl rfl (Nat.le_of_ble_eq_true rfl) (by decide) dX2_walk_84 (fun w_16 h_17 => ?_)
            subst h_17
            refine j_perm (ws' := [(h, oC 2 [.ref hh, .ref hm, vI (ms_w (stealS (fromS Cu P num (drawS (drawS S))) (hideP P) (drawS (drawS S)))), vI (ms_l (stealS (fromS Cu P num (drawS (drawS S))) (hideP P) (drawS (drawS S)))), vI (ms_s (stealS (fromS Cu P num (drawS (drawS S))) (hideP P) (drawS (drawS S)))), vI (ms_a (stealS (fromS Cu P num (drawS (drawS S))) (hideP P) (drawS (drawS S)))), vI (ms_t (stealS (fromS Cu P num (drawS (drawS S))) (hideP P) (drawS (drawS S)))), vI (ms_p (stealS (fromS Cu P num (drawS (drawS S))) (hideP P) (drawS (drawS S))))]), (hh, aI (Y 0) 7 (ms_h (stealS (fromS Cu P num (drawS (drawS S))) (hideP P) (drawS (drawS S))))), (hm, aI (Y 0) 420 (ms_m (stealS (fromS Cu P num (drawS (drawS S))) (hideP P) (drawS (drawS S)))))]) [0, 1, 2] rfl rfl ?_
            refine j_aload_n (pc := 87) C 0 1 rfl rfl dX2_walk_87 ?_
            refine j_iload (pc := 88) C 0 rfl dX2_walk_88 ?_
            refine j_put (pc := 90) (ws' := [(h, oC 2 [.ref hh, .ref hm, vI (ms_w (stealS (fromS Cu P num (drawS (drawS S))) (hideP P) (drawS (drawS S)))), vI (fromS Cu P num (drawS (drawS S))), vI (ms_s (stealS (fromS Cu P num (drawS (drawS S))) (hideP P) (drawS (drawS S)))), vI (ms_a (stealS (fromS Cu P num (drawS (drawS S))) (hideP P) (drawS (drawS S)))), vI (ms_t (stealS (fromS Cu P num (drawS (drawS S))) (hideP P) (drawS (drawS S)))), vI (ms_p (stealS (fromS Cu P num (drawS (drawS S))) (hideP P) (drawS (drawS S))))]), (hh, aI (Y 0) 7 (ms_h (stealS (fromS Cu P num (drawS (drawS S))) (hideP P) (drawS (drawS S))))), (hm, aI (Y 0) 420 (ms_m (stealS (fromS Cu P num (drawS (drawS S))) (hideP P) (drawS (drawS S)))))]) C 0 rfl rfl fX2_walk_X2 tyX2_ok nmX2 3 (by decide) (List.mem_of_getElem? (i := 3) rfl) (Or.inl rfl) rfl rfl rfl rfl (Nat.le_of_ble_eq_true rfl) rfl dX2_walk_90 ?_
            exact Rt _ _ _ _ _ (by decide) (by decide) (by unfold walkS; first | (rw [if_pos (by omega)]; first | done | rfl) | (rw [if_neg (by omega), if_pos (by omega)]; first | done | rfl) | (rw [if_neg (by omega), if_neg (by omega)]; first | done | rfl)) dX2_walk_93
          rcases (show pk P = 0 ∨ pk P = 1 ∨ pk P = 2 ∨ pk P = 3 by have := hP.1; omega) with h_18 | h_18 | h_18 | h_18
          · have hpm := hp
            rw [pC_0 h_18] at hpm
            refine j_callVi (pc := 81) (As := []) (na := 0) (st := [vI (fromS Cu P num (drawS (drawS S))), .ref h]) C [] [0, 1, 2] (wr := [(h, oC 2 [.ref hh, .ref hm, vI (ms_w (drawS (drawS S))), vI (ms_l (drawS (drawS S))), vI (ms_s (drawS (drawS S))), vI (ms_a (drawS (drawS S))), vI (ms_t (drawS (drawS S))), vI (ms_p (drawS (drawS S)))]), (hh, aI (Y 0) 7 (ms_h (drawS (drawS S)))), (hm, aI (Y 0) 420 (ms_m (drawS (drawS S))))]) (fun l => c_X5_hidesOn l D Y _ a  ) rfl rfl rfl rfl (by decide) rfl (Or.inr (List.mem_append_right _ hpm)) rfl gX2_walk_X5_hidesOn ⟨rfl, by decide +kernel⟩ (by decide) rfl rfl (Nat.le_of_ble_eq_true rfl) (by decide) dX2_walk_81 (fun e w1 hq => ?_)
            obtain ⟨rfl, rfl⟩ := hq
            refine j_perm (ws' := [(h, oC 2 [.ref hh, .ref hm, vI (ms_w (drawS (drawS S))), vI (ms_l (drawS (drawS S))), vI (ms_s (drawS (drawS S))), vI (ms_a (drawS (drawS S))), vI (ms_t (drawS (drawS S))), vI (ms_p (drawS (drawS S)))]), (hh, aI (Y 0) 7 (ms_h (drawS (drawS S)))), (hm, aI (Y 0) 420 (ms_m (drawS (drawS S))))]) [0, 1, 2] rfl rfl ?_
            exact j_st rfl rfl (by unfold hideP; simp [h_18]) kk_14
          · have hpm := hp
            rw [pC_1 h_18] at hpm
            refine j_callUi (pc := 81) (As := []) (na := 0) (st := [vI (fromS Cu P num (drawS (drawS S))), .ref h]) C [] [0, 1, 2] (wr := [(h, oC 2 [.ref hh, .ref hm, vI (ms_w (drawS (drawS S))), vI (ms_l (drawS (drawS S))), vI (ms_s (drawS (drawS S))), vI (ms_a (drawS (drawS S))), vI (ms_t (drawS (drawS S))), vI (ms_p (drawS (drawS S)))]), (hh, aI (Y 0) 7 (ms_h (drawS (drawS S)))), (hm, aI (Y 0) 420 (ms_m (drawS (drawS S))))]) (fun l => c_X5_hidesOn l D Y _ a  ) rfl rfl rfl rfl (by decide) rfl (Or.inr (List.mem_append_right _ hpm)) rfl gX2_walk_X5_hidesOn_u109X6 rfl (by decide +kernel) (by decide) rfl rfl (Nat.le_of_ble_eq_true rfl) (by decide) dX2_walk_81 (fun e w1 hq => ?_)
            obtain ⟨rfl, rfl⟩ := hq
            refine j_perm (ws' := [(h, oC 2 [.ref hh, .ref hm, vI (ms_w (drawS (drawS S))), vI (ms_l (drawS (drawS S))), vI (ms_s (drawS (drawS S))), vI (ms_a (drawS (drawS S))), vI (ms_t (drawS (drawS S))), vI (ms_p (drawS (drawS S)))]), (hh, aI (Y 0) 7 (ms_h (drawS (drawS S)))), (hm, aI (Y 0) 420 (ms_m (drawS (drawS S))))]) [0, 1, 2] rfl rfl ?_
            exact j_st rfl rfl (by unfold hideP; simp [h_18]) kk_14
          · have hpm := hp
            rw [pC_2 h_18] at hpm
            refine j_callOi (pc := 81) (As := []) (na := 0) (st := [vI (fromS Cu P num (drawS (drawS S))), .ref h]) C [] [0, 1, 2] (wr := [(h, oC 2 [.ref hh, .ref hm, vI (ms_w (drawS (drawS S))), vI (ms_l (drawS (drawS S))), vI (ms_s (drawS (drawS S))), vI (ms_a (drawS (drawS S))), vI (ms_t (drawS (drawS S))), vI (ms_p (drawS (drawS S)))]), (hh, aI (Y 0) 7 (ms_h (drawS (drawS S)))), (hm, aI (Y 0) 420 (ms_m (drawS (drawS S))))]) (fun l => c_X7_hidesOn l D Y _ a P (List.mem_append_right _ hp) hP) rfl rfl rfl rfl (by decide) rfl (Or.inr (List.mem_append_right _ hpm)) rfl gX2_walk_X7_hidesOn_u109X7 (List.mem_of_getElem? (i := 81) rfl) (by decide +kernel) (by decide) rfl rfl (Nat.le_of_ble_eq_true rfl) (by decide) dX2_walk_81 (fun e w1 hq => ?_)
            obtain ⟨rfl, rfl⟩ := hq
            refine j_perm (ws' := [(h, oC 2 [.ref hh, .ref hm, vI (ms_w (drawS (drawS S))), vI (ms_l (drawS (drawS S))), vI (ms_s (drawS (drawS S))), vI (ms_a (drawS (drawS S))), vI (ms_t (drawS (drawS S))), vI (ms_p (drawS (drawS S)))]), (hh, aI (Y 0) 7 (ms_h (drawS (drawS S)))), (hm, aI (Y 0) 420 (ms_m (drawS (drawS S))))]) [0, 1, 2] rfl rfl ?_
            exact j_st rfl rfl (by unfold hideP; simp [h_18]) kk_14
          · have hpm := hp
            rw [pC_3 h_18] at hpm
            refine j_callOi (pc := 81) (As := []) (na := 0) (st := [vI (fromS Cu P num (drawS (drawS S))), .ref h]) C [] [0, 1, 2] (wr := [(h, oC 2 [.ref hh, .ref hm, vI (ms_w (drawS (drawS S))), vI (ms_l (drawS (drawS S))), vI (ms_s (drawS (drawS S))), vI (ms_a (drawS (drawS S))), vI (ms_t (drawS (drawS S))), vI (ms_p (drawS (drawS S)))]), (hh, aI (Y 0) 7 (ms_h (drawS (drawS S)))), (hm, aI (Y 0) 420 (ms_m (drawS (drawS S))))]) (fun l => c_X7_hidesOn l D Y _ a P (List.mem_append_right _ hp) hP) rfl rfl rfl rfl (by decide) rfl (Or.inr (List.mem_append_right _ hpm)) rfl gX2_walk_X7_hidesOn_u109X0 (List.mem_of_getElem? (i := 81) rfl) (by decide +kernel) (by decide) rfl rfl (Nat.le_of_ble_eq_true rfl) (by decide) dX2_walk_81 (fun e w1 hq => ?_)
            obtain ⟨rfl, rfl⟩ := hq
            refine j_perm (ws' := [(h, oC 2 [.ref hh, .ref hm, vI (ms_w (drawS (drawS S))), vI (ms_l (drawS (drawS S))), vI (ms_s (drawS (drawS S))), vI (ms_a (drawS (drawS S))), vI (ms_t (drawS (drawS S))), vI (ms_p (drawS (drawS S)))]), (hh, aI (Y 0) 7 (ms_h (drawS (drawS S)))), (hm, aI (Y 0) 420 (ms_m (drawS (drawS S))))]) [0, 1, 2] rfl rfl ?_
            exact j_st rfl rfl (by unfold hideP; simp [h_18]) kk_14
        · skip
          refine j_aload_n (pc := 59) C 0 0 rfl rfl dX2_walk_59 ?_
          refine j_callVi (pc := 60) (As := []) (na := 0) (st := []) C [] [0, 1, 2] (wr := [(h, oC 2 [.ref hh, .ref hm, vI (ms_w (drawS (drawS S))), vI (ms_l (drawS (drawS S))), vI (ms_s (drawS (drawS S))), vI (ms_a (drawS (drawS S))), vI (ms_t (drawS (drawS S))), vI (ms_p (drawS (drawS S)))]), (hh, aI (Y 0) 7 (ms_h (drawS (drawS S)))), (hm, aI (Y 0) 420 (ms_m (drawS (drawS S))))]) (fun l => c_most l D Y _ h hh hm (drawS (drawS S)) (List.mem_append_left _ (List.mem_of_getElem? (i := 0) rfl)) (List.mem_append_left _ (List.mem_of_getElem? (i := 1) rfl)) hS2) rfl rfl rfl rfl (by decide) rfl (Or.inr (List.mem_append_left _ (List.mem_of_getElem? (i := 0) rfl))) rfl gX2_walk_X2_most ⟨rfl, by decide +kernel⟩ (by decide) rfl rfl (Nat.le_of_ble_eq_true rfl) (by decide) dX2_walk_60 (fun e_19 w_20 h_21 => ?_)
          obtain ⟨rfl, rfl⟩ := h_21
          refine j_perm (ws' := [(h, oC 2 [.ref hh, .ref hm, vI (ms_w (drawS (drawS S))), vI (ms_l (drawS (drawS S))), vI (ms_s (drawS (drawS S))), vI (ms_a (drawS (drawS S))), vI (ms_t (drawS (drawS S))), vI (ms_p (drawS (drawS S)))]), (hh, aI (Y 0) 7 (ms_h (drawS (drawS S)))), (hm, aI (Y 0) 420 (ms_m (drawS (drawS S))))]) [0, 1, 2] rfl rfl ?_
          refine j_goto (pc := 63) C 75 rfl dX2_walk_63 ?_
          rw [show mostI (ms_h (drawS (drawS S))) = fromS Cu P num (drawS (drawS S)) by unfold fromS; first | rw [if_pos (by omega)] | rw [if_neg (by omega)]]
          refine j_istore (pc := 75) (lc' := [(4, vI (fromS Cu P num (drawS (drawS S)))), (0, .ref h), (1, .ref ca), (2, .ref a), (3, vI num)]) C (by decide) rfl dX2_walk_75 ?_
          refine j_aload_n (pc := 77) C 0 1 rfl rfl dX2_walk_77 ?_
          refine j_iload (pc := 78) C 0 rfl dX2_walk_78 ?_
          refine j_aload_n (pc := 80) C 2 3 rfl rfl dX2_walk_80 ?_
          have kk_22 : jW X 5 0 0 [(h, oC 2 [.ref hh, .ref hm, vI (ms_w (drawS (drawS S))), vI (ms_l (drawS (drawS S))), vI (ms_s (drawS (drawS S))), vI (ms_a (drawS (drawS S))), vI (ms_t (drawS (drawS S))), vI (ms_p (drawS (drawS S)))]), (hh, aI (Y 0) 7 (ms_h (drawS (drawS S)))), (hm, aI (Y 0) 420 (ms_m (drawS (drawS S))))] [(4, vI (fromS Cu P num (drawS (drawS S)))), (0, .ref h), (1, .ref ca), (2, .ref a), (3, vI num)] 84 [vI (hideP P), vI (fromS Cu P num (drawS (drawS S))), .ref h] := by
            refine j_callVv (pc := 84) (As := [vI (fromS Cu P num (drawS (drawS S))), vI (hideP P)]) (na := 2) (st := []) C [0, 1, 2] [] (wr := []) (fun l => c_steal l D Y _ h hh hm (drawS (drawS S)) (fromS Cu P num (drawS (drawS S))) (hideP P) hS2 hf2 hhd hw) rfl rfl rfl rfl (by decide) rfl (Or.inl (List.mem_of_getElem? (i := 0) rfl)) rfl gX2_walk_X2_steal ⟨rfl, by decide +kernel⟩ (by decide) rfl rfl (Nat.le_of_ble_eq_true rfl) (by decide) dX2_walk_84 (fun w_24 h_25 => ?_)
            subst h_25
            refine j_perm (ws' := [(h, oC 2 [.ref hh, .ref hm, vI (ms_w (stealS (fromS Cu P num (drawS (drawS S))) (hideP P) (drawS (drawS S)))), vI (ms_l (stealS (fromS Cu P num (drawS (drawS S))) (hideP P) (drawS (drawS S)))), vI (ms_s (stealS (fromS Cu P num (drawS (drawS S))) (hideP P) (drawS (drawS S)))), vI (ms_a (stealS (fromS Cu P num (drawS (drawS S))) (hideP P) (drawS (drawS S)))), vI (ms_t (stealS (fromS Cu P num (drawS (drawS S))) (hideP P) (drawS (drawS S)))), vI (ms_p (stealS (fromS Cu P num (drawS (drawS S))) (hideP P) (drawS (drawS S))))]), (hh, aI (Y 0) 7 (ms_h (stealS (fromS Cu P num (drawS (drawS S))) (hideP P) (drawS (drawS S))))), (hm, aI (Y 0) 420 (ms_m (stealS (fromS Cu P num (drawS (drawS S))) (hideP P) (drawS (drawS S)))))]) [0, 1, 2] rfl rfl ?_
            refine j_aload_n (pc := 87) C 0 1 rfl rfl dX2_walk_87 ?_
            refine j_iload (pc := 88) C 0 rfl dX2_walk_88 ?_
            refine j_put (pc := 90) (ws' := [(h, oC 2 [.ref hh, .ref hm, vI (ms_w (stealS (fromS Cu P num (drawS (drawS S))) (hideP P) (drawS (drawS S)))), vI (fromS Cu P num (drawS (drawS S))), vI (ms_s (stealS (fromS Cu P num (drawS (drawS S))) (hideP P) (drawS (drawS S)))), vI (ms_a (stealS (fromS Cu P num (drawS (drawS S))) (hideP P) (drawS (drawS S)))), vI (ms_t (stealS (fromS Cu P num (drawS (drawS S))) (hideP P) (drawS (drawS S)))), vI (ms_p (stealS (fromS Cu P num (drawS (drawS S))) (hideP P) (drawS (drawS S))))]), (hh, aI (Y 0) 7 (ms_h (stealS (fromS Cu P num (drawS (drawS S))) (hideP P) (drawS (drawS S))))), (hm, aI (Y 0) 420 (ms_m (stealS (fromS Cu P num (drawS (drawS S))) (hideP P) (drawS (drawS S)))))]) C 0 rfl rfl fX2_walk_X2 tyX2_ok nmX2 3 (by decide) (List.mem_of_getElem? (i := 3) rfl) (Or.inl rfl) rfl rfl rfl rfl (Nat.le_of_ble_eq_true rfl) rfl dX2_walk_90 ?_
            exact Rt _ _ _ _ _ (by decide) (by decide) (by unfold walkS; first | (rw [if_pos (by omega)]; first | done | rfl) | (rw [if_neg (by omega), if_pos (by omega)]; first | done | rfl) | (rw [if_neg (by omega), if_neg (by omega)]; first | done | rfl)) dX2_walk_93
          rcases (show pk P = 0 ∨ pk P = 1 ∨ pk P = 2 ∨ pk P = 3 by have := hP.1; omega) with h_26 | h_26 | h_26 | h_26
          · have hpm := hp
            rw [pC_0 h_26] at hpm
            refine j_callVi (pc := 81) (As := []) (na := 0) (st := [vI (fromS Cu P num (drawS (drawS S))), .ref h]) C [] [0, 1, 2] (wr := [(h, oC 2 [.ref hh, .ref hm, vI (ms_w (drawS (drawS S))), vI (ms_l (drawS (drawS S))), vI (ms_s (drawS (drawS S))), vI (ms_a (drawS (drawS S))), vI (ms_t (drawS (drawS S))), vI (ms_p (drawS (drawS S)))]), (hh, aI (Y 0) 7 (ms_h (drawS (drawS S)))), (hm, aI (Y 0) 420 (ms_m (drawS (drawS S))))]) (fun l => c_X5_hidesOn l D Y _ a  ) rfl rfl rfl rfl (by decide) rfl (Or.inr (List.mem_append_right _ hpm)) rfl gX2_walk_X5_hidesOn ⟨rfl, by decide +kernel⟩ (by decide) rfl rfl (Nat.le_of_ble_eq_true rfl) (by decide) dX2_walk_81 (fun e w1 hq => ?_)
            obtain ⟨rfl, rfl⟩ := hq
            refine j_perm (ws' := [(h, oC 2 [.ref hh, .ref hm, vI (ms_w (drawS (drawS S))), vI (ms_l (drawS (drawS S))), vI (ms_s (drawS (drawS S))), vI (ms_a (drawS (drawS S))), vI (ms_t (drawS (drawS S))), vI (ms_p (drawS (drawS S)))]), (hh, aI (Y 0) 7 (ms_h (drawS (drawS S)))), (hm, aI (Y 0) 420 (ms_m (drawS (drawS S))))]) [0, 1, 2] rfl rfl ?_
            exact j_st rfl rfl (by unfold hideP; simp [h_26]) kk_22
          · have hpm := hp
            rw [pC_1 h_26] at hpm
            refine j_callUi (pc := 81) (As := []) (na := 0) (st := [vI (fromS Cu P num (drawS (drawS S))), .ref h]) C [] [0, 1, 2] (wr := [(h, oC 2 [.ref hh, .ref hm, vI (ms_w (drawS (drawS S))), vI (ms_l (drawS (drawS S))), vI (ms_s (drawS (drawS S))), vI (ms_a (drawS (drawS S))), vI (ms_t (drawS (drawS S))), vI (ms_p (drawS (drawS S)))]), (hh, aI (Y 0) 7 (ms_h (drawS (drawS S)))), (hm, aI (Y 0) 420 (ms_m (drawS (drawS S))))]) (fun l => c_X5_hidesOn l D Y _ a  ) rfl rfl rfl rfl (by decide) rfl (Or.inr (List.mem_append_right _ hpm)) rfl gX2_walk_X5_hidesOn_u109X6 rfl (by decide +kernel) (by decide) rfl rfl (Nat.le_of_ble_eq_true rfl) (by decide) dX2_walk_81 (fun e w1 hq => ?_)
            obtain ⟨rfl, rfl⟩ := hq
            refine j_perm (ws' := [(h, oC 2 [.ref hh, .ref hm, vI (ms_w (drawS (drawS S))), vI (ms_l (drawS (drawS S))), vI (ms_s (drawS (drawS S))), vI (ms_a (drawS (drawS S))), vI (ms_t (drawS (drawS S))), vI (ms_p (drawS (drawS S)))]), (hh, aI (Y 0) 7 (ms_h (drawS (drawS S)))), (hm, aI (Y 0) 420 (ms_m (drawS (drawS S))))]) [0, 1, 2] rfl rfl ?_
            exact j_st rfl rfl (by unfold hideP; simp [h_26]) kk_22
          · have hpm := hp
            rw [pC_2 h_26] at hpm
            refine j_callOi (pc := 81) (As := []) (na := 0) (st := [vI (fromS Cu P num (drawS (drawS S))), .ref h]) C [] [0, 1, 2] (wr := [(h, oC 2 [.ref hh, .ref hm, vI (ms_w (drawS (drawS S))), vI (ms_l (drawS (drawS S))), vI (ms_s (drawS (drawS S))), vI (ms_a (drawS (drawS S))), vI (ms_t (drawS (drawS S))), vI (ms_p (drawS (drawS S)))]), (hh, aI (Y 0) 7 (ms_h (drawS (drawS S)))), (hm, aI (Y 0) 420 (ms_m (drawS (drawS S))))]) (fun l => c_X7_hidesOn l D Y _ a P (List.mem_append_right _ hp) hP) rfl rfl rfl rfl (by decide) rfl (Or.inr (List.mem_append_right _ hpm)) rfl gX2_walk_X7_hidesOn_u109X7 (List.mem_of_getElem? (i := 81) rfl) (by decide +kernel) (by decide) rfl rfl (Nat.le_of_ble_eq_true rfl) (by decide) dX2_walk_81 (fun e w1 hq => ?_)
            obtain ⟨rfl, rfl⟩ := hq
            refine j_perm (ws' := [(h, oC 2 [.ref hh, .ref hm, vI (ms_w (drawS (drawS S))), vI (ms_l (drawS (drawS S))), vI (ms_s (drawS (drawS S))), vI (ms_a (drawS (drawS S))), vI (ms_t (drawS (drawS S))), vI (ms_p (drawS (drawS S)))]), (hh, aI (Y 0) 7 (ms_h (drawS (drawS S)))), (hm, aI (Y 0) 420 (ms_m (drawS (drawS S))))]) [0, 1, 2] rfl rfl ?_
            exact j_st rfl rfl (by unfold hideP; simp [h_26]) kk_22
          · have hpm := hp
            rw [pC_3 h_26] at hpm
            refine j_callOi (pc := 81) (As := []) (na := 0) (st := [vI (fromS Cu P num (drawS (drawS S))), .ref h]) C [] [0, 1, 2] (wr := [(h, oC 2 [.ref hh, .ref hm, vI (ms_w (drawS (drawS S))), vI (ms_l (drawS (drawS S))), vI (ms_s (drawS (drawS S))), vI (ms_a (drawS (drawS S))), vI (ms_t (drawS (drawS S))), vI (ms_p (drawS (drawS S)))]), (hh, aI (Y 0) 7 (ms_h (drawS (drawS S)))), (hm, aI (Y 0) 420 (ms_m (drawS (drawS S))))]) (fun l => c_X7_hidesOn l D Y _ a P (List.mem_append_right _ hp) hP) rfl rfl rfl rfl (by decide) rfl (Or.inr (List.mem_append_right _ hpm)) rfl gX2_walk_X7_hidesOn_u109X0 (List.mem_of_getElem? (i := 81) rfl) (by decide +kernel) (by decide) rfl rfl (Nat.le_of_ble_eq_true rfl) (by decide) dX2_walk_81 (fun e w1 hq => ?_)
            obtain ⟨rfl, rfl⟩ := hq
            refine j_perm (ws' := [(h, oC 2 [.ref hh, .ref hm, vI (ms_w (drawS (drawS S))), vI (ms_l (drawS (drawS S))), vI (ms_s (drawS (drawS S))), vI (ms_a (drawS (drawS S))), vI (ms_t (drawS (drawS S))), vI (ms_p (drawS (drawS S)))]), (hh, aI (Y 0) 7 (ms_h (drawS (drawS S)))), (hm, aI (Y 0) 420 (ms_m (drawS (drawS S))))]) [0, 1, 2] rfl rfl ?_
            exact j_st rfl rfl (by unfold hideP; simp [h_26]) kk_22
      rcases (show pk P = 0 ∨ pk P = 1 ∨ pk P = 2 ∨ pk P = 3 by have := hP.1; omega) with h_27 | h_27 | h_27 | h_27
      · have hpm := hp
        rw [pC_0 h_27] at hpm
        refine j_callVi (pc := 53) (As := []) (na := 0) (st := []) C [] [0, 1, 2] (wr := [(h, oC 2 [.ref hh, .ref hm, vI (ms_w (drawS (drawS S))), vI (ms_l (drawS (drawS S))), vI (ms_s (drawS (drawS S))), vI (ms_a (drawS (drawS S))), vI (ms_t (drawS (drawS S))), vI (ms_p (drawS (drawS S)))]), (hh, aI (Y 0) 7 (ms_h (drawS (drawS S)))), (hm, aI (Y 0) 420 (ms_m (drawS (drawS S))))]) (fun l => c_X5_sinsAtMost l D Y _ a  ) rfl rfl rfl rfl (by decide) rfl (Or.inr (List.mem_append_right _ hpm)) rfl gX2_walk_X5_sinsAtMost ⟨rfl, by decide +kernel⟩ (by decide) rfl rfl (Nat.le_of_ble_eq_true rfl) (by decide) dX2_walk_53 (fun e w1 hq => ?_)
        obtain ⟨rfl, rfl⟩ := hq
        refine j_perm (ws' := [(h, oC 2 [.ref hh, .ref hm, vI (ms_w (drawS (drawS S))), vI (ms_l (drawS (drawS S))), vI (ms_s (drawS (drawS S))), vI (ms_a (drawS (drawS S))), vI (ms_t (drawS (drawS S))), vI (ms_p (drawS (drawS S)))]), (hh, aI (Y 0) 7 (ms_h (drawS (drawS S)))), (hm, aI (Y 0) 420 (ms_m (drawS (drawS S))))]) [0, 1, 2] rfl rfl ?_
        exact j_st rfl rfl (by simp [h_27]) kk_9
      · have hpm := hp
        rw [pC_1 h_27] at hpm
        refine j_callUi (pc := 53) (As := []) (na := 0) (st := []) C [] [0, 1, 2] (wr := [(h, oC 2 [.ref hh, .ref hm, vI (ms_w (drawS (drawS S))), vI (ms_l (drawS (drawS S))), vI (ms_s (drawS (drawS S))), vI (ms_a (drawS (drawS S))), vI (ms_t (drawS (drawS S))), vI (ms_p (drawS (drawS S)))]), (hh, aI (Y 0) 7 (ms_h (drawS (drawS S)))), (hm, aI (Y 0) 420 (ms_m (drawS (drawS S))))]) (fun l => c_X5_sinsAtMost l D Y _ a  ) rfl rfl rfl rfl (by decide) rfl (Or.inr (List.mem_append_right _ hpm)) rfl gX2_walk_X5_sinsAtMost_u99X6 rfl (by decide +kernel) (by decide) rfl rfl (Nat.le_of_ble_eq_true rfl) (by decide) dX2_walk_53 (fun e w1 hq => ?_)
        obtain ⟨rfl, rfl⟩ := hq
        refine j_perm (ws' := [(h, oC 2 [.ref hh, .ref hm, vI (ms_w (drawS (drawS S))), vI (ms_l (drawS (drawS S))), vI (ms_s (drawS (drawS S))), vI (ms_a (drawS (drawS S))), vI (ms_t (drawS (drawS S))), vI (ms_p (drawS (drawS S)))]), (hh, aI (Y 0) 7 (ms_h (drawS (drawS S)))), (hm, aI (Y 0) 420 (ms_m (drawS (drawS S))))]) [0, 1, 2] rfl rfl ?_
        exact j_st rfl rfl (by simp [h_27]) kk_9
      · have hpm := hp
        rw [pC_2 h_27] at hpm
        refine j_callUi (pc := 53) (As := []) (na := 0) (st := []) C [] [0, 1, 2] (wr := [(h, oC 2 [.ref hh, .ref hm, vI (ms_w (drawS (drawS S))), vI (ms_l (drawS (drawS S))), vI (ms_s (drawS (drawS S))), vI (ms_a (drawS (drawS S))), vI (ms_t (drawS (drawS S))), vI (ms_p (drawS (drawS S)))]), (hh, aI (Y 0) 7 (ms_h (drawS (drawS S)))), (hm, aI (Y 0) 420 (ms_m (drawS (drawS S))))]) (fun l => c_X5_sinsAtMost l D Y _ a  ) rfl rfl rfl rfl (by decide) rfl (Or.inr (List.mem_append_right _ hpm)) rfl gX2_walk_X5_sinsAtMost_u99X7 rfl (by decide +kernel) (by decide) rfl rfl (Nat.le_of_ble_eq_true rfl) (by decide) dX2_walk_53 (fun e w1 hq => ?_)
        obtain ⟨rfl, rfl⟩ := hq
        refine j_perm (ws' := [(h, oC 2 [.ref hh, .ref hm, vI (ms_w (drawS (drawS S))), vI (ms_l (drawS (drawS S))), vI (ms_s (drawS (drawS S))), vI (ms_a (drawS (drawS S))), vI (ms_t (drawS (drawS S))), vI (ms_p (drawS (drawS S)))]), (hh, aI (Y 0) 7 (ms_h (drawS (drawS S)))), (hm, aI (Y 0) 420 (ms_m (drawS (drawS S))))]) [0, 1, 2] rfl rfl ?_
        exact j_st rfl rfl (by simp [h_27]) kk_9
      · have hpm := hp
        rw [pC_3 h_27] at hpm
        refine j_callOi (pc := 53) (As := []) (na := 0) (st := []) C [] [0, 1, 2] (wr := [(h, oC 2 [.ref hh, .ref hm, vI (ms_w (drawS (drawS S))), vI (ms_l (drawS (drawS S))), vI (ms_s (drawS (drawS S))), vI (ms_a (drawS (drawS S))), vI (ms_t (drawS (drawS S))), vI (ms_p (drawS (drawS S)))]), (hh, aI (Y 0) 7 (ms_h (drawS (drawS S)))), (hm, aI (Y 0) 420 (ms_m (drawS (drawS S))))]) (fun l => c_X0_sinsAtMost l D Y _ a  ) rfl rfl rfl rfl (by decide) rfl (Or.inr (List.mem_append_right _ hpm)) rfl gX2_walk_X0_sinsAtMost_u99X0 (List.mem_of_getElem? (i := 66) rfl) (by decide +kernel) (by decide) rfl rfl (Nat.le_of_ble_eq_true rfl) (by decide) dX2_walk_53 (fun e w1 hq => ?_)
        obtain ⟨rfl, rfl⟩ := hq
        refine j_perm (ws' := [(h, oC 2 [.ref hh, .ref hm, vI (ms_w (drawS (drawS S))), vI (ms_l (drawS (drawS S))), vI (ms_s (drawS (drawS S))), vI (ms_a (drawS (drawS S))), vI (ms_t (drawS (drawS S))), vI (ms_p (drawS (drawS S)))]), (hh, aI (Y 0) 7 (ms_h (drawS (drawS S)))), (hm, aI (Y 0) 420 (ms_m (drawS (drawS S))))]) [0, 1, 2] rfl rfl ?_
        exact j_st rfl rfl (by simp [h_27]) kk_9
  · skip
    refine j_aload_n (pc := 11) C 0 0 rfl rfl dX2_walk_11 ?_
    refine j_aload_n (pc := 12) C 1 1 rfl rfl dX2_walk_12 ?_
    refine j_get (pc := 13) C (Or.inr hc) rfl fX2_walk_X1 0 (by decide) (List.mem_of_getElem? (i := 2) rfl) (Or.inl rfl) rfl dX2_walk_13 ?_
    refine j_iload_n (pc := 16) C 3 3 rfl rfl dX2_walk_16 ?_
    refine j_callVi (pc := 17) (As := [vI (cw Cu), vI num]) (na := 2) (st := []) C [] [0, 1, 2] (wr := [(h, oC 2 [.ref hh, .ref hm, vI (ms_w (drawS S)), vI (ms_l (drawS S)), vI (ms_s (drawS S)), vI (ms_a (drawS S)), vI (ms_t (drawS S)), vI (ms_p (drawS S))]), (hh, aI (Y 0) 7 (ms_h (drawS S))), (hm, aI (Y 0) 420 (ms_m (drawS S)))]) (fun l => c_cairnBy l D Y _ h hh hm (drawS S) (cw Cu) num (List.mem_append_left _ (List.mem_of_getElem? (i := 0) rfl)) (List.mem_append_left _ (List.mem_of_getElem? (i := 1) rfl)) (by first | assumption | omega) hC.1) rfl rfl rfl rfl (by decide) rfl (Or.inr (List.mem_append_left _ (List.mem_of_getElem? (i := 0) rfl))) rfl gX2_walk_X2_cairnBy ⟨rfl, by decide +kernel⟩ (by decide) rfl rfl (Nat.le_of_ble_eq_true rfl) (by decide) dX2_walk_17 (fun e_28 w_29 h_30 => ?_)
    obtain ⟨rfl, rfl⟩ := h_30
    refine j_perm (ws' := [(h, oC 2 [.ref hh, .ref hm, vI (ms_w (drawS S)), vI (ms_l (drawS S)), vI (ms_s (drawS S)), vI (ms_a (drawS S)), vI (ms_t (drawS S)), vI (ms_p (drawS S))]), (hh, aI (Y 0) 7 (ms_h (drawS S))), (hm, aI (Y 0) 420 (ms_m (drawS S)))]) [0, 1, 2] rfl rfl ?_
    refine j_istore (pc := 20) (lc' := [(4, vI (ruleS (cw Cu) num (drawS S))), (0, .ref h), (1, .ref ca), (2, .ref a), (3, vI num)]) C (by decide) rfl dX2_walk_20 ?_
    refine j_aload_n (pc := 22) C 0 1 rfl rfl dX2_walk_22 ?_
    refine j_iload (pc := 23) C 0 rfl dX2_walk_23 ?_
    refine j_aload_n (pc := 25) C 2 3 rfl rfl dX2_walk_25 ?_
    have kk_31 : jW X 5 0 0 [(h, oC 2 [.ref hh, .ref hm, vI (ms_w (drawS S)), vI (ms_l (drawS S)), vI (ms_s (drawS S)), vI (ms_a (drawS S)), vI (ms_t (drawS S)), vI (ms_p (drawS S))]), (hh, aI (Y 0) 7 (ms_h (drawS S))), (hm, aI (Y 0) 420 (ms_m (drawS S)))] [(4, vI (ruleS (cw Cu) num (drawS S))), (0, .ref h), (1, .ref ca), (2, .ref a), (3, vI num)] 29 [vI (giftP P), vI (ruleS (cw Cu) num (drawS S)), .ref h] := by
      refine j_callVv (pc := 29) (As := [vI (ruleS (cw Cu) num (drawS S)), vI (giftP P)]) (na := 2) (st := []) C [0, 1, 2] [] (wr := []) (fun l => c_layNew l D Y _ h hh hm (drawS S) (ruleS (cw Cu) num (drawS S)) (giftP P) hS1 hr1 (by first | assumption | omega)) rfl rfl rfl rfl (by decide) rfl (Or.inl (List.mem_of_getElem? (i := 0) rfl)) rfl gX2_walk_X2_layNew ⟨rfl, by decide +kernel⟩ (by decide) rfl rfl (Nat.le_of_ble_eq_true rfl) (by decide) dX2_walk_29 (fun w_33 h_34 => ?_)
      subst h_34
      refine j_perm (ws' := [(h, oC 2 [.ref hh, .ref hm, vI (ms_w (layS (ruleS (cw Cu) num (drawS S)) (giftP P) (drawS S))), vI (ms_l (layS (ruleS (cw Cu) num (drawS S)) (giftP P) (drawS S))), vI (ms_s (layS (ruleS (cw Cu) num (drawS S)) (giftP P) (drawS S))), vI (ms_a (layS (ruleS (cw Cu) num (drawS S)) (giftP P) (drawS S))), vI (ms_t (layS (ruleS (cw Cu) num (drawS S)) (giftP P) (drawS S))), vI (ms_p (layS (ruleS (cw Cu) num (drawS S)) (giftP P) (drawS S)))]), (hh, aI (Y 0) 7 (ms_h (layS (ruleS (cw Cu) num (drawS S)) (giftP P) (drawS S)))), (hm, aI (Y 0) 420 (ms_m (layS (ruleS (cw Cu) num (drawS S)) (giftP P) (drawS S))))]) [0, 1, 2] rfl rfl ?_
      refine j_aload_n (pc := 32) C 0 1 rfl rfl dX2_walk_32 ?_
      refine j_iload (pc := 33) C 0 rfl dX2_walk_33 ?_
      refine j_put (pc := 35) (ws' := [(h, oC 2 [.ref hh, .ref hm, vI (ms_w (layS (ruleS (cw Cu) num (drawS S)) (giftP P) (drawS S))), vI (ruleS (cw Cu) num (drawS S)), vI (ms_s (layS (ruleS (cw Cu) num (drawS S)) (giftP P) (drawS S))), vI (ms_a (layS (ruleS (cw Cu) num (drawS S)) (giftP P) (drawS S))), vI (ms_t (layS (ruleS (cw Cu) num (drawS S)) (giftP P) (drawS S))), vI (ms_p (layS (ruleS (cw Cu) num (drawS S)) (giftP P) (drawS S)))]), (hh, aI (Y 0) 7 (ms_h (layS (ruleS (cw Cu) num (drawS S)) (giftP P) (drawS S)))), (hm, aI (Y 0) 420 (ms_m (layS (ruleS (cw Cu) num (drawS S)) (giftP P) (drawS S))))]) C 0 rfl rfl fX2_walk_X2 tyX2_ok nmX2 3 (by decide) (List.mem_of_getElem? (i := 3) rfl) (Or.inl rfl) rfl rfl rfl rfl (Nat.le_of_ble_eq_true rfl) rfl dX2_walk_35 ?_
      refine j_goto (pc := 38) C 93 rfl dX2_walk_38 ?_
      exact Rt _ _ _ _ _ (by decide) (by decide) (by unfold walkS; first | (rw [if_pos (by omega)]; first | done | rfl) | (rw [if_neg (by omega), if_pos (by omega)]; first | done | rfl) | (rw [if_neg (by omega), if_neg (by omega)]; first | done | rfl)) dX2_walk_93
    rcases (show pk P = 0 ∨ pk P = 1 ∨ pk P = 2 ∨ pk P = 3 by have := hP.1; omega) with h_35 | h_35 | h_35 | h_35
    · have hpm := hp
      rw [pC_0 h_35] at hpm
      refine j_callVi (pc := 26) (As := []) (na := 0) (st := [vI (ruleS (cw Cu) num (drawS S)), .ref h]) C [] [0, 1, 2] (wr := [(h, oC 2 [.ref hh, .ref hm, vI (ms_w (drawS S)), vI (ms_l (drawS S)), vI (ms_s (drawS S)), vI (ms_a (drawS S)), vI (ms_t (drawS S)), vI (ms_p (drawS S))]), (hh, aI (Y 0) 7 (ms_h (drawS S))), (hm, aI (Y 0) 420 (ms_m (drawS S)))]) (fun l => c_X5_gift l D Y _ a  ) rfl rfl rfl rfl (by decide) rfl (Or.inr (List.mem_append_right _ hpm)) rfl gX2_walk_X5_gift ⟨rfl, by decide +kernel⟩ (by decide) rfl rfl (Nat.le_of_ble_eq_true rfl) (by decide) dX2_walk_26 (fun e w1 hq => ?_)
      obtain ⟨rfl, rfl⟩ := hq
      refine j_perm (ws' := [(h, oC 2 [.ref hh, .ref hm, vI (ms_w (drawS S)), vI (ms_l (drawS S)), vI (ms_s (drawS S)), vI (ms_a (drawS S)), vI (ms_t (drawS S)), vI (ms_p (drawS S))]), (hh, aI (Y 0) 7 (ms_h (drawS S))), (hm, aI (Y 0) 420 (ms_m (drawS S)))]) [0, 1, 2] rfl rfl ?_
      exact j_st rfl rfl (by unfold giftP; simp [h_35]) kk_31
    · have hpm := hp
      rw [pC_1 h_35] at hpm
      refine j_callOi (pc := 26) (As := []) (na := 0) (st := [vI (ruleS (cw Cu) num (drawS S)), .ref h]) C [] [0, 1, 2] (wr := [(h, oC 2 [.ref hh, .ref hm, vI (ms_w (drawS S)), vI (ms_l (drawS S)), vI (ms_s (drawS S)), vI (ms_a (drawS S)), vI (ms_t (drawS S)), vI (ms_p (drawS S))]), (hh, aI (Y 0) 7 (ms_h (drawS S))), (hm, aI (Y 0) 420 (ms_m (drawS S)))]) (fun l => c_X6_gift l D Y _ a P (List.mem_append_right _ hp) hP) rfl rfl rfl rfl (by decide) rfl (Or.inr (List.mem_append_right _ hpm)) rfl gX2_walk_X6_gift_u90X6 (List.mem_of_getElem? (i := 33) rfl) (by decide +kernel) (by decide) rfl rfl (Nat.le_of_ble_eq_true rfl) (by decide) dX2_walk_26 (fun e w1 hq => ?_)
      obtain ⟨rfl, rfl⟩ := hq
      refine j_perm (ws' := [(h, oC 2 [.ref hh, .ref hm, vI (ms_w (drawS S)), vI (ms_l (drawS S)), vI (ms_s (drawS S)), vI (ms_a (drawS S)), vI (ms_t (drawS S)), vI (ms_p (drawS S))]), (hh, aI (Y 0) 7 (ms_h (drawS S))), (hm, aI (Y 0) 420 (ms_m (drawS S)))]) [0, 1, 2] rfl rfl ?_
      exact j_st rfl rfl (by unfold giftP; simp [h_35]) kk_31
    · have hpm := hp
      rw [pC_2 h_35] at hpm
      refine j_callUi (pc := 26) (As := []) (na := 0) (st := [vI (ruleS (cw Cu) num (drawS S)), .ref h]) C [] [0, 1, 2] (wr := [(h, oC 2 [.ref hh, .ref hm, vI (ms_w (drawS S)), vI (ms_l (drawS S)), vI (ms_s (drawS S)), vI (ms_a (drawS S)), vI (ms_t (drawS S)), vI (ms_p (drawS S))]), (hh, aI (Y 0) 7 (ms_h (drawS S))), (hm, aI (Y 0) 420 (ms_m (drawS S)))]) (fun l => c_X5_gift l D Y _ a  ) rfl rfl rfl rfl (by decide) rfl (Or.inr (List.mem_append_right _ hpm)) rfl gX2_walk_X5_gift_u90X7 rfl (by decide +kernel) (by decide) rfl rfl (Nat.le_of_ble_eq_true rfl) (by decide) dX2_walk_26 (fun e w1 hq => ?_)
      obtain ⟨rfl, rfl⟩ := hq
      refine j_perm (ws' := [(h, oC 2 [.ref hh, .ref hm, vI (ms_w (drawS S)), vI (ms_l (drawS S)), vI (ms_s (drawS S)), vI (ms_a (drawS S)), vI (ms_t (drawS S)), vI (ms_p (drawS S))]), (hh, aI (Y 0) 7 (ms_h (drawS S))), (hm, aI (Y 0) 420 (ms_m (drawS S)))]) [0, 1, 2] rfl rfl ?_
      exact j_st rfl rfl (by unfold giftP; simp [h_35]) kk_31
    · have hpm := hp
      rw [pC_3 h_35] at hpm
      refine j_callUi (pc := 26) (As := []) (na := 0) (st := [vI (ruleS (cw Cu) num (drawS S)), .ref h]) C [] [0, 1, 2] (wr := [(h, oC 2 [.ref hh, .ref hm, vI (ms_w (drawS S)), vI (ms_l (drawS S)), vI (ms_s (drawS S)), vI (ms_a (drawS S)), vI (ms_t (drawS S)), vI (ms_p (drawS S))]), (hh, aI (Y 0) 7 (ms_h (drawS S))), (hm, aI (Y 0) 420 (ms_m (drawS S)))]) (fun l => c_X5_gift l D Y _ a  ) rfl rfl rfl rfl (by decide) rfl (Or.inr (List.mem_append_right _ hpm)) rfl gX2_walk_X5_gift_u90X0 rfl (by decide +kernel) (by decide) rfl rfl (Nat.le_of_ble_eq_true rfl) (by decide) dX2_walk_26 (fun e w1 hq => ?_)
      obtain ⟨rfl, rfl⟩ := hq
      refine j_perm (ws' := [(h, oC 2 [.ref hh, .ref hm, vI (ms_w (drawS S)), vI (ms_l (drawS S)), vI (ms_s (drawS S)), vI (ms_a (drawS S)), vI (ms_t (drawS S)), vI (ms_p (drawS S))]), (hh, aI (Y 0) 7 (ms_h (drawS S))), (hm, aI (Y 0) 420 (ms_m (drawS S)))]) [0, 1, 2] rfl rfl ?_
      exact j_st rfl rfl (by unfold giftP; simp [h_35]) kk_31

theorem fX2_goOneWeek_X0 : ∀ w ∈ u_ws RX0 TX0 4, w ∈ wsX2_goOneWeek := j_words [127, 128, 129, 130] (by decide +kernel)
theorem fX2_goOneWeek_X2 : ∀ w ∈ u_ws RX2 TX2 8, w ∈ wsX2_goOneWeek := j_words [119, 120, 121, 122, 123, 124, 125, 126] (by decide +kernel)
theorem fX2_goOneWeek_X5 : ∀ w ∈ u_ws RX5 TX5 4, w ∈ wsX2_goOneWeek := j_words [131, 132, 133, 134] (by decide +kernel)
theorem fX2_goOneWeek_X6 : ∀ w ∈ u_ws RX6 TX6 4, w ∈ wsX2_goOneWeek := j_words [135, 136, 137, 138] (by decide +kernel)
theorem fX2_goOneWeek_X7 : ∀ w ∈ u_ws RX7 TX7 4, w ∈ wsX2_goOneWeek := j_words [139, 140, 141, 142] (by decide +kernel)
set_option maxHeartbeats 4000000 in
set_option maxRecDepth 100000 in
theorem c_goOneWeek (l : Launch) (D : va_G) (Y : Nat → ClassId) (RO : va_W) (h : Nat) (hh : Nat) (hm : Nat) (S : MS) (ca : Nat) (Cu : CT) (pa : Nat) (pad : Int → Nat) (np : Int) (ps : Int → PT) (hc : (ca, oC 1 [vI (cw Cu), vI (cz Cu), vI (ce Cu)]) ∈ RO) (hpa : (pa, aQ (Y 3) 6 (orow np pad)) ∈ RO) (hpc : ∀ i, 0 ≤ i ∧ i < np → pC (pad i) (ps i) ∈ RO) (hS : okS S) (hC : okC Cu) (hnp : 0 ≤ np ∧ np ≤ 6) (hps : ∀ i, 0 ≤ i ∧ i < np → okP (ps i)) (hw : ms_w S ≤ 2147482000) : jMv l yX2_goOneWeek wsX2_goOneWeek { frames := 4, cells := 0, slots := 0, locals := 91 } D Y RO [.ref h, .ref ca, .ref pa] [(h, oC 2 [.ref hh, .ref hm, vI (ms_w S), vI (ms_l S), vI (ms_s S), vI (ms_a S), vI (ms_t S), vI (ms_p S)]), (hh, aI (Y 0) 7 (ms_h S)), (hm, aI (Y 0) 420 (ms_m S))] (fun w1 => w1 = [(h, oC 2 [.ref hh, .ref hm, vI (ms_w (goS Cu ps np S)), vI (ms_l (goS Cu ps np S)), vI (ms_s (goS Cu ps np S)), vI (ms_a (goS Cu ps np S)), vI (ms_t (goS Cu ps np S)), vI (ms_p (goS Cu ps np S))]), (hh, aI (Y 0) 7 (ms_h (goS Cu ps np S))), (hm, aI (Y 0) 420 (ms_m (goS Cu ps np S)))]) := by
  refine j_ofv RX2 rfl rfl rfl (Nat.le_of_ble_eq_true rfl) (fun X C Rt hI => ?_)
  have hW0 := hS.w
  refine j_aload_n (pc := 0) C 0 0 rfl rfl dX2_goOneWeek_0 ?_
  refine j_dup (pc := 1) C rfl dX2_goOneWeek_1 ?_
  refine j_get (pc := 2) C (Or.inl (List.mem_of_getElem? (i := 0) rfl)) rfl fX2_goOneWeek_X2 2 (by decide) (List.mem_of_getElem? (i := 1) rfl) (Or.inl rfl) rfl dX2_goOneWeek_2 ?_
  refine j_iconst (pc := 5) C dX2_goOneWeek_5 ?_
  refine j_iadd (pc := 6) C dX2_goOneWeek_6 ?_
  refine j_put (pc := 7) (ws' := [(h, oC 2 [.ref hh, .ref hm, vI (ms_w S + 1), vI (ms_l S), vI (ms_s S), vI (ms_a S), vI (ms_t S), vI (ms_p S)]), (hh, aI (Y 0) 7 (ms_h S)), (hm, aI (Y 0) 420 (ms_m S))]) C 0 rfl rfl fX2_goOneWeek_X2 tyX2_ok nmX2 2 (by decide) (List.mem_of_getElem? (i := 1) rfl) (Or.inl rfl) rfl rfl rfl rfl (Nat.le_of_ble_eq_true rfl) rfl dX2_goOneWeek_7 ?_
  refine j_iconst (pc := 10) C dX2_goOneWeek_10 ?_
  refine j_istore_n (pc := 11) (lc' := [(3, vI 0), (0, .ref h), (1, .ref ca), (2, .ref pa)]) C 3 rfl (by decide) rfl dX2_goOneWeek_11 ?_
  have hL12 : ∀ (N12 : Nat) (i : Int) (T : MS), ((np - i).toNat) < N12 → (0 ≤ i ∧ i ≤ np) → (T = fo (fun p T => parS Cu (ps p) p (pw (ps p)) T) i (setW S (ms_w S + 1))) → (okS T ∧ ms_w T = ms_w S + 1) → jW X 6 0 0 [(h, oC 2 [.ref hh, .ref hm, vI (ms_w T), vI (ms_l T), vI (ms_s T), vI (ms_a T), vI (ms_t T), vI (ms_p T)]), (hh, aI (Y 0) 7 (ms_h T)), (hm, aI (Y 0) 420 (ms_m T))] [(0, .ref h), (1, .ref ca), (2, .ref pa), (3, vI i)] 12 [] := by
    intro N12
    induction N12 with
    | zero => intro i T hm12 i12_0 i12_1 i12_2; omega
    | succ N12 ih12 =>
      intro i T hm12 i12_0 i12_1 i12_2
      refine j_iload_n (pc := 12) C 3 3 rfl rfl dX2_goOneWeek_12 ?_
      refine j_aload_n (pc := 13) C 2 2 rfl rfl dX2_goOneWeek_13 ?_
      refine j_alenP (pc := 14) C (Or.inr hpa) rfl dX2_goOneWeek_14 ?_
      refine j_icmp_ge (pc := 15) C 64 rfl (by omega) dX2_goOneWeek_15 (fun h_1p15 => ?_) (fun h_1p15 => ?_)
      · skip
        refine j_aload_n (pc := 64) C 1 1 rfl rfl dX2_goOneWeek_64 ?_
        refine j_aload_n (pc := 65) C 0 0 rfl rfl dX2_goOneWeek_65 ?_
        refine j_get (pc := 66) C (Or.inl (List.mem_of_getElem? (i := 0) rfl)) rfl fX2_goOneWeek_X2 2 (by decide) (List.mem_of_getElem? (i := 1) rfl) (Or.inl rfl) rfl dX2_goOneWeek_66 ?_
        refine j_callVi (pc := 69) (As := [vI (ms_w T)]) (na := 1) (st := []) C [] [0, 1, 2] (wr := [(h, oC 2 [.ref hh, .ref hm, vI (ms_w T), vI (ms_l T), vI (ms_s T), vI (ms_a T), vI (ms_t T), vI (ms_p T)]), (hh, aI (Y 0) 7 (ms_h T)), (hm, aI (Y 0) 420 (ms_m T))]) (fun l => c_floodsIn l D Y _ ca Cu (ms_w T) (List.mem_append_right _ hc) (by first | assumption | omega) (by omega)) rfl rfl rfl rfl (by decide) rfl (Or.inr (List.mem_append_right _ hc)) rfl gX2_goOneWeek_X1_floodsIn ⟨rfl, by decide +kernel⟩ (by decide) rfl rfl (Nat.le_of_ble_eq_true rfl) (by decide) dX2_goOneWeek_69 (fun e_2 w_3 h_4 => ?_)
        obtain ⟨rfl, rfl⟩ := h_4
        refine j_perm (ws' := [(h, oC 2 [.ref hh, .ref hm, vI (ms_w T), vI (ms_l T), vI (ms_s T), vI (ms_a T), vI (ms_t T), vI (ms_p T)]), (hh, aI (Y 0) 7 (ms_h T)), (hm, aI (Y 0) 420 (ms_m T))]) [0, 1, 2] rfl rfl ?_
        refine j_if_eqb (pc := 72) C 79 rfl dX2_goOneWeek_72 (fun h_5p72 => ?_) (fun h_5p72 => ?_)
        · skip
          exact Rt _ _ _ _ _ (by decide) (by decide) (by unfold goS allS; rw [show np = i by omega, ← i12_1]; unfold floodS; first | (rw [if_pos (by assumption)]; first | done | rfl) | (rw [if_neg (by assumption)]; first | done | rfl)) dX2_goOneWeek_79
        · skip
          refine j_aload_n (pc := 75) C 0 0 rfl rfl dX2_goOneWeek_75 ?_
          refine j_callVv (pc := 76) (As := []) (na := 0) (st := []) C [0, 1, 2] [] (wr := []) (fun l => c_flood l D Y _ h hh hm T i12_2.1) rfl rfl rfl rfl (by decide) rfl (Or.inl (List.mem_of_getElem? (i := 0) rfl)) rfl gX2_goOneWeek_X2_flood ⟨rfl, by decide +kernel⟩ (by decide) rfl rfl (Nat.le_of_ble_eq_true rfl) (by decide) dX2_goOneWeek_76 (fun w_7 h_8 => ?_)
          subst h_8
          refine j_perm (ws' := [(h, oC 2 [.ref hh, .ref hm, vI (ms_w (drownS T)), vI (ms_l (drownS T)), vI (ms_s (drownS T)), vI (ms_a (drownS T)), vI (ms_t (drownS T)), vI (ms_p (drownS T))]), (hh, aI (Y 0) 7 (ms_h (drownS T))), (hm, aI (Y 0) 420 (ms_m (drownS T)))]) [0, 1, 2] rfl rfl ?_
          exact Rt _ _ _ _ _ (by decide) (by decide) (by unfold goS allS; rw [show np = i by omega, ← i12_1]; unfold floodS; first | (rw [if_pos (by assumption)]; first | done | rfl) | (rw [if_neg (by assumption)]; first | done | rfl)) dX2_goOneWeek_79
      · skip
        refine j_aload_n (pc := 18) C 2 2 rfl rfl dX2_goOneWeek_18 ?_
        refine j_iload_n (pc := 19) C 3 3 rfl rfl dX2_goOneWeek_19 ?_
        refine j_aaldP (pc := 20) C (Or.inr hpa) rfl (by omega) (by decide) dX2_goOneWeek_20 ?_
        by_cases hq_9 : i < np
        · rw [show orow np pad i = some (pad i) from orow_in ⟨by omega, hq_9⟩]
          have hp9 := hpc i ⟨by omega, hq_9⟩
          have hP9 := hps i ⟨by omega, hq_9⟩
          have hw9 := hP9.2.2.2.2.1
          refine j_astore (pc := 21) (lc' := [(4, .ref (pad i)), (0, .ref h), (1, .ref ca), (2, .ref pa), (3, vI i)]) C (by decide) rfl dX2_goOneWeek_21 ?_
          refine j_aload (pc := 23) C 0 rfl dX2_goOneWeek_23 ?_
          refine j_ifnonnull (pc := 25) C 31 rfl dX2_goOneWeek_25 ?_
          refine j_iconst (pc := 31) C dX2_goOneWeek_31 ?_
          refine j_istore (pc := 32) (lc' := [(5, vI 0), (4, .ref (pad i)), (0, .ref h), (1, .ref ca), (2, .ref pa), (3, vI i)]) C (by decide) rfl dX2_goOneWeek_32 ?_
          have hL34 : ∀ (N34 : Nat) (j : Int) (U : MS), ((pw (ps i) - j).toNat) < N34 → (0 ≤ j ∧ j ≤ pw (ps i)) → (U = parS Cu (ps i) i j T) → (okS U ∧ ms_w U = ms_w S + 1) → jW X 6 0 0 [(h, oC 2 [.ref hh, .ref hm, vI (ms_w U), vI (ms_l U), vI (ms_s U), vI (ms_a U), vI (ms_t U), vI (ms_p U)]), (hh, aI (Y 0) 7 (ms_h U)), (hm, aI (Y 0) 420 (ms_m U))] [(0, .ref h), (1, .ref ca), (2, .ref pa), (3, vI i), (4, .ref (pad i)), (5, vI j)] 34 [] := by
            intro N34
            induction N34 with
            | zero => intro j U hm34 i34_0 i34_1 i34_2; omega
            | succ N34 ih34 =>
              intro j U hm34 i34_0 i34_1 i34_2
              refine j_iload (pc := 34) C 5 rfl dX2_goOneWeek_34 ?_
              refine j_aload (pc := 36) C 4 rfl dX2_goOneWeek_36 ?_
              refine j_getP (pc := 38) C (Or.inr hp9) hP9.1 fX2_goOneWeek_X5 fX2_goOneWeek_X6 fX2_goOneWeek_X7 fX2_goOneWeek_X0 1 (by decide) (List.mem_of_getElem? (i := 2) rfl) (Or.inl rfl) rfl dX2_goOneWeek_38 ?_
              refine j_icmp_ge (pc := 41) C 58 rfl (by omega) dX2_goOneWeek_41 (fun h_10p41 => ?_) (fun h_10p41 => ?_)
              · skip
                refine j_iinc (pc := 58) (lc' := [(3, vI (i + 1)), (0, .ref h), (1, .ref ca), (2, .ref pa), (4, .ref (pad i)), (5, vI j)]) C 3 rfl (by decide) rfl dX2_goOneWeek_58 ?_
                refine j_goto (pc := 61) C 12 rfl dX2_goOneWeek_61 ?_
                refine j_locals (lc' := [(0, .ref h), (1, .ref ca), (2, .ref pa), (3, vI (i + 1))]) [1, 2, 3, 0] rfl ?_
                exact ih12 (i + 1) U (by omega) (by omega) (by rw [fo_succ _ (n := i) (by omega), ← i12_1, i34_1, show j = pw (ps i) by omega]) i34_2
              · skip
                refine j_aload_n (pc := 44) C 0 0 rfl rfl dX2_goOneWeek_44 ?_
                refine j_aload_n (pc := 45) C 1 1 rfl rfl dX2_goOneWeek_45 ?_
                refine j_aload (pc := 46) C 4 rfl dX2_goOneWeek_46 ?_
                refine j_iload_n (pc := 48) C 3 3 rfl rfl dX2_goOneWeek_48 ?_
                refine j_callVv (pc := 49) (As := [.ref ca, .ref (pad i), vI i]) (na := 3) (st := []) C [0, 1, 2] [] (wr := []) (fun l => c_walk l D Y _ h hh hm U ca Cu (pad i) (ps i) i (List.mem_append_right _ hc) (List.mem_append_right _ hp9) i34_2.1 (by first | assumption | omega) (by first | assumption | omega) (by omega) (by omega)) rfl rfl rfl rfl (by decide) rfl (Or.inl (List.mem_of_getElem? (i := 0) rfl)) rfl gX2_goOneWeek_X2_walk ⟨rfl, by decide +kernel⟩ (by decide) rfl rfl (Nat.le_of_ble_eq_true rfl) (by decide) dX2_goOneWeek_49 (fun w_12 h_13 => ?_)
                subst h_13
                refine j_perm (ws' := [(h, oC 2 [.ref hh, .ref hm, vI (ms_w (walkS Cu (ps i) i U)), vI (ms_l (walkS Cu (ps i) i U)), vI (ms_s (walkS Cu (ps i) i U)), vI (ms_a (walkS Cu (ps i) i U)), vI (ms_t (walkS Cu (ps i) i U)), vI (ms_p (walkS Cu (ps i) i U))]), (hh, aI (Y 0) 7 (ms_h (walkS Cu (ps i) i U))), (hm, aI (Y 0) 420 (ms_m (walkS Cu (ps i) i U)))]) [0, 1, 2] rfl rfl ?_
                refine j_iinc (pc := 52) (lc' := [(5, vI (j + 1)), (0, .ref h), (1, .ref ca), (2, .ref pa), (3, vI i), (4, .ref (pad i))]) C 5 rfl (by decide) rfl dX2_goOneWeek_52 ?_
                refine j_goto (pc := 55) C 34 rfl dX2_goOneWeek_55 ?_
                refine j_locals (lc' := [(0, .ref h), (1, .ref ca), (2, .ref pa), (3, vI i), (4, .ref (pad i)), (5, vI (j + 1))]) [1, 2, 3, 4, 5, 0] rfl ?_
                exact ih34 (j + 1) (walkS Cu (ps i) i U) (by omega) (by omega) (by unfold parS; rw [fo_succ _ (n := j) (by omega)]; unfold parS at i34_1; rw [← i34_1]) (by have := okS_walk (P := ps i) (num := i) i34_2.1 hC (by assumption) (by omega); exact ⟨this.1, this.2.trans i34_2.2⟩)
          refine j_locals (lc' := [(0, .ref h), (1, .ref ca), (2, .ref pa), (3, vI i), (4, .ref (pad i)), (5, vI 0)]) [2, 3, 4, 5, 1, 0] rfl ?_
          exact hL34 _ 0 T (Nat.lt_succ_self _) (by omega) rfl i12_2
        · rw [show orow np pad i = none from orow_out (by omega)]
          refine j_astoreN (pc := 21) (lc' := [(4, .null), (0, .ref h), (1, .ref ca), (2, .ref pa), (3, vI i)]) C (by decide) rfl dX2_goOneWeek_21 ?_
          refine j_aloadN (pc := 23) C 0 rfl dX2_goOneWeek_23 ?_
          refine j_ifnonnullN (pc := 25) C dX2_goOneWeek_25 ?_
          refine j_goto (pc := 28) C 64 rfl dX2_goOneWeek_28 ?_
          refine j_aload_n (pc := 64) C 1 2 rfl rfl dX2_goOneWeek_64 ?_
          refine j_aload_n (pc := 65) C 0 1 rfl rfl dX2_goOneWeek_65 ?_
          refine j_get (pc := 66) C (Or.inl (List.mem_of_getElem? (i := 0) rfl)) rfl fX2_goOneWeek_X2 2 (by decide) (List.mem_of_getElem? (i := 1) rfl) (Or.inl rfl) rfl dX2_goOneWeek_66 ?_
          refine j_callVi (pc := 69) (As := [vI (ms_w T)]) (na := 1) (st := []) C [] [0, 1, 2] (wr := [(h, oC 2 [.ref hh, .ref hm, vI (ms_w T), vI (ms_l T), vI (ms_s T), vI (ms_a T), vI (ms_t T), vI (ms_p T)]), (hh, aI (Y 0) 7 (ms_h T)), (hm, aI (Y 0) 420 (ms_m T))]) (fun l => c_floodsIn l D Y _ ca Cu (ms_w T) (List.mem_append_right _ hc) (by first | assumption | omega) (by omega)) rfl rfl rfl rfl (by decide) rfl (Or.inr (List.mem_append_right _ hc)) rfl gX2_goOneWeek_X1_floodsIn ⟨rfl, by decide +kernel⟩ (by decide) rfl rfl (Nat.le_of_ble_eq_true rfl) (by decide) dX2_goOneWeek_69 (fun e_14 w_15 h_16 => ?_)
          obtain ⟨rfl, rfl⟩ := h_16
          refine j_perm (ws' := [(h, oC 2 [.ref hh, .ref hm, vI (ms_w T), vI (ms_l T), vI (ms_s T), vI (ms_a T), vI (ms_t T), vI (ms_p T)]), (hh, aI (Y 0) 7 (ms_h T)), (hm, aI (Y 0) 420 (ms_m T))]) [0, 1, 2] rfl rfl ?_
          refine j_if_eqb (pc := 72) C 79 rfl dX2_goOneWeek_72 (fun h_17p72 => ?_) (fun h_17p72 => ?_)
          · skip
            exact Rt _ _ _ _ _ (by decide) (by decide) (by unfold goS allS; rw [show np = i by omega, ← i12_1]; unfold floodS; first | (rw [if_pos (by assumption)]; first | done | rfl) | (rw [if_neg (by assumption)]; first | done | rfl)) dX2_goOneWeek_79
          · skip
            refine j_aload_n (pc := 75) C 0 1 rfl rfl dX2_goOneWeek_75 ?_
            refine j_callVv (pc := 76) (As := []) (na := 0) (st := []) C [0, 1, 2] [] (wr := []) (fun l => c_flood l D Y _ h hh hm T i12_2.1) rfl rfl rfl rfl (by decide) rfl (Or.inl (List.mem_of_getElem? (i := 0) rfl)) rfl gX2_goOneWeek_X2_flood ⟨rfl, by decide +kernel⟩ (by decide) rfl rfl (Nat.le_of_ble_eq_true rfl) (by decide) dX2_goOneWeek_76 (fun w_19 h_20 => ?_)
            subst h_20
            refine j_perm (ws' := [(h, oC 2 [.ref hh, .ref hm, vI (ms_w (drownS T)), vI (ms_l (drownS T)), vI (ms_s (drownS T)), vI (ms_a (drownS T)), vI (ms_t (drownS T)), vI (ms_p (drownS T))]), (hh, aI (Y 0) 7 (ms_h (drownS T))), (hm, aI (Y 0) 420 (ms_m (drownS T)))]) [0, 1, 2] rfl rfl ?_
            exact Rt _ _ _ _ _ (by decide) (by decide) (by unfold goS allS; rw [show np = i by omega, ← i12_1]; unfold floodS; first | (rw [if_pos (by assumption)]; first | done | rfl) | (rw [if_neg (by assumption)]; first | done | rfl)) dX2_goOneWeek_79
  refine j_locals (lc' := [(0, .ref h), (1, .ref ca), (2, .ref pa), (3, vI 0)]) [1, 2, 3, 0] rfl ?_
  exact hL12 _ 0 (ms_h S, ms_m S, (ms_w S + 1), ms_l S, ms_s S, ms_a S, ms_t S, ms_p S) (Nat.lt_succ_self _) (by omega) rfl ⟨okS_W hS, rfl⟩

theorem fX2_become_X2 : ∀ w ∈ u_ws RX2 TX2 8, w ∈ wsX2_become := j_words [13, 14, 15, 16, 17, 18, 19, 20] (by decide +kernel)
set_option maxHeartbeats 4000000 in
set_option maxRecDepth 100000 in
theorem c_become (l : Launch) (D : va_G) (Y : Nat → ClassId) (RO : va_W) (h : Nat) (hh : Nat) (hm : Nat) (S : MS) (g : Nat) (gh : Nat) (gm : Nat) (T : MS)   : jMv l yX2_become wsX2_become { frames := 1, cells := 0, slots := 0, locals := 40 } D Y RO [.ref h, .ref g] [(h, oC 2 [.ref hh, .ref hm, vI (ms_w S), vI (ms_l S), vI (ms_s S), vI (ms_a S), vI (ms_t S), vI (ms_p S)]), (hh, aI (Y 0) 7 (ms_h S)), (hm, aI (Y 0) 420 (ms_m S)), (g, oC 2 [.ref gh, .ref gm, vI (ms_w T), vI (ms_l T), vI (ms_s T), vI (ms_a T), vI (ms_t T), vI (ms_p T)]), (gh, aI (Y 0) 7 (ms_h T)), (gm, aI (Y 0) 420 (ms_m T))] (fun w1 => w1 = [(h, oC 2 [.ref hh, .ref hm, vI (ms_w T), vI (ms_l T), vI (ms_s T), vI (ms_a T), vI (ms_t T), vI (ms_p T)]), (hh, aI (Y 0) 7 (ms_h T)), (hm, aI (Y 0) 420 (ms_m T)), (g, oC 2 [.ref gh, .ref gm, vI (ms_w T), vI (ms_l T), vI (ms_s T), vI (ms_a T), vI (ms_t T), vI (ms_p T)]), (gh, aI (Y 0) 7 (ms_h T)), (gm, aI (Y 0) 420 (ms_m T))]) := by
  refine j_ofv RX2 rfl rfl rfl (Nat.le_of_ble_eq_true rfl) (fun X C Rt hI => ?_)
  refine j_aload_n (pc := 0) C 1 1 rfl rfl dX2_become_0 ?_
  refine j_get (pc := 1) C (Or.inl (List.mem_of_getElem? (i := 3) rfl)) rfl fX2_become_X2 0 (by decide) (List.mem_of_getElem? (i := 1) rfl) (Or.inl rfl) rfl dX2_become_1 ?_
  refine j_iconst (pc := 4) C dX2_become_4 ?_
  refine j_aload_n (pc := 5) C 0 0 rfl rfl dX2_become_5 ?_
  refine j_get (pc := 6) C (Or.inl (List.mem_of_getElem? (i := 0) rfl)) rfl fX2_become_X2 0 (by decide) (List.mem_of_getElem? (i := 1) rfl) (Or.inl rfl) rfl dX2_become_6 ?_
  refine j_iconst (pc := 9) C dX2_become_9 ?_
  refine j_bipush (pc := 10) (w := 7) C rfl dX2_become_10 ?_
  refine j_copy (pc := 12) (ws' := [(h, oC 2 [.ref hh, .ref hm, vI (ms_w S), vI (ms_l S), vI (ms_s S), vI (ms_a S), vI (ms_t S), vI (ms_p S)]), (hh, aI (Y 0) 7 (ms_h T)), (hm, aI (Y 0) 420 (ms_m S)), (g, oC 2 [.ref gh, .ref gm, vI (ms_w T), vI (ms_l T), vI (ms_s T), vI (ms_a T), vI (ms_t T), vI (ms_p T)]), (gh, aI (Y 0) 7 (ms_h T)), (gm, aI (Y 0) 420 (ms_m T))]) (st := []) C 4 1 rfl rfl rfl (by decide) rfl (List.mem_of_getElem? (i := 2) rfl) (List.mem_of_getElem? (i := 3) rfl) (List.mem_of_getElem? (i := 4) rfl) (List.mem_of_getElem? (i := 5) rfl) (by decide) (Nat.le_of_ble_eq_true rfl) rfl dX2_become_12 ?_
  refine j_aload_n (pc := 15) C 1 1 rfl rfl dX2_become_15 ?_
  refine j_get (pc := 16) C (Or.inl (List.mem_of_getElem? (i := 3) rfl)) rfl fX2_become_X2 1 (by decide) (List.mem_of_getElem? (i := 6) rfl) (Or.inl rfl) rfl dX2_become_16 ?_
  refine j_iconst (pc := 19) C dX2_become_19 ?_
  refine j_aload_n (pc := 20) C 0 0 rfl rfl dX2_become_20 ?_
  refine j_get (pc := 21) C (Or.inl (List.mem_of_getElem? (i := 0) rfl)) rfl fX2_become_X2 1 (by decide) (List.mem_of_getElem? (i := 6) rfl) (Or.inl rfl) rfl dX2_become_21 ?_
  refine j_iconst (pc := 24) C dX2_become_24 ?_
  refine j_sipush (pc := 25) (w := 420) C rfl dX2_become_25 ?_
  refine j_copy (pc := 28) (ws' := [(h, oC 2 [.ref hh, .ref hm, vI (ms_w S), vI (ms_l S), vI (ms_s S), vI (ms_a S), vI (ms_t S), vI (ms_p S)]), (hh, aI (Y 0) 7 (ms_h T)), (hm, aI (Y 0) 420 (ms_m T)), (g, oC 2 [.ref gh, .ref gm, vI (ms_w T), vI (ms_l T), vI (ms_s T), vI (ms_a T), vI (ms_t T), vI (ms_p T)]), (gh, aI (Y 0) 7 (ms_h T)), (gm, aI (Y 0) 420 (ms_m T))]) (st := []) C 5 2 rfl rfl rfl (by decide) rfl (List.mem_of_getElem? (i := 2) rfl) (List.mem_of_getElem? (i := 3) rfl) (List.mem_of_getElem? (i := 4) rfl) (List.mem_of_getElem? (i := 5) rfl) (by decide) (Nat.le_of_ble_eq_true rfl) rfl dX2_become_28 ?_
  refine j_aload_n (pc := 31) C 0 0 rfl rfl dX2_become_31 ?_
  refine j_aload_n (pc := 32) C 1 1 rfl rfl dX2_become_32 ?_
  refine j_get (pc := 33) C (Or.inl (List.mem_of_getElem? (i := 3) rfl)) rfl fX2_become_X2 2 (by decide) (List.mem_of_getElem? (i := 7) rfl) (Or.inl rfl) rfl dX2_become_33 ?_
  refine j_put (pc := 36) (ws' := [(h, oC 2 [.ref hh, .ref hm, vI (ms_w T), vI (ms_l S), vI (ms_s S), vI (ms_a S), vI (ms_t S), vI (ms_p S)]), (hh, aI (Y 0) 7 (ms_h T)), (hm, aI (Y 0) 420 (ms_m T)), (g, oC 2 [.ref gh, .ref gm, vI (ms_w T), vI (ms_l T), vI (ms_s T), vI (ms_a T), vI (ms_t T), vI (ms_p T)]), (gh, aI (Y 0) 7 (ms_h T)), (gm, aI (Y 0) 420 (ms_m T))]) C 0 rfl rfl fX2_become_X2 tyX2_ok nmX2 2 (by decide) (List.mem_of_getElem? (i := 7) rfl) (Or.inl rfl) rfl rfl rfl rfl (Nat.le_of_ble_eq_true rfl) rfl dX2_become_36 ?_
  refine j_aload_n (pc := 39) C 0 0 rfl rfl dX2_become_39 ?_
  refine j_aload_n (pc := 40) C 1 1 rfl rfl dX2_become_40 ?_
  refine j_get (pc := 41) C (Or.inl (List.mem_of_getElem? (i := 3) rfl)) rfl fX2_become_X2 3 (by decide) (List.mem_of_getElem? (i := 8) rfl) (Or.inl rfl) rfl dX2_become_41 ?_
  refine j_put (pc := 44) (ws' := [(h, oC 2 [.ref hh, .ref hm, vI (ms_w T), vI (ms_l T), vI (ms_s S), vI (ms_a S), vI (ms_t S), vI (ms_p S)]), (hh, aI (Y 0) 7 (ms_h T)), (hm, aI (Y 0) 420 (ms_m T)), (g, oC 2 [.ref gh, .ref gm, vI (ms_w T), vI (ms_l T), vI (ms_s T), vI (ms_a T), vI (ms_t T), vI (ms_p T)]), (gh, aI (Y 0) 7 (ms_h T)), (gm, aI (Y 0) 420 (ms_m T))]) C 0 rfl rfl fX2_become_X2 tyX2_ok nmX2 3 (by decide) (List.mem_of_getElem? (i := 8) rfl) (Or.inl rfl) rfl rfl rfl rfl (Nat.le_of_ble_eq_true rfl) rfl dX2_become_44 ?_
  refine j_aload_n (pc := 47) C 0 0 rfl rfl dX2_become_47 ?_
  refine j_aload_n (pc := 48) C 1 1 rfl rfl dX2_become_48 ?_
  refine j_get (pc := 49) C (Or.inl (List.mem_of_getElem? (i := 3) rfl)) rfl fX2_become_X2 4 (by decide) (List.mem_of_getElem? (i := 9) rfl) (Or.inl rfl) rfl dX2_become_49 ?_
  refine j_put (pc := 52) (ws' := [(h, oC 2 [.ref hh, .ref hm, vI (ms_w T), vI (ms_l T), vI (ms_s T), vI (ms_a S), vI (ms_t S), vI (ms_p S)]), (hh, aI (Y 0) 7 (ms_h T)), (hm, aI (Y 0) 420 (ms_m T)), (g, oC 2 [.ref gh, .ref gm, vI (ms_w T), vI (ms_l T), vI (ms_s T), vI (ms_a T), vI (ms_t T), vI (ms_p T)]), (gh, aI (Y 0) 7 (ms_h T)), (gm, aI (Y 0) 420 (ms_m T))]) C 0 rfl rfl fX2_become_X2 tyX2_ok nmX2 4 (by decide) (List.mem_of_getElem? (i := 9) rfl) (Or.inl rfl) rfl rfl rfl rfl (Nat.le_of_ble_eq_true rfl) rfl dX2_become_52 ?_
  refine j_aload_n (pc := 55) C 0 0 rfl rfl dX2_become_55 ?_
  refine j_aload_n (pc := 56) C 1 1 rfl rfl dX2_become_56 ?_
  refine j_get (pc := 57) C (Or.inl (List.mem_of_getElem? (i := 3) rfl)) rfl fX2_become_X2 5 (by decide) (List.mem_of_getElem? (i := 10) rfl) (Or.inl rfl) rfl dX2_become_57 ?_
  refine j_put (pc := 60) (ws' := [(h, oC 2 [.ref hh, .ref hm, vI (ms_w T), vI (ms_l T), vI (ms_s T), vI (ms_a T), vI (ms_t S), vI (ms_p S)]), (hh, aI (Y 0) 7 (ms_h T)), (hm, aI (Y 0) 420 (ms_m T)), (g, oC 2 [.ref gh, .ref gm, vI (ms_w T), vI (ms_l T), vI (ms_s T), vI (ms_a T), vI (ms_t T), vI (ms_p T)]), (gh, aI (Y 0) 7 (ms_h T)), (gm, aI (Y 0) 420 (ms_m T))]) C 0 rfl rfl fX2_become_X2 tyX2_ok nmX2 5 (by decide) (List.mem_of_getElem? (i := 10) rfl) (Or.inl rfl) rfl rfl rfl rfl (Nat.le_of_ble_eq_true rfl) rfl dX2_become_60 ?_
  refine j_aload_n (pc := 63) C 0 0 rfl rfl dX2_become_63 ?_
  refine j_aload_n (pc := 64) C 1 1 rfl rfl dX2_become_64 ?_
  refine j_get (pc := 65) C (Or.inl (List.mem_of_getElem? (i := 3) rfl)) rfl fX2_become_X2 6 (by decide) (List.mem_of_getElem? (i := 11) rfl) (Or.inl rfl) rfl dX2_become_65 ?_
  refine j_put (pc := 68) (ws' := [(h, oC 2 [.ref hh, .ref hm, vI (ms_w T), vI (ms_l T), vI (ms_s T), vI (ms_a T), vI (ms_t T), vI (ms_p S)]), (hh, aI (Y 0) 7 (ms_h T)), (hm, aI (Y 0) 420 (ms_m T)), (g, oC 2 [.ref gh, .ref gm, vI (ms_w T), vI (ms_l T), vI (ms_s T), vI (ms_a T), vI (ms_t T), vI (ms_p T)]), (gh, aI (Y 0) 7 (ms_h T)), (gm, aI (Y 0) 420 (ms_m T))]) C 0 rfl rfl fX2_become_X2 tyX2_ok nmX2 6 (by decide) (List.mem_of_getElem? (i := 11) rfl) (Or.inl rfl) rfl rfl rfl rfl (Nat.le_of_ble_eq_true rfl) rfl dX2_become_68 ?_
  refine j_aload_n (pc := 71) C 0 0 rfl rfl dX2_become_71 ?_
  refine j_aload_n (pc := 72) C 1 1 rfl rfl dX2_become_72 ?_
  refine j_get (pc := 73) C (Or.inl (List.mem_of_getElem? (i := 3) rfl)) rfl fX2_become_X2 7 (by decide) (List.mem_of_getElem? (i := 12) rfl) (Or.inl rfl) rfl dX2_become_73 ?_
  refine j_put (pc := 76) (ws' := [(h, oC 2 [.ref hh, .ref hm, vI (ms_w T), vI (ms_l T), vI (ms_s T), vI (ms_a T), vI (ms_t T), vI (ms_p T)]), (hh, aI (Y 0) 7 (ms_h T)), (hm, aI (Y 0) 420 (ms_m T)), (g, oC 2 [.ref gh, .ref gm, vI (ms_w T), vI (ms_l T), vI (ms_s T), vI (ms_a T), vI (ms_t T), vI (ms_p T)]), (gh, aI (Y 0) 7 (ms_h T)), (gm, aI (Y 0) 420 (ms_m T))]) C 0 rfl rfl fX2_become_X2 tyX2_ok nmX2 7 (by decide) (List.mem_of_getElem? (i := 12) rfl) (Or.inl rfl) rfl rfl rfl rfl (Nat.le_of_ble_eq_true rfl) rfl dX2_become_76 ?_
  exact Rt _ _ _ _ _ (by decide) (by decide) rfl dX2_become_79
