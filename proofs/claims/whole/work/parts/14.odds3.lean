theorem fX3_of_X0 : ∀ w ∈ u_ws RX0 TX0 4, w ∈ wsX3_of := j_words [11, 12, 13, 14] (by decide +kernel)
theorem fX3_of_X5 : ∀ w ∈ u_ws RX5 TX5 4, w ∈ wsX3_of := j_words [15, 16, 17, 18] (by decide +kernel)
theorem fX3_of_X6 : ∀ w ∈ u_ws RX6 TX6 4, w ∈ wsX3_of := j_words [19, 20, 21, 22] (by decide +kernel)
theorem fX3_of_X7 : ∀ w ∈ u_ws RX7 TX7 4, w ∈ wsX3_of := j_words [23, 24, 25, 26] (by decide +kernel)
set_option maxHeartbeats 4000000 in
set_option maxRecDepth 100000 in
theorem c_of (l : Launch) (D : va_G) (Y : Nat → ClassId) (RO : va_W) (a : Nat) (P : PT) (w : Int) (s : Int) (hp : pC a P ∈ RO) (hP : okP P) (hw : 0 ≤ w) (hs : 0 ≤ s) (hws : w + s ≤ pw P) : jMl l yX3_of wsX3_of { frames := 1, cells := 0, slots := 0, locals := 24 } D Y RO [.ref a, vI w, vI s] [] (fun e w1 => e = (oddsI P w s) ∧ w1 = []) := by
  refine j_ofl RX3 rfl rfl rfl (Nat.le_of_ble_eq_true rfl) (fun X C Rt => ?_)
  have hPw := hP.2.2.2.2.1
  have hPi := hP.2.2.2.2.2.1
  have hPz := hP.2.2.2.2.2.2
  have hm1 : 0 ≤ (10 - pi P) * pz P ∧ (10 - pi P) * pz P ≤ 100 := ⟨Int.mul_nonneg (by omega) (by omega), Int.le_trans (Int.mul_le_mul (show 10 - pi P ≤ 10 by omega) (show pz P ≤ 10 by omega) (by omega) (by decide)) (by decide)⟩
  have hm2 : 0 ≤ (10 - pi P) * (10 - pz P) ∧ (10 - pi P) * (10 - pz P) ≤ 100 := ⟨Int.mul_nonneg (by omega) (by omega), Int.le_trans (Int.mul_le_mul (show 10 - pi P ≤ 10 by omega) (show (10 - pz P) ≤ 10 by omega) (by omega) (by decide)) (by decide)⟩
  refine j_aload_n (pc := 0) C 0 0 rfl rfl dX3_of_0 ?_
  refine j_getP (pc := 1) C (Or.inr hp) hP.1 fX3_of_X5 fX3_of_X6 fX3_of_X7 fX3_of_X0 1 (by decide) (List.mem_of_getElem? (i := 1) rfl) (Or.inl rfl) rfl dX3_of_1 ?_
  refine j_iload_n (pc := 4) C 1 1 rfl rfl dX3_of_4 ?_
  refine j_isub (pc := 5) C dX3_of_5 ?_
  refine j_iload_n (pc := 6) C 2 2 rfl rfl dX3_of_6 ?_
  refine j_isub (pc := 7) C dX3_of_7 ?_
  refine j_istore_n (pc := 8) (lc' := [(3, vI ((pw P - w) - s)), (0, .ref a), (1, vI w), (2, vI s)]) C 3 rfl (by decide) rfl dX3_of_8 ?_
  refine j_iload_n (pc := 9) C 1 2 rfl rfl dX3_of_9 ?_
  refine j_if_lt (pc := 10) C 21 rfl (by omega) dX3_of_10 (fun h_1p10 => ?_) (fun h_1p10 => ?_)
  · skip
    exfalso; omega
  · skip
    refine j_iload_n (pc := 13) C 2 3 rfl rfl dX3_of_13 ?_
    refine j_if_lt (pc := 14) C 21 rfl (by omega) dX3_of_14 (fun h_2p14 => ?_) (fun h_2p14 => ?_)
    · skip
      exfalso; omega
    · skip
      refine j_iload_n (pc := 17) C 3 0 rfl rfl dX3_of_17 ?_
      refine j_if_ge (pc := 18) C 23 rfl (by omega) dX3_of_18 (fun h_3p18 => ?_) (fun h_3p18 => ?_)
      · skip
        refine j_bipush (pc := 23) (w := 10) C rfl dX3_of_23 ?_
        refine j_aload_n (pc := 25) C 0 1 rfl rfl dX3_of_25 ?_
        refine j_getP (pc := 26) C (Or.inr hp) hP.1 fX3_of_X5 fX3_of_X6 fX3_of_X7 fX3_of_X0 2 (by decide) (List.mem_of_getElem? (i := 2) rfl) (Or.inl rfl) rfl dX3_of_26 ?_
        refine j_isub (pc := 29) C dX3_of_29 ?_
        refine j_istore (pc := 30) (lc' := [(4, vI (10 - pi P)), (3, vI ((pw P - w) - s)), (0, .ref a), (1, vI w), (2, vI s)]) C (by decide) rfl dX3_of_30 ?_
        refine j_aload_n (pc := 32) C 0 2 rfl rfl dX3_of_32 ?_
        refine j_getP (pc := 33) C (Or.inr hp) hP.1 fX3_of_X5 fX3_of_X6 fX3_of_X7 fX3_of_X0 1 (by decide) (List.mem_of_getElem? (i := 1) rfl) (Or.inl rfl) rfl dX3_of_33 ?_
        refine j_iload_n (pc := 36) C 1 3 rfl rfl dX3_of_36 ?_
        refine j_callSl (pc := 37) (As := [vI (pw P), vI w]) (na := 2) (st := []) C [] [] (wr := []) (fun l => c_choices l D Y _ (pw P) w (by first | assumption | omega) (by first | assumption | omega)) rfl rfl rfl rfl (by decide) rfl gX3_of_X3_choices (by decide +kernel) (by decide) rfl rfl (Nat.le_of_ble_eq_true rfl) (by decide) dX3_of_37 (fun e_4 w_5 h_6 => ?_)
        obtain ⟨rfl, rfl⟩ := h_6
        refine j_perm (ws' := []) [] rfl rfl ?_
        refine j_aload_n (pc := 40) C 0 2 rfl rfl dX3_of_40 ?_
        refine j_getP (pc := 41) C (Or.inr hp) hP.1 fX3_of_X5 fX3_of_X6 fX3_of_X7 fX3_of_X0 1 (by decide) (List.mem_of_getElem? (i := 1) rfl) (Or.inl rfl) rfl dX3_of_41 ?_
        refine j_iload_n (pc := 44) C 1 3 rfl rfl dX3_of_44 ?_
        refine j_isub (pc := 45) C dX3_of_45 ?_
        refine j_iload_n (pc := 46) C 2 4 rfl rfl dX3_of_46 ?_
        refine j_callSl (pc := 47) (As := [vI (pw P - w), vI s]) (na := 2) (st := [vL (choI (pw P) w)]) C [] [] (wr := []) (fun l => c_choices l D Y _ (pw P - w) s (by first | assumption | omega) (by first | assumption | omega)) rfl rfl rfl rfl (by decide) rfl gX3_of_X3_choices (by decide +kernel) (by decide) rfl rfl (Nat.le_of_ble_eq_true rfl) (by decide) dX3_of_47 (fun e_7 w_8 h_9 => ?_)
        obtain ⟨rfl, rfl⟩ := h_9
        refine j_perm (ws' := []) [] rfl rfl ?_
        refine j_lmul (pc := 50) C dX3_of_50 ?_
        refine j_bipush (pc := 51) (w := 10) C rfl dX3_of_51 ?_
        refine j_aload_n (pc := 53) C 0 2 rfl rfl dX3_of_53 ?_
        refine j_getP (pc := 54) C (Or.inr hp) hP.1 fX3_of_X5 fX3_of_X6 fX3_of_X7 fX3_of_X0 2 (by decide) (List.mem_of_getElem? (i := 2) rfl) (Or.inl rfl) rfl dX3_of_54 ?_
        refine j_imul (pc := 57) C dX3_of_57 ?_
        refine j_iload_n (pc := 58) C 1 3 rfl rfl dX3_of_58 ?_
        refine j_callSl (pc := 59) (As := [vI (10 * pi P), vI w]) (na := 2) (st := [vL ((choI (pw P) w) * (choI (pw P - w) s))]) C [] [] (wr := []) (fun l => c_power l D Y _ (10 * pi P) w (by first | assumption | omega) (by first | assumption | omega)) rfl rfl rfl rfl (by decide) rfl gX3_of_X3_power (by decide +kernel) (by decide) rfl rfl (Nat.le_of_ble_eq_true rfl) (by decide) dX3_of_59 (fun e_10 w_11 h_12 => ?_)
        obtain ⟨rfl, rfl⟩ := h_12
        refine j_perm (ws' := []) [] rfl rfl ?_
        refine j_lmul (pc := 62) C dX3_of_62 ?_
        refine j_iload (pc := 63) C 0 rfl dX3_of_63 ?_
        refine j_aload_n (pc := 65) C 0 2 rfl rfl dX3_of_65 ?_
        refine j_getP (pc := 66) C (Or.inr hp) hP.1 fX3_of_X5 fX3_of_X6 fX3_of_X7 fX3_of_X0 3 (by decide) (List.mem_of_getElem? (i := 3) rfl) (Or.inl rfl) rfl dX3_of_66 ?_
        refine j_imul (pc := 69) C dX3_of_69 ?_
        refine j_iload_n (pc := 70) C 2 4 rfl rfl dX3_of_70 ?_
        refine j_callSl (pc := 71) (As := [vI ((10 - pi P) * pz P), vI s]) (na := 2) (st := [vL (((choI (pw P) w) * (choI (pw P - w) s)) * (powI (10 * pi P) w))]) C [] [] (wr := []) (fun l => c_power l D Y _ ((10 - pi P) * pz P) s (by first | assumption | omega) (by first | assumption | omega)) rfl rfl rfl rfl (by decide) rfl gX3_of_X3_power (by decide +kernel) (by decide) rfl rfl (Nat.le_of_ble_eq_true rfl) (by decide) dX3_of_71 (fun e_13 w_14 h_15 => ?_)
        obtain ⟨rfl, rfl⟩ := h_15
        refine j_perm (ws' := []) [] rfl rfl ?_
        refine j_lmul (pc := 74) C dX3_of_74 ?_
        refine j_iload (pc := 75) C 0 rfl dX3_of_75 ?_
        refine j_bipush (pc := 77) (w := 10) C rfl dX3_of_77 ?_
        refine j_aload_n (pc := 79) C 0 2 rfl rfl dX3_of_79 ?_
        refine j_getP (pc := 80) C (Or.inr hp) hP.1 fX3_of_X5 fX3_of_X6 fX3_of_X7 fX3_of_X0 3 (by decide) (List.mem_of_getElem? (i := 3) rfl) (Or.inl rfl) rfl dX3_of_80 ?_
        refine j_isub (pc := 83) C dX3_of_83 ?_
        refine j_imul (pc := 84) C dX3_of_84 ?_
        refine j_iload_n (pc := 85) C 3 1 rfl rfl dX3_of_85 ?_
        refine j_callSl (pc := 86) (As := [vI ((10 - pi P) * (10 - pz P)), vI ((pw P - w) - s)]) (na := 2) (st := [vL ((((choI (pw P) w) * (choI (pw P - w) s)) * (powI (10 * pi P) w)) * (powI ((10 - pi P) * pz P) s))]) C [] [] (wr := []) (fun l => c_power l D Y _ ((10 - pi P) * (10 - pz P)) ((pw P - w) - s) (by first | assumption | omega) (by first | assumption | omega)) rfl rfl rfl rfl (by decide) rfl gX3_of_X3_power (by decide +kernel) (by decide) rfl rfl (Nat.le_of_ble_eq_true rfl) (by decide) dX3_of_86 (fun e_16 w_17 h_18 => ?_)
        obtain ⟨rfl, rfl⟩ := h_18
        refine j_perm (ws' := []) [] rfl rfl ?_
        refine j_lmul (pc := 89) C dX3_of_89 ?_
        exact Rt _ _ _ _ _ _ (by decide) (by decide) ⟨by unfold oddsI; first | rfl | (simp only [Int.mul_comm 10]; rfl), rfl⟩ dX3_of_90
      · skip
        exfalso; omega

theorem fX3_whole_X0 : ∀ w ∈ u_ws RX0 TX0 4, w ∈ wsX3_whole := j_words [6, 7, 8, 9] (by decide +kernel)
theorem fX3_whole_X5 : ∀ w ∈ u_ws RX5 TX5 4, w ∈ wsX3_whole := j_words [10, 11, 12, 13] (by decide +kernel)
theorem fX3_whole_X6 : ∀ w ∈ u_ws RX6 TX6 4, w ∈ wsX3_whole := j_words [14, 15, 16, 17] (by decide +kernel)
theorem fX3_whole_X7 : ∀ w ∈ u_ws RX7 TX7 4, w ∈ wsX3_whole := j_words [18, 19, 20, 21] (by decide +kernel)
set_option maxHeartbeats 4000000 in
set_option maxRecDepth 100000 in
theorem c_whole (l : Launch) (D : va_G) (Y : Nat → ClassId) (RO : va_W) (a : Nat) (P : PT) (hp : pC a P ∈ RO) (hP : okP P) : jMl l yX3_whole wsX3_whole { frames := 1, cells := 0, slots := 0, locals := 24 } D Y RO [.ref a] [] (fun e w1 => e = (powI 100 (pw P)) ∧ w1 = []) := by
  refine j_ofl RX3 rfl rfl rfl (Nat.le_of_ble_eq_true rfl) (fun X C Rt => ?_)
  have hPw := hP.2.2.2.2.1
  refine j_bipush (pc := 0) (w := 100) C rfl dX3_whole_0 ?_
  refine j_aload_n (pc := 2) C 0 0 rfl rfl dX3_whole_2 ?_
  refine j_getP (pc := 3) C (Or.inr hp) hP.1 fX3_whole_X5 fX3_whole_X6 fX3_whole_X7 fX3_whole_X0 1 (by decide) (List.mem_of_getElem? (i := 1) rfl) (Or.inl rfl) rfl dX3_whole_3 ?_
  refine j_callSl (pc := 6) (As := [vI 100, vI (pw P)]) (na := 2) (st := []) C [] [] (wr := []) (fun l => c_power l D Y _ 100 (pw P) (by first | assumption | omega) (by first | assumption | omega)) rfl rfl rfl rfl (by decide) rfl gX3_whole_X3_power (by decide +kernel) (by decide) rfl rfl (Nat.le_of_ble_eq_true rfl) (by decide) dX3_whole_6 (fun e_1 w_2 h_3 => ?_)
  obtain ⟨rfl, rfl⟩ := h_3
  refine j_perm (ws' := []) [] rfl rfl ?_
  exact Rt _ _ _ _ _ _ (by decide) (by decide) ⟨rfl, rfl⟩ dX3_whole_9

theorem fX10_whole_X10 : ∀ w ∈ u_ws RX10 TX10 35, w ∈ wsX10_whole := j_words [7, 8, 9, 10, 11, 12, 13, 14, 15, 16, 17, 18, 19, 20, 21, 22, 23, 24, 25, 26, 27, 28, 29, 30, 31, 32, 33, 34, 35, 36, 37, 38, 39, 40, 41] (by decide +kernel)
set_option maxHeartbeats 4000000 in
set_option maxRecDepth 100000 in
theorem m_whole (l : Launch) (D : va_G) (Y : Nat → ClassId) (RO : va_W) (h : Nat) (r : Nat → Nat) (S : MS) (G : GS) (ps : Int → PT) (p : Int) (r0 : (h, oC 9 [.ref (r 0), .ref (r 1), vI (ms_w S), vI (ms_l S), vL (ms_s S), vI (ms_a S), vI (ms_t S), vI (ms_p S), vI (g_np G), .ref (r 9), .ref (r 10), .ref (r 11), .ref (r 12), .ref (r 13), vI (g_nc G), .ref (r 15), .ref (r 16), .ref (r 17), vI (g_pl G), .ref (r 19), vI (g_ik G), vL (g_ks G), .ref (r 22), vL (g_ss G), .ref (r 24), vI (g_fa G), vI (g_iw G), vI (g_nw G), vI (g_ns G), vI (g_ne G), .ref (r 30), .ref (r 31), .ref (r 32), .ref (r 33), vL (g_h G)]) ∈ RO) (k2 : ((r 11), aI (Y 0) 6 (wof ps)) ∈ RO) (hp : 0 ≤ p ∧ p < 6) (hP : okP (ps p)) : jMl l yX10_whole wsX10_whole { frames := 1, cells := 0, slots := 0, locals := 25 } D Y RO [.ref h, vI p] [] (fun e w1 => e = (powI 100 (pw (ps p))) ∧ w1 = []) := by
  refine j_ofl RX10 rfl rfl rfl (Nat.le_of_ble_eq_true rfl) (fun X C Rt => ?_)
  have hPw := hP.2.2.2.2.1
  refine j_ldc2 (pc := 0) (w := 100) C (List.mem_of_getElem? (i := 1) rfl) dX10_whole_0 ?_
  refine j_aload_n (pc := 3) C 0 0 rfl rfl dX10_whole_3 ?_
  refine j_get (pc := 4) C (Or.inr r0) rfl fX10_whole_X10 11 (by decide) (List.mem_of_getElem? (i := 2) rfl) (Or.inl rfl) rfl dX10_whole_4 ?_
  refine j_iload_n (pc := 7) C 1 1 rfl rfl dX10_whole_7 ?_
  refine j_iald (pc := 8) C (Or.inr k2) rfl (by omega) (by decide) dX10_whole_8 ?_
  refine j_st (st' := [vI (pw (ps p)), vL 100]) rfl rfl rfl ?_
  refine j_callSl (pc := 9) (As := [vL 100, vI (pw (ps p))]) (na := 2) (st := []) C [] [] (wr := []) (fun l => m_power l D Y _ 100 (pw (ps p)) (by first | assumption | omega)) rfl rfl rfl rfl (by decide) rfl gX10_whole_X10_power (by decide +kernel) (by decide) rfl rfl (Nat.le_of_ble_eq_true rfl) (by decide) dX10_whole_9 (fun e_1 w_2 h_3 => ?_)
  obtain ⟨rfl, rfl⟩ := h_3
  refine j_perm (ws' := []) [] rfl rfl ?_
  exact Rt _ _ _ _ _ _ (by decide) (by decide) ⟨rfl, rfl⟩ dX10_whole_12
