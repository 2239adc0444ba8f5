theorem fX3_ofNet_X0 : ∀ w ∈ u_ws RX0 TX0 4, w ∈ wsX3_ofNet := j_words [43, 44, 45, 46] (by decide +kernel)
theorem fX3_ofNet_X5 : ∀ w ∈ u_ws RX5 TX5 4, w ∈ wsX3_ofNet := j_words [47, 48, 49, 50] (by decide +kernel)
theorem fX3_ofNet_X6 : ∀ w ∈ u_ws RX6 TX6 4, w ∈ wsX3_ofNet := j_words [51, 52, 53, 54] (by decide +kernel)
theorem fX3_ofNet_X7 : ∀ w ∈ u_ws RX7 TX7 4, w ∈ wsX3_ofNet := j_words [55, 56, 57, 58] (by decide +kernel)
set_option maxHeartbeats 4000000 in
set_option maxRecDepth 100000 in
theorem c_ofNet (l : Launch) (D : va_G) (Y : Nat → ClassId) (RO : va_W) (a : Nat) (P : PT) (net : Int) (least : Int) (hp : pC a P ∈ RO) (hP : okP P) (hn : -2147483648 ≤ net ∧ net ≤ 2147483647) (hl : 0 ≤ least ∧ least ≤ 1) : jMl l yX3_ofNet wsX3_ofNet { frames := 2, cells := 0, slots := 0, locals := 48 } D Y RO [.ref a, vI net, vI least] [] (fun e w1 => e = (netI P net least) ∧ w1 = []) := by
  refine j_ofl RX3 rfl rfl rfl (Nat.le_of_ble_eq_true rfl) (fun X C Rt => ?_)
  have hPw := hP.2.2.2.2.1
  have hg := giftP_in hP
  have hlo : 0 ≤ lossP P ∧ lossP P ≤ 1 := by unfold lossP; split <;> omega
  refine j_lconst (pc := 0) (w := 0) C rfl dX3_ofNet_0 ?_
  refine j_lstore_n (pc := 1) (lc' := [(3, vL 0), (0, .ref a), (1, vI net), (2, vI least)]) C 3 rfl (by decide) rfl dX3_ofNet_1 ?_
  refine j_iconst (pc := 2) C dX3_ofNet_2 ?_
  refine j_istore (pc := 3) (lc' := [(5, vI 0), (3, vL 0), (0, .ref a), (1, vI net), (2, vI least)]) C (by decide) rfl dX3_ofNet_3 ?_
  have hL5 : ∀ (N5 : Nat) (t : Int) (w : Int), ((pw P + 1 - w).toNat) < N5 → (0 ≤ w ∧ w ≤ pw P + 1) → (t = fo (fun w t => fo (innF P net w least) (pw P - w - least + 1) t) w 0) → jW X 7 0 0 [] [(0, .ref a), (1, vI net), (2, vI least), (3, vL t), (5, vI w)] 5 [] := by
    intro N5
    induction N5 with
    | zero => intro t w hm5 i5_0 i5_1; omega
    | succ N5 ih5 =>
      intro t w hm5 i5_0 i5_1
      refine j_iload (pc := 5) C 4 rfl dX3_ofNet_5 ?_
      refine j_aload_n (pc := 7) C 0 0 rfl rfl dX3_ofNet_7 ?_
      refine j_getP (pc := 8) C (Or.inr hp) hP.1 fX3_ofNet_X5 fX3_ofNet_X6 fX3_ofNet_X7 fX3_ofNet_X0 1 (by decide) (List.mem_of_getElem? (i := 1) rfl) (Or.inl rfl) rfl dX3_ofNet_8 ?_
      refine j_icmp_gt (pc := 11) C 71 rfl (by omega) dX3_ofNet_11 (fun h_1p11 => ?_) (fun h_1p11 => ?_)
      · skip
        refine j_lload_n (pc := 71) C 3 3 rfl rfl dX3_ofNet_71 ?_
        exact Rt _ _ _ _ _ _ (by decide) (by decide) ⟨by unfold netI; rw [i5_1, show w = pw P + 1 by omega], rfl⟩ dX3_ofNet_72
      · skip
        refine j_iload_n (pc := 14) C 2 2 rfl rfl dX3_ofNet_14 ?_
        refine j_istore (pc := 15) (lc' := [(6, vI least), (0, .ref a), (1, vI net), (2, vI least), (3, vL t), (5, vI w)]) C (by decide) rfl dX3_ofNet_15 ?_
        have hL17 : ∀ (N17 : Nat) (u : Int) (s : Int), ((pw P - w + 1 - s).toNat) < N17 → (least ≤ s ∧ (s ≤ pw P - w + 1 ∨ s = least)) → (u = fo (innF P net w least) (s - least) t) → jW X 7 0 0 [] [(0, .ref a), (1, vI net), (2, vI least), (3, vL u), (5, vI w), (6, vI s)] 17 [] := by
          intro N17
          induction N17 with
          | zero => intro u s hm17 i17_0 i17_1; omega
          | succ N17 ih17 =>
            intro u s hm17 i17_0 i17_1
            refine j_iload (pc := 17) C 4 rfl dX3_ofNet_17 ?_
            refine j_iload (pc := 19) C 5 rfl dX3_ofNet_19 ?_
            refine j_iadd (pc := 21) C dX3_ofNet_21 ?_
            refine j_aload_n (pc := 22) C 0 0 rfl rfl dX3_ofNet_22 ?_
            refine j_getP (pc := 23) C (Or.inr hp) hP.1 fX3_ofNet_X5 fX3_ofNet_X6 fX3_ofNet_X7 fX3_ofNet_X0 1 (by decide) (List.mem_of_getElem? (i := 1) rfl) (Or.inl rfl) rfl dX3_ofNet_23 ?_
            refine j_icmp_gt (pc := 26) C 65 rfl (by omega) dX3_ofNet_26 (fun h_2p26 => ?_) (fun h_2p26 => ?_)
            · skip
              refine j_iinc (pc := 65) (lc' := [(5, vI (w + 1)), (0, .ref a), (1, vI net), (2, vI least), (3, vL u), (6, vI s)]) C 4 rfl (by decide) rfl dX3_ofNet_65 ?_
              refine j_goto (pc := 68) C 5 rfl dX3_ofNet_68 ?_
              refine j_locals (lc' := [(0, .ref a), (1, vI net), (2, vI least), (3, vL u), (5, vI (w + 1))]) [1, 2, 3, 4, 0] rfl ?_
              exact ih5 u (w + 1) (by omega) (by omega) (by rw [fo_succ _ (by omega), ← i5_1]; first | (rw [i17_1, show s - least = pw P - w - least + 1 by omega]; done) | skip)
            · skip
              have hgw : 0 ≤ giftP P * w ∧ giftP P * w ≤ 4 * 9 := ⟨Int.mul_nonneg (by omega) (by omega), Int.mul_le_mul (by omega) (by omega) (by omega) (by decide)⟩
              have hls : 0 ≤ lossP P * s ∧ lossP P * s ≤ 1 * 9 := ⟨Int.mul_nonneg (by omega) (by omega), Int.mul_le_mul (by omega) (by omega) (by omega) (by decide)⟩
              refine j_aload_n (pc := 29) C 0 0 rfl rfl dX3_ofNet_29 ?_
              have kk_3 : jW X 7 0 0 [] [(0, .ref a), (1, vI net), (2, vI least), (3, vL u), (5, vI w), (6, vI s)] 33 [vI (giftP P)] := by
                refine j_iload (pc := 33) C 4 rfl dX3_ofNet_33 ?_
                refine j_imul (pc := 35) C dX3_ofNet_35 ?_
                refine j_aload_n (pc := 36) C 0 0 rfl rfl dX3_ofNet_36 ?_
                have kk_4 : jW X 7 0 0 [] [(0, .ref a), (1, vI net), (2, vI least), (3, vL u), (5, vI w), (6, vI s)] 40 [vI (lossP P), vI (giftP P * w)] := by
                  refine j_iload (pc := 40) C 5 rfl dX3_ofNet_40 ?_
                  refine j_imul (pc := 42) C dX3_ofNet_42 ?_
                  refine j_isub (pc := 43) C dX3_ofNet_43 ?_
                  refine j_iload_n (pc := 44) C 1 1 rfl rfl dX3_ofNet_44 ?_
                  refine j_icmp_ne (pc := 45) C 59 rfl (by omega) dX3_ofNet_45 (fun h_5p45 => ?_) (fun h_5p45 => ?_)
                  · skip
                    refine j_iinc (pc := 59) (lc' := [(6, vI (s + 1)), (0, .ref a), (1, vI net), (2, vI least), (3, vL u), (5, vI w)]) C 5 rfl (by decide) rfl dX3_ofNet_59 ?_
                    refine j_goto (pc := 62) C 17 rfl dX3_ofNet_62 ?_
                    refine j_locals (lc' := [(0, .ref a), (1, vI net), (2, vI least), (3, vL u), (5, vI w), (6, vI (s + 1))]) [1, 2, 3, 4, 5, 0] rfl ?_
                    exact ih17 u (s + 1) (by omega) (by omega) (by rw [show s + 1 - least = (s - least) + 1 by omega, fo_succ _ (by omega), ← i17_1]; unfold innF; rw [show least + (s - least) = s by omega]; first | (rw [if_pos (by assumption)]; done) | (rw [if_neg (by assumption)]; omega) | (rw [if_pos (by omega)]; done) | (rw [if_neg (by omega)]; omega))
                  · skip
                    refine j_lload_n (pc := 48) C 3 3 rfl rfl dX3_ofNet_48 ?_
                    refine j_aload_n (pc := 49) C 0 0 rfl rfl dX3_ofNet_49 ?_
                    refine j_iload (pc := 50) C 4 rfl dX3_ofNet_50 ?_
                    refine j_iload (pc := 52) C 5 rfl dX3_ofNet_52 ?_
                    refine j_callSl (pc := 54) (As := [.ref a, vI w, vI s]) (na := 3) (st := [vL u]) C [] [] (wr := []) (fun l => c_of l D Y _ a P w s (List.mem_append_right _ hp) (by first | assumption | omega) (by first | assumption | omega) (by first | assumption | omega) (by first | assumption | omega)) rfl rfl rfl rfl (by decide) rfl gX3_ofNet_X3_of (by decide +kernel) (by decide) rfl rfl (Nat.le_of_ble_eq_true rfl) (by decide) dX3_ofNet_54 (fun e_6 w_7 h_8 => ?_)
                    obtain ⟨rfl, rfl⟩ := h_8
                    refine j_perm (ws' := []) [] rfl rfl ?_
                    refine j_ladd (pc := 57) C dX3_ofNet_57 ?_
                    refine j_lstore_n (pc := 58) (lc' := [(3, vL (u + (oddsI P w s))), (0, .ref a), (1, vI net), (2, vI least), (5, vI w), (6, vI s)]) C 3 rfl (by decide) rfl dX3_ofNet_58 ?_
                    refine j_iinc (pc := 59) (lc' := [(6, vI (s + 1)), (3, vL (u + (oddsI P w s))), (0, .ref a), (1, vI net), (2, vI least), (5, vI w)]) C 5 rfl (by decide) rfl dX3_ofNet_59 ?_
                    refine j_goto (pc := 62) C 17 rfl dX3_ofNet_62 ?_
                    refine j_locals (lc' := [(0, .ref a), (1, vI net), (2, vI least), (3, vL (u + (oddsI P w s))), (5, vI w), (6, vI (s + 1))]) [2, 3, 4, 1, 5, 0] rfl ?_
                    exact ih17 (u + (oddsI P w s)) (s + 1) (by omega) (by omega) (by rw [show s + 1 - least = (s - least) + 1 by omega, fo_succ _ (by omega), ← i17_1]; unfold innF; rw [show least + (s - least) = s by omega]; first | (rw [if_pos (by assumption)]; done) | (rw [if_neg (by assumption)]; omega) | (rw [if_pos (by omega)]; done) | (rw [if_neg (by omega)]; omega))
                rcases (show pk P = 0 ∨ pk P = 1 ∨ pk P = 2 ∨ pk P = 3 by have := hP.1; omega) with h_9 | h_9 | h_9 | h_9
                · have hpm := hp
                  rw [pC_0 h_9] at hpm
                  refine j_callVi (pc := 37) (As := []) (na := 0) (st := [vI (giftP P * w)]) C [] [] (wr := []) (fun l => c_X5_loss l D Y _ a  ) rfl rfl rfl rfl (by decide) rfl (Or.inr (List.mem_append_right _ hpm)) rfl gX3_ofNet_X5_loss ⟨rfl, by decide +kernel⟩ (by decide) rfl rfl (Nat.le_of_ble_eq_true rfl) (by decide) dX3_ofNet_37 (fun e w1 hq => ?_)
                  obtain ⟨rfl, rfl⟩ := hq
                  refine j_perm (ws' := []) [] rfl rfl ?_
                  exact j_st rfl rfl (by unfold lossP; simp [h_9]) kk_4
                · have hpm := hp
                  rw [pC_1 h_9] at hpm
                  refine j_callUi (pc := 37) (As := []) (na := 0) (st := [vI (giftP P * w)]) C [] [] (wr := []) (fun l => c_X5_loss l D Y _ a  ) rfl rfl rfl rfl (by decide) rfl (Or.inr (List.mem_append_right _ hpm)) rfl gX3_ofNet_X5_loss_u34X6 rfl (by decide +kernel) (by decide) rfl rfl (Nat.le_of_ble_eq_true rfl) (by decide) dX3_ofNet_37 (fun e w1 hq => ?_)
                  obtain ⟨rfl, rfl⟩ := hq
                  refine j_perm (ws' := []) [] rfl rfl ?_
                  exact j_st rfl rfl (by unfold lossP; simp [h_9]) kk_4
                · have hpm := hp
                  rw [pC_2 h_9] at hpm
                  refine j_callOi (pc := 37) (As := []) (na := 0) (st := [vI (giftP P * w)]) C [] [] (wr := []) (fun l => c_X7_loss l D Y _ a  ) rfl rfl rfl rfl (by decide) rfl (Or.inr (List.mem_append_right _ hpm)) rfl gX3_ofNet_X7_loss_u34X7 (List.mem_of_getElem? (i := 25) rfl) (by decide +kernel) (by decide) rfl rfl (Nat.le_of_ble_eq_true rfl) (by decide) dX3_ofNet_37 (fun e w1 hq => ?_)
                  obtain ⟨rfl, rfl⟩ := hq
                  refine j_perm (ws' := []) [] rfl rfl ?_
                  exact j_st rfl rfl (by unfold lossP; simp [h_9]) kk_4
                · have hpm := hp
                  rw [pC_3 h_9] at hpm
                  refine j_callOi (pc := 37) (As := []) (na := 0) (st := [vI (giftP P * w)]) C [] [] (wr := []) (fun l => c_X7_loss l D Y _ a  ) rfl rfl rfl rfl (by decide) rfl (Or.inr (List.mem_append_right _ hpm)) rfl gX3_ofNet_X7_loss_u34X0 (List.mem_of_getElem? (i := 25) rfl) (by decide +kernel) (by decide) rfl rfl (Nat.le_of_ble_eq_true rfl) (by decide) dX3_ofNet_37 (fun e w1 hq => ?_)
                  obtain ⟨rfl, rfl⟩ := hq
                  refine j_perm (ws' := []) [] rfl rfl ?_
                  exact j_st rfl rfl (by unfold lossP; simp [h_9]) kk_4
              rcases (show pk P = 0 ∨ pk P = 1 ∨ pk P = 2 ∨ pk P = 3 by have := hP.1; omega) with h_10 | h_10 | h_10 | h_10
              · have hpm := hp
                rw [pC_0 h_10] at hpm
                refine j_callVi (pc := 30) (As := []) (na := 0) (st := []) C [] [] (wr := []) (fun l => c_X5_gift l D Y _ a  ) rfl rfl rfl rfl (by decide) rfl (Or.inr (List.mem_append_right _ hpm)) rfl gX3_ofNet_X5_gift ⟨rfl, by decide +kernel⟩ (by decide) rfl rfl (Nat.le_of_ble_eq_true rfl) (by decide) dX3_ofNet_30 (fun e w1 hq => ?_)
                obtain ⟨rfl, rfl⟩ := hq
                refine j_perm (ws' := []) [] rfl rfl ?_
                exact j_st rfl rfl (by unfold giftP; simp [h_10]) kk_3
              · have hpm := hp
                rw [pC_1 h_10] at hpm
                refine j_callOi (pc := 30) (As := []) (na := 0) (st := []) C [] [] (wr := []) (fun l => c_X6_gift l D Y _ a P (List.mem_append_right _ hp) hP) rfl rfl rfl rfl (by decide) rfl (Or.inr (List.mem_append_right _ hpm)) rfl gX3_ofNet_X6_gift_u30X6 (List.mem_of_getElem? (i := 7) rfl) (by decide +kernel) (by decide) rfl rfl (Nat.le_of_ble_eq_true rfl) (by decide) dX3_ofNet_30 (fun e w1 hq => ?_)
                obtain ⟨rfl, rfl⟩ := hq
                refine j_perm (ws' := []) [] rfl rfl ?_
                exact j_st rfl rfl (by unfold giftP; simp [h_10]) kk_3
              · have hpm := hp
                rw [pC_2 h_10] at hpm
                refine j_callUi (pc := 30) (As := []) (na := 0) (st := []) C [] [] (wr := []) (fun l => c_X5_gift l D Y _ a  ) rfl rfl rfl rfl (by decide) rfl (Or.inr (List.mem_append_right _ hpm)) rfl gX3_ofNet_X5_gift_u30X7 rfl (by decide +kernel) (by decide) rfl rfl (Nat.le_of_ble_eq_true rfl) (by decide) dX3_ofNet_30 (fun e w1 hq => ?_)
                obtain ⟨rfl, rfl⟩ := hq
                refine j_perm (ws' := []) [] rfl rfl ?_
                exact j_st rfl rfl (by unfold giftP; simp [h_10]) kk_3
              · have hpm := hp
                rw [pC_3 h_10] at hpm
                refine j_callUi (pc := 30) (As := []) (na := 0) (st := []) C [] [] (wr := []) (fun l => c_X5_gift l D Y _ a  ) rfl rfl rfl rfl (by decide) rfl (Or.inr (List.mem_append_right _ hpm)) rfl gX3_ofNet_X5_gift_u30X0 rfl (by decide +kernel) (by decide) rfl rfl (Nat.le_of_ble_eq_true rfl) (by decide) dX3_ofNet_30 (fun e w1 hq => ?_)
                obtain ⟨rfl, rfl⟩ := hq
                refine j_perm (ws' := []) [] rfl rfl ?_
                exact j_st rfl rfl (by unfold giftP; simp [h_10]) kk_3
        refine j_locals (lc' := [(0, .ref a), (1, vI net), (2, vI least), (3, vL t), (5, vI w), (6, vI least)]) [1, 2, 3, 4, 5, 0] rfl ?_
        exact hL17 _ t least (Nat.lt_succ_self _) (by omega) (by rw [show least - least = 0 by omega]; rfl)
  refine j_locals (lc' := [(0, .ref a), (1, vI net), (2, vI least), (3, vL 0), (5, vI 0)]) [2, 3, 4, 1, 0] rfl ?_
  exact hL5 _ 0 0 (Nat.lt_succ_self _) (by omega) rfl
theorem fX10_oddsOf_X10 : ∀ w ∈ u_ws RX10 TX10 35, w ∈ wsX10_oddsOf := j_words [12, 13, 14, 15, 16, 17, 18, 19, 20, 21, 22, 23, 24, 25, 26, 27, 28, 29, 30, 31, 32, 33, 34, 35, 36, 37, 38, 39, 40, 41, 42, 43, 44, 45, 46] (by decide +kernel)
set_option maxHeartbeats 4000000 in
set_option maxRecDepth 100000 in
theorem m_oddsOf (l : Launch) (D : va_G) (Y : Nat → ClassId) (RO : va_W) (h : Nat) (r : Nat → Nat) (S : MS) (G : GS) (ps : Int → PT) (p : Int) (w : Int) (s : Int) (r0 : (h, oC 9 [.ref (r 0), .ref (r 1), vI (ms_w S), vI (ms_l S), vL (ms_s S), vI (ms_a S), vI (ms_t S), vI (ms_p S), vI (g_np G), .ref (r 9), .ref (r 10), .ref (r 11), .ref (r 12), .ref (r 13), vI (g_nc G), .ref (r 15), .ref (r 16), .ref (r 17), vI (g_pl G), .ref (r 19), vI (g_ik G), vL (g_ks G), .ref (r 22), vL (g_ss G), .ref (r 24), vI (g_fa G), vI (g_iw G), vI (g_nw G), vI (g_ns G), vI (g_ne G), .ref (r 30), .ref (r 31), .ref (r 32), .ref (r 33), vL (g_h G)]) ∈ RO) (k2 : ((r 11), aI (Y 0) 6 (wof ps)) ∈ RO) (k3 : ((r 12), aI (Y 0) 6 (iof ps)) ∈ RO) (k4 : ((r 13), aI (Y 0) 6 (zof ps)) ∈ RO) (hp : 0 ≤ p ∧ p < 6) (hP : okP (ps p)) (hw : 0 ≤ w) (hs : 0 ≤ s) (hws : w + s ≤ pw (ps p)) : jMl l yX10_oddsOf wsX10_oddsOf { frames := 1, cells := 0, slots := 0, locals := 25 } D Y RO [.ref h, vI p, vI w, vI s] [] (fun e w1 => e = (oddsI (ps p) w s) ∧ w1 = []) := by
  refine j_ofl RX10 rfl rfl rfl (Nat.le_of_ble_eq_true rfl) (fun X C Rt => ?_)
  have hPw := hP.2.2.2.2.1
  have hPi := hP.2.2.2.2.2.1
  have hPz := hP.2.2.2.2.2.2
  have hm1 : 0 ≤ (10 - pi (ps p)) * pz (ps p) ∧ (10 - pi (ps p)) * pz (ps p) ≤ 100 := ⟨Int.mul_nonneg (by omega) (by omega), Int.le_trans (Int.mul_le_mul (show 10 - pi (ps p) ≤ 10 by omega) (show pz (ps p) ≤ 10 by omega) (by omega) (by decide)) (by decide)⟩
  have hm2 : 0 ≤ (10 - pi (ps p)) * (10 - pz (ps p)) ∧ (10 - pi (ps p)) * (10 - pz (ps p)) ≤ 100 := ⟨Int.mul_nonneg (by omega) (by omega), Int.le_trans (Int.mul_le_mul (show 10 - pi (ps p) ≤ 10 by omega) (show (10 - pz (ps p)) ≤ 10 by omega) (by omega) (by decide)) (by decide)⟩
  have hx1 := pow_in (b := 10 * pi (ps p)) (n := w) (by omega) (by omega)
  have hx2 := pow_in (b := (10 - pi (ps p)) * pz (ps p)) (n := s) hm1 (by omega)
  have hx3 := pow_in (b := (10 - pi (ps p)) * (10 - pz (ps p))) (n := pw (ps p) - w - s) hm2 (by omega)
  refine j_aload_n (pc := 0) C 0 0 rfl rfl dX10_oddsOf_0 ?_
  refine j_get (pc := 1) C (Or.inr r0) rfl fX10_oddsOf_X10 11 (by decide) (List.mem_of_getElem? (i := 1) rfl) (Or.inl rfl) rfl dX10_oddsOf_1 ?_
  refine j_iload_n (pc := 4) C 1 1 rfl rfl dX10_oddsOf_4 ?_
  refine j_iald (pc := 5) C (Or.inr k2) rfl (by omega) (by decide) dX10_oddsOf_5 ?_
  refine j_st (st' := [vI (pw (ps p))]) rfl rfl rfl ?_
  refine j_istore (pc := 6) (lc' := [(4, vI (pw (ps p))), (0, .ref h), (1, vI p), (2, vI w), (3, vI s)]) C (by decide) rfl dX10_oddsOf_6 ?_
  refine j_iload (pc := 8) C 0 rfl dX10_oddsOf_8 ?_
  refine j_iload_n (pc := 10) C 2 3 rfl rfl dX10_oddsOf_10 ?_
  refine j_isub (pc := 11) C dX10_oddsOf_11 ?_
  refine j_iload_n (pc := 12) C 3 4 rfl rfl dX10_oddsOf_12 ?_
  refine j_isub (pc := 13) C dX10_oddsOf_13 ?_
  refine j_istore (pc := 14) (lc' := [(5, vI ((pw (ps p) - w) - s)), (4, vI (pw (ps p))), (0, .ref h), (1, vI p), (2, vI w), (3, vI s)]) C (by decide) rfl dX10_oddsOf_14 ?_
  refine j_iload (pc := 16) C 0 rfl dX10_oddsOf_16 ?_
  refine j_if_ge (pc := 18) C 23 rfl (by omega) dX10_oddsOf_18 (fun h_1p18 => ?_) (fun h_1p18 => ?_)
  · skip
    refine j_ldc2 (pc := 23) (w := 10) C (List.mem_of_getElem? (i := 2) rfl) dX10_oddsOf_23 ?_
    refine j_aload_n (pc := 26) C 0 2 rfl rfl dX10_oddsOf_26 ?_
    refine j_get (pc := 27) C (Or.inr r0) rfl fX10_oddsOf_X10 12 (by decide) (List.mem_of_getElem? (i := 3) rfl) (Or.inl rfl) rfl dX10_oddsOf_27 ?_
    refine j_iload_n (pc := 30) C 1 3 rfl rfl dX10_oddsOf_30 ?_
    refine j_iald (pc := 31) C (Or.inr k3) rfl (by omega) (by decide) dX10_oddsOf_31 ?_
    refine j_st (st' := [vI (pi (ps p)), vL 10]) rfl rfl rfl ?_
    refine j_i2l (pc := 32) C (by omega) dX10_oddsOf_32 ?_
    refine j_lmul (pc := 33) C dX10_oddsOf_33 ?_
    refine j_iload_n (pc := 34) C 2 4 rfl rfl dX10_oddsOf_34 ?_
    refine j_callSl (pc := 35) (As := [vL (10 * pi (ps p)), vI w]) (na := 2) (st := []) C [] [] (wr := []) (fun l => m_power l D Y _ (10 * pi (ps p)) w (by first | assumption | omega)) rfl rfl rfl rfl (by decide) rfl gX10_oddsOf_X10_power (by decide +kernel) (by decide) rfl rfl (Nat.le_of_ble_eq_true rfl) (by decide) dX10_oddsOf_35 (fun e_2 w_3 h_4 => ?_)
    obtain ⟨rfl, rfl⟩ := h_4
    refine j_perm (ws' := []) [] rfl rfl ?_
    refine j_lstore (pc := 38) (lc' := [(6, vL (powI (10 * pi (ps p)) w)), (5, vI ((pw (ps p) - w) - s)), (4, vI (pw (ps p))), (0, .ref h), (1, vI p), (2, vI w), (3, vI s)]) C (by decide) rfl dX10_oddsOf_38 ?_
    refine j_ldc2 (pc := 40) (w := 10) C (List.mem_of_getElem? (i := 2) rfl) dX10_oddsOf_40 ?_
    refine j_aload_n (pc := 43) C 0 3 rfl rfl dX10_oddsOf_43 ?_
    refine j_get (pc := 44) C (Or.inr r0) rfl fX10_oddsOf_X10 12 (by decide) (List.mem_of_getElem? (i := 3) rfl) (Or.inl rfl) rfl dX10_oddsOf_44 ?_
    refine j_iload_n (pc := 47) C 1 4 rfl rfl dX10_oddsOf_47 ?_
    refine j_iald (pc := 48) C (Or.inr k3) rfl (by omega) (by decide) dX10_oddsOf_48 ?_
    refine j_st (st' := [vI (pi (ps p)), vL 10]) rfl rfl rfl ?_
    refine j_i2l (pc := 49) C (by omega) dX10_oddsOf_49 ?_
    refine j_lsub (pc := 50) C dX10_oddsOf_50 ?_
    refine j_aload_n (pc := 51) C 0 3 rfl rfl dX10_oddsOf_51 ?_
    refine j_get (pc := 52) C (Or.inr r0) rfl fX10_oddsOf_X10 13 (by decide) (List.mem_of_getElem? (i := 4) rfl) (Or.inl rfl) rfl dX10_oddsOf_52 ?_
    refine j_iload_n (pc := 55) C 1 4 rfl rfl dX10_oddsOf_55 ?_
    refine j_iald (pc := 56) C (Or.inr k4) rfl (by omega) (by decide) dX10_oddsOf_56 ?_
    refine j_st (st' := [vI (pz (ps p)), vL (10 - pi (ps p))]) rfl rfl rfl ?_
    refine j_i2l (pc := 57) C (by omega) dX10_oddsOf_57 ?_
    refine j_lmul (pc := 58) C dX10_oddsOf_58 ?_
    refine j_iload_n (pc := 59) C 3 6 rfl rfl dX10_oddsOf_59 ?_
    refine j_callSl (pc := 60) (As := [vL ((10 - pi (ps p)) * pz (ps p)), vI s]) (na := 2) (st := []) C [] [] (wr := []) (fun l => m_power l D Y _ ((10 - pi (ps p)) * pz (ps p)) s (by first | assumption | omega)) rfl rfl rfl rfl (by decide) rfl gX10_oddsOf_X10_power (by decide +kernel) (by decide) rfl rfl (Nat.le_of_ble_eq_true rfl) (by decide) dX10_oddsOf_60 (fun e_5 w_6 h_7 => ?_)
    obtain ⟨rfl, rfl⟩ := h_7
    refine j_perm (ws' := []) [] rfl rfl ?_
    refine j_lstore (pc := 63) (lc' := [(8, vL (powI ((10 - pi (ps p)) * pz (ps p)) s)), (6, vL (powI (10 * pi (ps p)) w)), (5, vI ((pw (ps p) - w) - s)), (4, vI (pw (ps p))), (0, .ref h), (1, vI p), (2, vI w), (3, vI s)]) C (by decide) rfl dX10_oddsOf_63 ?_
    refine j_ldc2 (pc := 65) (w := 10) C (List.mem_of_getElem? (i := 2) rfl) dX10_oddsOf_65 ?_
    refine j_aload_n (pc := 68) C 0 4 rfl rfl dX10_oddsOf_68 ?_
    refine j_get (pc := 69) C (Or.inr r0) rfl fX10_oddsOf_X10 12 (by decide) (List.mem_of_getElem? (i := 3) rfl) (Or.inl rfl) rfl dX10_oddsOf_69 ?_
    refine j_iload_n (pc := 72) C 1 5 rfl rfl dX10_oddsOf_72 ?_
    refine j_iald (pc := 73) C (Or.inr k3) rfl (by omega) (by decide) dX10_oddsOf_73 ?_
    refine j_st (st' := [vI (pi (ps p)), vL 10]) rfl rfl rfl ?_
    refine j_i2l (pc := 74) C (by omega) dX10_oddsOf_74 ?_
    refine j_lsub (pc := 75) C dX10_oddsOf_75 ?_
    refine j_ldc2 (pc := 76) (w := 10) C (List.mem_of_getElem? (i := 2) rfl) dX10_oddsOf_76 ?_
    refine j_aload_n (pc := 79) C 0 4 rfl rfl dX10_oddsOf_79 ?_
    refine j_get (pc := 80) C (Or.inr r0) rfl fX10_oddsOf_X10 13 (by decide) (List.mem_of_getElem? (i := 4) rfl) (Or.inl rfl) rfl dX10_oddsOf_80 ?_
    refine j_iload_n (pc := 83) C 1 5 rfl rfl dX10_oddsOf_83 ?_
    refine j_iald (pc := 84) C (Or.inr k4) rfl (by omega) (by decide) dX10_oddsOf_84 ?_
    refine j_st (st' := [vI (pz (ps p)), vL 10, vL (10 - pi (ps p))]) rfl rfl rfl ?_
    refine j_i2l (pc := 85) C (by omega) dX10_oddsOf_85 ?_
    refine j_lsub (pc := 86) C dX10_oddsOf_86 ?_
    refine j_lmul (pc := 87) C dX10_oddsOf_87 ?_
    refine j_iload (pc := 88) C 2 rfl dX10_oddsOf_88 ?_
    refine j_callSl (pc := 90) (As := [vL ((10 - pi (ps p)) * (10 - pz (ps p))), vI ((pw (ps p) - w) - s)]) (na := 2) (st := []) C [] [] (wr := []) (fun l => m_power l D Y _ ((10 - pi (ps p)) * (10 - pz (ps p))) ((pw (ps p) - w) - s) (by first | assumption | omega)) rfl rfl rfl rfl (by decide) rfl gX10_oddsOf_X10_power (by decide +kernel) (by decide) rfl rfl (Nat.le_of_ble_eq_true rfl) (by decide) dX10_oddsOf_90 (fun e_8 w_9 h_10 => ?_)
    obtain ⟨rfl, rfl⟩ := h_10
    refine j_perm (ws' := []) [] rfl rfl ?_
    refine j_lstore (pc := 93) (lc' := [(10, vL (powI ((10 - pi (ps p)) * (10 - pz (ps p))) ((pw (ps p) - w) - s))), (8, vL (powI ((10 - pi (ps p)) * pz (ps p)) s)), (6, vL (powI (10 * pi (ps p)) w)), (5, vI ((pw (ps p) - w) - s)), (4, vI (pw (ps p))), (0, .ref h), (1, vI p), (2, vI w), (3, vI s)]) C (by decide) rfl dX10_oddsOf_93 ?_
    refine j_lload (pc := 95) C 2 rfl dX10_oddsOf_95 ?_
    refine j_lconst (pc := 97) (w := 0) C rfl dX10_oddsOf_97 ?_
    refine j_lcmp (pc := 98) C (by omega) dX10_oddsOf_98 ?_
    refine j_if_eq (pc := 99) C 116 rfl (by unfold cmpI; omega) dX10_oddsOf_99 (fun h_11p99 => ?_) (fun h_11p99 => ?_)
    · skip
      unfold cmpI at h_11p99
      refine j_lconst (pc := 116) (w := 0) C rfl dX10_oddsOf_116 ?_
      refine j_goto (pc := 117) C 144 rfl dX10_oddsOf_117 ?_
      exact Rt _ _ _ _ _ _ (by decide) (by decide) ⟨by have hz : powI (10 * pi (ps p)) w = 0 ∨ powI ((10 - pi (ps p)) * pz (ps p)) s = 0 ∨ powI ((10 - pi (ps p)) * (10 - pz (ps p))) (pw (ps p) - w - s) = 0 := (by omega); unfold oddsI; rcases hz with q | q | q <;> rw [q] <;> simp, rfl⟩ dX10_oddsOf_144
    · skip
      unfold cmpI at h_11p99
      refine j_lload (pc := 102) C 1 rfl dX10_oddsOf_102 ?_
      refine j_lconst (pc := 104) (w := 0) C rfl dX10_oddsOf_104 ?_
      refine j_lcmp (pc := 105) C (by omega) dX10_oddsOf_105 ?_
      refine j_if_eq (pc := 106) C 116 rfl (by unfold cmpI; omega) dX10_oddsOf_106 (fun h_12p106 => ?_) (fun h_12p106 => ?_)
      · skip
        unfold cmpI at h_12p106
        refine j_lconst (pc := 116) (w := 0) C rfl dX10_oddsOf_116 ?_
        refine j_goto (pc := 117) C 144 rfl dX10_oddsOf_117 ?_
        exact Rt _ _ _ _ _ _ (by decide) (by decide) ⟨by have hz : powI (10 * pi (ps p)) w = 0 ∨ powI ((10 - pi (ps p)) * pz (ps p)) s = 0 ∨ powI ((10 - pi (ps p)) * (10 - pz (ps p))) (pw (ps p) - w - s) = 0 := (by omega); unfold oddsI; rcases hz with q | q | q <;> rw [q] <;> simp, rfl⟩ dX10_oddsOf_144
      · skip
        unfold cmpI at h_12p106
        refine j_lload (pc := 109) C 0 rfl dX10_oddsOf_109 ?_
        refine j_lconst (pc := 111) (w := 0) C rfl dX10_oddsOf_111 ?_
        refine j_lcmp (pc := 112) C (by omega) dX10_oddsOf_112 ?_
        refine j_if_ne (pc := 113) C 120 rfl (by unfold cmpI; omega) dX10_oddsOf_113 (fun h_13p113 => ?_) (fun h_13p113 => ?_)
        · skip
          unfold cmpI at h_13p113
          refine j_iload (pc := 120) C 4 rfl dX10_oddsOf_120 ?_
          refine j_iload_n (pc := 122) C 2 7 rfl rfl dX10_oddsOf_122 ?_
          refine j_callSl (pc := 123) (As := [vI (pw (ps p)), vI w]) (na := 2) (st := []) C [] [] (wr := []) (fun l => m_choose l D Y _ (pw (ps p)) w (by first | assumption | omega) (by first | assumption | omega)) rfl rfl rfl rfl (by decide) rfl gX10_oddsOf_X10_choose (by decide +kernel) (by decide) rfl rfl (Nat.le_of_ble_eq_true rfl) (by decide) dX10_oddsOf_123 (fun e_14 w_15 h_16 => ?_)
          obtain ⟨rfl, rfl⟩ := h_16
          refine j_perm (ws' := []) [] rfl rfl ?_
          refine j_iload (pc := 126) C 4 rfl dX10_oddsOf_126 ?_
          refine j_iload_n (pc := 128) C 2 7 rfl rfl dX10_oddsOf_128 ?_
          refine j_isub (pc := 129) C dX10_oddsOf_129 ?_
          refine j_iload_n (pc := 130) C 3 8 rfl rfl dX10_oddsOf_130 ?_
          refine j_callSl (pc := 131) (As := [vI (pw (ps p) - w), vI s]) (na := 2) (st := [vL (choI (pw (ps p)) w)]) C [] [] (wr := []) (fun l => m_choose l D Y _ (pw (ps p) - w) s (by first | assumption | omega) (by first | assumption | omega)) rfl rfl rfl rfl (by decide) rfl gX10_oddsOf_X10_choose (by decide +kernel) (by decide) rfl rfl (Nat.le_of_ble_eq_true rfl) (by decide) dX10_oddsOf_131 (fun e_17 w_18 h_19 => ?_)
          obtain ⟨rfl, rfl⟩ := h_19
          refine j_perm (ws' := []) [] rfl rfl ?_
          refine j_lmul (pc := 134) C dX10_oddsOf_134 ?_
          refine j_lload (pc := 135) C 2 rfl dX10_oddsOf_135 ?_
          refine j_lload (pc := 137) C 1 rfl dX10_oddsOf_137 ?_
          refine j_lmul (pc := 139) C dX10_oddsOf_139 ?_
          refine j_lload (pc := 140) C 0 rfl dX10_oddsOf_140 ?_
          refine j_lmul (pc := 142) C dX10_oddsOf_142 ?_
          refine j_lmul (pc := 143) C dX10_oddsOf_143 ?_
          exact Rt _ _ _ _ _ _ (by decide) (by decide) ⟨by unfold oddsI; simp only [Int.mul_assoc], rfl⟩ dX10_oddsOf_144
        · skip
          unfold cmpI at h_13p113
          refine j_lconst (pc := 116) (w := 0) C rfl dX10_oddsOf_116 ?_
          refine j_goto (pc := 117) C 144 rfl dX10_oddsOf_117 ?_
          exact Rt _ _ _ _ _ _ (by decide) (by decide) ⟨by have hz : powI (10 * pi (ps p)) w = 0 ∨ powI ((10 - pi (ps p)) * pz (ps p)) s = 0 ∨ powI ((10 - pi (ps p)) * (10 - pz (ps p))) (pw (ps p) - w - s) = 0 := (by omega); unfold oddsI; rcases hz with q | q | q <;> rw [q] <;> simp, rfl⟩ dX10_oddsOf_144
  · skip
    exfalso; omega
