theorem fX10_netOdds_X10 : ∀ w ∈ u_ws RX10 TX10 35, w ∈ wsX10_netOdds := j_words [26, 27, 28, 29, 30, 31, 32, 33, 34, 35, 36, 37, 38, 39, 40, 41, 42, 43, 44, 45, 46, 47, 48, 49, 50, 51, 52, 53, 54, 55, 56, 57, 58, 59, 60] (by decide +kernel)
set_option maxHeartbeats 4000000 in
set_option maxRecDepth 100000 in
theorem m_netOdds (l : Launch) (D : va_G) (Y : Nat → ClassId) (RO : va_W) (h : Nat) (r : Nat → Nat) (S : MS) (G : GS) (ps : Int → PT) (p : Int) (net : Int) (least : Int) (r0 : (h, oC 9 [.ref (r 0), .ref (r 1), vI (ms_w S), vI (ms_l S), vL (ms_s S), vI (ms_a S), vI (ms_t S), vI (ms_p S), vI (g_np G), .ref (r 9), .ref (r 10), .ref (r 11), .ref (r 12), .ref (r 13), vI (g_nc G), .ref (r 15), .ref (r 16), .ref (r 17), vI (g_pl G), .ref (r 19), vI (g_ik G), vL (g_ks G), .ref (r 22), vL (g_ss G), .ref (r 24), vI (g_fa G), vI (g_iw G), vI (g_nw G), vI (g_ns G), vI (g_ne G), .ref (r 30), .ref (r 31), .ref (r 32), .ref (r 33), vL (g_h G)]) ∈ RO) (k0 : ((r 9), aI (Y 0) 6 (kof ps)) ∈ RO) (k1 : ((r 10), aI (Y 0) 6 (nof ps)) ∈ RO) (k2 : ((r 11), aI (Y 0) 6 (wof ps)) ∈ RO) (k3 : ((r 12), aI (Y 0) 6 (iof ps)) ∈ RO) (k4 : ((r 13), aI (Y 0) 6 (zof ps)) ∈ RO) (hp : 0 ≤ p ∧ p < 6) (hP : okP (ps p)) (hn : -2147483648 ≤ net ∧ net ≤ 2147483647) (hl : 0 ≤ least ∧ least ≤ 1) : jMl l yX10_netOdds wsX10_netOdds { frames := 2, cells := 0, slots := 0, locals := 56 } D Y RO [.ref h, vI p, vI net, vI least] [] (fun e w1 => e = (netI (ps p) net least) ∧ w1 = []) := by
  refine j_ofl RX10 rfl rfl rfl (Nat.le_of_ble_eq_true rfl) (fun X C Rt => ?_)
  have hPw := hP.2.2.2.2.1
  have hg := giftP_in hP
  have hlo : 0 ≤ lossP (ps p) ∧ lossP (ps p) ≤ 1 := by unfold lossP; split <;> omega
  refine j_lconst (pc := 0) (w := 0) C rfl dX10_netOdds_0 ?_
  refine j_lstore (pc := 1) (lc' := [(4, vL 0), (0, .ref h), (1, vI p), (2, vI net), (3, vI least)]) C (by decide) rfl dX10_netOdds_1 ?_
  refine j_iconst (pc := 3) C dX10_netOdds_3 ?_
  refine j_istore (pc := 4) (lc' := [(6, vI 0), (4, vL 0), (0, .ref h), (1, vI p), (2, vI net), (3, vI least)]) C (by decide) rfl dX10_netOdds_4 ?_
  have hL6 : ∀ (N6 : Nat) (t : Int) (w : Int), ((pw (ps p) + 1 - w).toNat) < N6 → (0 ≤ w ∧ w ≤ pw (ps p) + 1) → (t = fo (fun w t => fo (innF (ps p) net w least) (pw (ps p) - w - least + 1) t) w 0) → jW X 8 0 0 [] [(0, .ref h), (1, vI p), (2, vI net), (3, vI least), (4, vL t), (6, vI w)] 6 [] := by
    intro N6
    induction N6 with
    | zero => intro t w hm6 i6_0 i6_1; omega
    | succ N6 ih6 =>
      intro t w hm6 i6_0 i6_1
      refine j_iload (pc := 6) C 5 rfl dX10_netOdds_6 ?_
      refine j_aload_n (pc := 8) C 0 0 rfl rfl dX10_netOdds_8 ?_
      refine j_get (pc := 9) C (Or.inr r0) rfl fX10_netOdds_X10 11 (by decide) (List.mem_of_getElem? (i := 1) rfl) (Or.inl rfl) rfl dX10_netOdds_9 ?_
      refine j_iload_n (pc := 12) C 1 1 rfl rfl dX10_netOdds_12 ?_
      refine j_iald (pc := 13) C (Or.inr k2) rfl (by omega) (by decide) dX10_netOdds_13 ?_
      refine j_st (st' := [vI (pw (ps p)), vI w]) rfl rfl rfl ?_
      refine j_icmp_gt (pc := 14) C 77 rfl (by omega) dX10_netOdds_14 (fun h_1p14 => ?_) (fun h_1p14 => ?_)
      · skip
        refine j_lload (pc := 77) C 4 rfl dX10_netOdds_77 ?_
        exact Rt _ _ _ _ _ _ (by decide) (by decide) ⟨by unfold netI; rw [i6_1, show w = pw (ps p) + 1 by omega], rfl⟩ dX10_netOdds_79
      · skip
        refine j_iload_n (pc := 17) C 3 3 rfl rfl dX10_netOdds_17 ?_
        refine j_istore (pc := 18) (lc' := [(7, vI least), (0, .ref h), (1, vI p), (2, vI net), (3, vI least), (4, vL t), (6, vI w)]) C (by decide) rfl dX10_netOdds_18 ?_
        have hL20 : ∀ (N20 : Nat) (u : Int) (s : Int), ((pw (ps p) - w + 1 - s).toNat) < N20 → (least ≤ s ∧ (s ≤ pw (ps p) - w + 1 ∨ s = least)) → (u = fo (innF (ps p) net w least) (s - least) t) → jW X 8 0 0 [] [(0, .ref h), (1, vI p), (2, vI net), (3, vI least), (4, vL u), (6, vI w), (7, vI s)] 20 [] := by
          intro N20
          induction N20 with
          | zero => intro u s hm20 i20_0 i20_1; omega
          | succ N20 ih20 =>
            intro u s hm20 i20_0 i20_1
            refine j_iload (pc := 20) C 6 rfl dX10_netOdds_20 ?_
            refine j_iload (pc := 22) C 5 rfl dX10_netOdds_22 ?_
            refine j_iadd (pc := 24) C dX10_netOdds_24 ?_
            refine j_aload_n (pc := 25) C 0 0 rfl rfl dX10_netOdds_25 ?_
            refine j_get (pc := 26) C (Or.inr r0) rfl fX10_netOdds_X10 11 (by decide) (List.mem_of_getElem? (i := 1) rfl) (Or.inl rfl) rfl dX10_netOdds_26 ?_
            refine j_iload_n (pc := 29) C 1 1 rfl rfl dX10_netOdds_29 ?_
            refine j_iald (pc := 30) C (Or.inr k2) rfl (by omega) (by decide) dX10_netOdds_30 ?_
            refine j_st (st' := [vI (pw (ps p)), vI (s + w)]) rfl rfl rfl ?_
            refine j_icmp_gt (pc := 31) C 71 rfl (by omega) dX10_netOdds_31 (fun h_2p31 => ?_) (fun h_2p31 => ?_)
            · skip
              refine j_iinc (pc := 71) (lc' := [(6, vI (w + 1)), (0, .ref h), (1, vI p), (2, vI net), (3, vI least), (4, vL u), (7, vI s)]) C 5 rfl (by decide) rfl dX10_netOdds_71 ?_
              refine j_goto (pc := 74) C 6 rfl dX10_netOdds_74 ?_
              refine j_locals (lc' := [(0, .ref h), (1, vI p), (2, vI net), (3, vI least), (4, vL u), (6, vI (w + 1))]) [1, 2, 3, 4, 5, 0] rfl ?_
              exact ih6 u (w + 1) (by omega) (by omega) (by rw [fo_succ _ (by omega), ← i6_1]; first | (rw [i20_1, show s - least = pw (ps p) - w - least + 1 by omega]; done) | skip)
            · skip
              have hgw : 0 ≤ giftP (ps p) * w ∧ giftP (ps p) * w ≤ 4 * 9 := ⟨Int.mul_nonneg (by omega) (by omega), Int.mul_le_mul (by omega) (by omega) (by omega) (by decide)⟩
              have hls : 0 ≤ lossP (ps p) * s ∧ lossP (ps p) * s ≤ 1 * 9 := ⟨Int.mul_nonneg (by omega) (by omega), Int.mul_le_mul (by omega) (by omega) (by omega) (by decide)⟩
              refine j_lload (pc := 34) C 4 rfl dX10_netOdds_34 ?_
              refine j_aload_n (pc := 36) C 0 0 rfl rfl dX10_netOdds_36 ?_
              refine j_iload_n (pc := 37) C 1 1 rfl rfl dX10_netOdds_37 ?_
              refine j_iload (pc := 38) C 5 rfl dX10_netOdds_38 ?_
              refine j_iload (pc := 40) C 6 rfl dX10_netOdds_40 ?_
              refine j_callVi (pc := 42) (As := [vI p, vI w, vI s]) (na := 3) (st := [vL u]) C [] [] (wr := []) (fun l => m_netOf l D Y _ h r S G ps p w s (List.mem_append_right _ r0) (List.mem_append_right _ k0) (List.mem_append_right _ k1) (by first | assumption | omega) (by first | assumption | omega) (by first | assumption | omega) (by first | assumption | omega)) rfl rfl rfl rfl (by decide) rfl (Or.inr (List.mem_append_right _ r0)) rfl gX10_netOdds_X10_netOf ⟨rfl, by decide +kernel⟩ (by decide) rfl rfl (Nat.le_of_ble_eq_true rfl) (by decide) dX10_netOdds_42 (fun e_3 w_4 h_5 => ?_)
              obtain ⟨rfl, rfl⟩ := h_5
              refine j_perm (ws' := []) [] rfl rfl ?_
              refine j_iload_n (pc := 45) C 2 2 rfl rfl dX10_netOdds_45 ?_
              refine j_icmp_ne (pc := 46) C 61 rfl (by omega) dX10_netOdds_46 (fun h_6p46 => ?_) (fun h_6p46 => ?_)
              · skip
                refine j_lconst (pc := 61) (w := 0) C rfl dX10_netOdds_61 ?_
                refine j_ladd (pc := 62) C dX10_netOdds_62 ?_
                refine j_lstore (pc := 63) (lc' := [(4, vL (u + 0)), (0, .ref h), (1, vI p), (2, vI net), (3, vI least), (6, vI w), (7, vI s)]) C (by decide) rfl dX10_netOdds_63 ?_
                refine j_iinc (pc := 65) (lc' := [(7, vI (s + 1)), (4, vL (u + 0)), (0, .ref h), (1, vI p), (2, vI net), (3, vI least), (6, vI w)]) C 6 rfl (by decide) rfl dX10_netOdds_65 ?_
                refine j_goto (pc := 68) C 20 rfl dX10_netOdds_68 ?_
                refine j_locals (lc' := [(0, .ref h), (1, vI p), (2, vI net), (3, vI least), (4, vL (u + 0)), (6, vI w), (7, vI (s + 1))]) [2, 3, 4, 5, 1, 6, 0] rfl ?_
                exact ih20 (u + 0) (s + 1) (by omega) (by omega) (by rw [show s + 1 - least = (s - least) + 1 by omega, fo_succ _ (by omega), ← i20_1]; unfold innF; rw [show least + (s - least) = s by omega]; first | (rw [if_pos (by assumption)]; done) | (rw [if_neg (by assumption)]; done) | (rw [if_neg (by assumption)]; omega) | (rw [if_neg (by omega)]; done) | (rw [if_pos (by omega)]; done) | (rw [if_neg (by omega)]; omega))
              · skip
                refine j_aload_n (pc := 49) C 0 0 rfl rfl dX10_netOdds_49 ?_
                refine j_iload_n (pc := 50) C 1 1 rfl rfl dX10_netOdds_50 ?_
                refine j_iload (pc := 51) C 5 rfl dX10_netOdds_51 ?_
                refine j_iload (pc := 53) C 6 rfl dX10_netOdds_53 ?_
                refine j_callVl (pc := 55) (As := [vI p, vI w, vI s]) (na := 3) (st := [vL u]) C [] [] (wr := []) (fun l => m_oddsOf l D Y _ h r S G ps p w s (List.mem_append_right _ r0) (List.mem_append_right _ k2) (List.mem_append_right _ k3) (List.mem_append_right _ k4) (by first | assumption | omega) (by first | assumption | omega) (by first | assumption | omega) (by first | assumption | omega) (by first | assumption | omega)) rfl rfl rfl rfl (by decide) rfl (Or.inr (List.mem_append_right _ r0)) rfl gX10_netOdds_X10_oddsOf ⟨rfl, by decide +kernel⟩ (by decide) rfl rfl (Nat.le_of_ble_eq_true rfl) (by decide) dX10_netOdds_55 (fun e_7 w_8 h_9 => ?_)
                obtain ⟨rfl, rfl⟩ := h_9
                refine j_perm (ws' := []) [] rfl rfl ?_
                refine j_goto (pc := 58) C 62 rfl dX10_netOdds_58 ?_
                refine j_ladd (pc := 62) C dX10_netOdds_62 ?_
                refine j_lstore (pc := 63) (lc' := [(4, vL (u + (oddsI (ps p) w s))), (0, .ref h), (1, vI p), (2, vI net), (3, vI least), (6, vI w), (7, vI s)]) C (by decide) rfl dX10_netOdds_63 ?_
                refine j_iinc (pc := 65) (lc' := [(7, vI (s + 1)), (4, vL (u + (oddsI (ps p) w s))), (0, .ref h), (1, vI p), (2, vI net), (3, vI least), (6, vI w)]) C 6 rfl (by decide) rfl dX10_netOdds_65 ?_
                refine j_goto (pc := 68) C 20 rfl dX10_netOdds_68 ?_
                refine j_locals (lc' := [(0, .ref h), (1, vI p), (2, vI net), (3, vI least), (4, vL (u + (oddsI (ps p) w s))), (6, vI w), (7, vI (s + 1))]) [2, 3, 4, 5, 1, 6, 0] rfl ?_
                exact ih20 (u + (oddsI (ps p) w s)) (s + 1) (by omega) (by omega) (by rw [show s + 1 - least = (s - least) + 1 by omega, fo_succ _ (by omega), ← i20_1]; unfold innF; rw [show least + (s - least) = s by omega]; first | (rw [if_pos (by assumption)]; done) | (rw [if_neg (by assumption)]; done) | (rw [if_neg (by assumption)]; omega) | (rw [if_neg (by omega)]; done) | (rw [if_pos (by omega)]; done) | (rw [if_neg (by omega)]; omega))
        refine j_locals (lc' := [(0, .ref h), (1, vI p), (2, vI net), (3, vI least), (4, vL t), (6, vI w), (7, vI least)]) [1, 2, 3, 4, 5, 6, 0] rfl ?_
        exact hL20 _ t least (Nat.lt_succ_self _) (by omega) (by rw [show least - least = 0 by omega]; rfl)
  refine j_locals (lc' := [(0, .ref h), (1, vI p), (2, vI net), (3, vI least), (4, vL 0), (6, vI 0)]) [2, 3, 4, 5, 1, 0] rfl ?_
  exact hL6 _ 0 0 (Nat.lt_succ_self _) (by omega) rfl
