theorem powI_pos {b n : Int} (hb : 0 < b) (hn : 0 ≤ n) : 0 < powI b n := fo_ind (f := fun _ s => s * b) (s := 1) (P := fun _ s => 0 < s) hn (by decide) (fun k s h0 h1 hs => Int.mul_pos hs hb)
def rOdds (p w s pt np : Int) (ps : Int → PT) : Int := if p < 0 ∨ np ≤ p then -101 else if (w < 0 ∨ 9 < w) ∨ (s < 0 ∨ 9 < s) then -102 else if pw (ps p) < w + s ∨ (pt < 0 ∨ 1 < pt) then -102 else lowI (nrm (oddsI (ps p) w s)) (powI 100 (pw (ps p))) pt
def rChance (p n pt np : Int) (ps : Int → PT) : Int := if p < 0 ∨ np ≤ p then -101 else if ¬ (-9 ≤ n ∧ n ≤ 36) ∨ (pt < 0 ∨ 1 < pt) then -102 else lowI (nrm (netI (ps p) n 0)) (powI 100 (pw (ps p))) pt
def rSinned (p n pt np : Int) (ps : Int → PT) : Int := if p < 0 ∨ np ≤ p then -101 else if ¬ (-9 ≤ n ∧ n ≤ 36) ∨ (pt < 0 ∨ 1 < pt) then -102 else if nrm (netI (ps p) n 0) = 0 then -1 else lowI (nrm (netI (ps p) n 1)) (nrm (netI (ps p) n 0)) pt
theorem fX9_odds_X0 : ∀ w ∈ u_ws RX0 TX0 4, w ∈ wsX9_odds := j_words [32, 33, 34, 35] (by decide +kernel)
theorem fX9_odds_X5 : ∀ w ∈ u_ws RX5 TX5 4, w ∈ wsX9_odds := j_words [36, 37, 38, 39] (by decide +kernel)
theorem fX9_odds_X6 : ∀ w ∈ u_ws RX6 TX6 4, w ∈ wsX9_odds := j_words [40, 41, 42, 43] (by decide +kernel)
theorem fX9_odds_X7 : ∀ w ∈ u_ws RX7 TX7 4, w ∈ wsX9_odds := j_words [44, 45, 46, 47] (by decide +kernel)
set_option maxHeartbeats 4000000 in
set_option maxRecDepth 100000 in
theorem k_odds (l : Launch) (D : va_G) (Y : Nat → ClassId) (RO : va_W) (k : Nat → Nat) (nc : Int) (np : Int) (ik : Int) (pad : Int → Nat) (ps : Int → PT) (p : Int) (w : Int) (s : Int) (pt : Int) (ko : ((k 0), oC 8 [.ref (k 1), .ref (k 2), vI nc, .ref (k 3), vI np, .ref (k 4), .ref (k 7), vI ik, .ref (k 10), .ref (k 13), .ref (k 14)]) ∈ RO) (kp : ((k 3), aQ (Y 3) 6 (orow np pad)) ∈ RO) (hpc : ∀ i, 0 ≤ i ∧ i < np → pC (pad i) (ps i) ∈ RO) (hnp : 0 ≤ np ∧ np ≤ 6) (hps : ∀ i, 0 ≤ i ∧ i < np → okP (ps i)) (hp : -2147483648 ≤ p ∧ p ≤ 2147483647) (hw : -2147483648 ≤ w ∧ w ≤ 2147483647) (hs : -2147483648 ≤ s ∧ s ≤ 2147483647) (hpt : -2147483648 ≤ pt ∧ pt ≤ 2147483647) : jMl l yX9_odds wsX9_odds { frames := 2, cells := 0, slots := 0, locals := 56 } D Y RO [.ref (k 0), vI p, vI w, vI s, vI pt] [] (fun e w1 => e = (rOdds p w s pt np ps) ∧ w1 = []) := by
  refine j_ofl RX9 rfl rfl rfl (Nat.le_of_ble_eq_true rfl) (fun X C Rt => ?_)
  refine j_aload_n (pc := 0) C 0 0 rfl rfl dX9_odds_0 ?_
  refine j_iload_n (pc := 1) C 1 1 rfl rfl dX9_odds_1 ?_
  refine j_callVr (pc := 2) (As := [vI p]) (na := 1) (st := []) C [] [] (wr := []) (fun l => k_parishAt l D Y _ k nc np ik pad p (List.mem_append_right _ ko) (List.mem_append_right _ kp) (by first | assumption | omega) (by first | assumption | omega)) rfl rfl rfl rfl (by decide) rfl (Or.inr (List.mem_append_right _ ko)) rfl gX9_odds_X9_parishAt ⟨rfl, by decide +kernel⟩ (by decide) rfl rfl (Nat.le_of_ble_eq_true rfl) (by decide) dX9_odds_2 (fun e_1 w_2 h_3 => ?_)
  obtain ⟨rfl, rfl⟩ := h_3
  refine j_perm (ws' := []) [] rfl rfl ?_
  by_cases hq_4 : 0 ≤ p ∧ p < np
  · rw [show orow np pad p = some (pad p) from orow_in hq_4]
    have hp4 := hpc p hq_4
    have hP4 := hps p hq_4
    refine j_astore (pc := 5) (lc' := [(5, .ref (pad p)), (0, .ref (k 0)), (1, vI p), (2, vI w), (3, vI s), (4, vI pt)]) C (by decide) rfl dX9_odds_5 ?_
    refine j_aload (pc := 7) C 0 rfl dX9_odds_7 ?_
    refine j_ifnonnull (pc := 9) C 16 rfl dX9_odds_9 ?_
    refine j_iload_n (pc := 16) C 2 3 rfl rfl dX9_odds_16 ?_
    refine j_if_lt (pc := 17) C 36 rfl (by omega) dX9_odds_17 (fun h_5p17 => ?_) (fun h_5p17 => ?_)
    · skip
      refine j_ldc2 (pc := 36) (w := (-102)) C (List.mem_of_getElem? (i := 2) rfl) dX9_odds_36 ?_
      exact Rt _ _ _ _ _ _ (by decide) (by decide) ⟨by unfold rOdds; rw [if_neg (by omega), if_pos (by omega)], rfl⟩ dX9_odds_39
    · skip
      refine j_iload_n (pc := 20) C 2 3 rfl rfl dX9_odds_20 ?_
      refine j_bipush (pc := 21) (w := 9) C rfl dX9_odds_21 ?_
      refine j_icmp_gt (pc := 23) C 36 rfl (by omega) dX9_odds_23 (fun h_6p23 => ?_) (fun h_6p23 => ?_)
      · skip
        refine j_ldc2 (pc := 36) (w := (-102)) C (List.mem_of_getElem? (i := 2) rfl) dX9_odds_36 ?_
        exact Rt _ _ _ _ _ _ (by decide) (by decide) ⟨by unfold rOdds; rw [if_neg (by omega), if_pos (by omega)], rfl⟩ dX9_odds_39
      · skip
        refine j_iload_n (pc := 26) C 3 4 rfl rfl dX9_odds_26 ?_
        refine j_if_lt (pc := 27) C 36 rfl (by omega) dX9_odds_27 (fun h_7p27 => ?_) (fun h_7p27 => ?_)
        · skip
          refine j_ldc2 (pc := 36) (w := (-102)) C (List.mem_of_getElem? (i := 2) rfl) dX9_odds_36 ?_
          exact Rt _ _ _ _ _ _ (by decide) (by decide) ⟨by unfold rOdds; rw [if_neg (by omega), if_pos (by omega)], rfl⟩ dX9_odds_39
        · skip
          refine j_iload_n (pc := 30) C 3 4 rfl rfl dX9_odds_30 ?_
          refine j_bipush (pc := 31) (w := 9) C rfl dX9_odds_31 ?_
          refine j_icmp_le (pc := 33) C 40 rfl (by omega) dX9_odds_33 (fun h_8p33 => ?_) (fun h_8p33 => ?_)
          · skip
            have hPw := (hps p (by omega)).2.2.2.2.1
            refine j_iload_n (pc := 40) C 2 3 rfl rfl dX9_odds_40 ?_
            refine j_iload_n (pc := 41) C 3 4 rfl rfl dX9_odds_41 ?_
            refine j_iadd (pc := 42) C dX9_odds_42 ?_
            refine j_aload (pc := 43) C 0 rfl dX9_odds_43 ?_
            refine j_getP (pc := 45) C (Or.inr hp4) hP4.1 fX9_odds_X5 fX9_odds_X6 fX9_odds_X7 fX9_odds_X0 1 (by decide) (List.mem_of_getElem? (i := 3) rfl) (Or.inl rfl) rfl dX9_odds_45 ?_
            refine j_icmp_gt (pc := 48) C 62 rfl (by omega) dX9_odds_48 (fun h_9p48 => ?_) (fun h_9p48 => ?_)
            · skip
              refine j_ldc2 (pc := 62) (w := (-102)) C (List.mem_of_getElem? (i := 2) rfl) dX9_odds_62 ?_
              exact Rt _ _ _ _ _ _ (by decide) (by decide) ⟨by unfold rOdds; rw [if_neg (by omega), if_neg (by omega), if_pos (by omega)], rfl⟩ dX9_odds_65
            · skip
              refine j_iload (pc := 51) C 5 rfl dX9_odds_51 ?_
              refine j_if_lt (pc := 53) C 62 rfl (by omega) dX9_odds_53 (fun h_10p53 => ?_) (fun h_10p53 => ?_)
              · skip
                refine j_ldc2 (pc := 62) (w := (-102)) C (List.mem_of_getElem? (i := 2) rfl) dX9_odds_62 ?_
                exact Rt _ _ _ _ _ _ (by decide) (by decide) ⟨by unfold rOdds; rw [if_neg (by omega), if_neg (by omega), if_pos (by omega)], rfl⟩ dX9_odds_65
              · skip
                refine j_iload (pc := 56) C 5 rfl dX9_odds_56 ?_
                refine j_iconst (pc := 58) C dX9_odds_58 ?_
                refine j_icmp_le (pc := 59) C 66 rfl (by omega) dX9_odds_59 (fun h_11p59 => ?_) (fun h_11p59 => ?_)
                · skip
                  have hpx := pow_in (b := 100) (n := pw (ps p)) (by decide) (by omega)
                  have hpp := powI_pos (b := 100) (n := pw (ps p)) (by decide) (by omega)
                  refine j_aload (pc := 66) C 0 rfl dX9_odds_66 ?_
                  refine j_iload_n (pc := 68) C 2 3 rfl rfl dX9_odds_68 ?_
                  refine j_iload_n (pc := 69) C 3 4 rfl rfl dX9_odds_69 ?_
                  refine j_callSl (pc := 70) (As := [.ref (pad p), vI w, vI s]) (na := 3) (st := []) C [] [] (wr := []) (fun l => c_of l D Y _ (pad p) (ps p) w s (List.mem_append_right _ hp4) (by first | assumption | omega) (by first | assumption | omega) (by first | assumption | omega) (by first | assumption | omega)) rfl rfl rfl rfl (by decide) rfl gX9_odds_X3_of (by decide +kernel) (by decide) rfl rfl (Nat.le_of_ble_eq_true rfl) (by decide) dX9_odds_70 (fun e_12 w_13 h_14 => ?_)
                  obtain ⟨rfl, rfl⟩ := h_14
                  refine j_perm (ws' := []) [] rfl rfl ?_
                  rw [vL_nrm (oddsI (ps p) w s)]
                  have hnr := nrm_in (oddsI (ps p) w s)
                  refine j_aload (pc := 73) C 0 rfl dX9_odds_73 ?_
                  refine j_callSl (pc := 75) (As := [.ref (pad p)]) (na := 1) (st := [vL (nrm (oddsI (ps p) w s))]) C [] [] (wr := []) (fun l => c_whole l D Y _ (pad p) (ps p) (List.mem_append_right _ hp4) (by first | assumption | omega)) rfl rfl rfl rfl (by decide) rfl gX9_odds_X3_whole (by decide +kernel) (by decide) rfl rfl (Nat.le_of_ble_eq_true rfl) (by decide) dX9_odds_75 (fun e_15 w_16 h_17 => ?_)
                  obtain ⟨rfl, rfl⟩ := h_17
                  refine j_perm (ws' := []) [] rfl rfl ?_
                  refine j_iload (pc := 78) C 5 rfl dX9_odds_78 ?_
                  refine j_callSl (pc := 80) (As := [vL (nrm (oddsI (ps p) w s)), vL (powI 100 (pw (ps p))), vI pt]) (na := 3) (st := []) C [] [] (wr := []) (fun l => k_inLowest l D Y _ (nrm (oddsI (ps p) w s)) (powI 100 (pw (ps p))) pt hnr (by omega) (Or.inr (by omega)) (by omega)) rfl rfl rfl rfl (by decide) rfl gX9_odds_X9_inLowest (by decide +kernel) (by decide) rfl rfl (Nat.le_of_ble_eq_true rfl) (by decide) dX9_odds_80 (fun e_18 w_19 h_20 => ?_)
                  obtain ⟨rfl, rfl⟩ := h_20
                  refine j_perm (ws' := []) [] rfl rfl ?_
                  exact Rt _ _ _ _ _ _ (by decide) (by decide) ⟨by unfold rOdds; rw [if_neg (by omega), if_neg (by omega), if_neg (by omega)], rfl⟩ dX9_odds_83
                · skip
                  refine j_ldc2 (pc := 62) (w := (-102)) C (List.mem_of_getElem? (i := 2) rfl) dX9_odds_62 ?_
                  exact Rt _ _ _ _ _ _ (by decide) (by decide) ⟨by unfold rOdds; rw [if_neg (by omega), if_neg (by omega), if_pos (by omega)], rfl⟩ dX9_odds_65
          · skip
            refine j_ldc2 (pc := 36) (w := (-102)) C (List.mem_of_getElem? (i := 2) rfl) dX9_odds_36 ?_
            exact Rt _ _ _ _ _ _ (by decide) (by decide) ⟨by unfold rOdds; rw [if_neg (by omega), if_pos (by omega)], rfl⟩ dX9_odds_39
  · rw [show orow np pad p = none from orow_out hq_4]
    refine j_astoreN (pc := 5) (lc' := [(5, .null), (0, .ref (k 0)), (1, vI p), (2, vI w), (3, vI s), (4, vI pt)]) C (by decide) rfl dX9_odds_5 ?_
    refine j_aloadN (pc := 7) C 0 rfl dX9_odds_7 ?_
    refine j_ifnonnullN (pc := 9) C dX9_odds_9 ?_
    refine j_ldc2 (pc := 12) (w := (-101)) C (List.mem_of_getElem? (i := 1) rfl) dX9_odds_12 ?_
    exact Rt _ _ _ _ _ _ (by decide) (by decide) ⟨by unfold rOdds; rw [if_pos (by omega)], rfl⟩ dX9_odds_15

theorem fX10_odds_X10 : ∀ w ∈ u_ws RX10 TX10 35, w ∈ wsX10_odds := j_words [34, 35, 36, 37, 38, 39, 40, 41, 42, 43, 44, 45, 46, 47, 48, 49, 50, 51, 52, 53, 54, 55, 56, 57, 58, 59, 60, 61, 62, 63, 64, 65, 66, 67, 68] (by decide +kernel)
set_option maxHeartbeats 4000000 in
set_option maxRecDepth 100000 in
theorem m_odds (l : Launch) (D : va_G) (Y : Nat → ClassId) (RO : va_W) (h : Nat) (r : Nat → Nat) (S : MS) (G : GS) (ps : Int → PT) (p : Int) (w : Int) (s : Int) (pt : Int) (r0 : (h, oC 9 [.ref (r 0), .ref (r 1), vI (ms_w S), vI (ms_l S), vL (ms_s S), vI (ms_a S), vI (ms_t S), vI (ms_p S), vI (g_np G), .ref (r 9), .ref (r 10), .ref (r 11), .ref (r 12), .ref (r 13), vI (g_nc G), .ref (r 15), .ref (r 16), .ref (r 17), vI (g_pl G), .ref (r 19), vI (g_ik G), vL (g_ks G), .ref (r 22), vL (g_ss G), .ref (r 24), vI (g_fa G), vI (g_iw G), vI (g_nw G), vI (g_ns G), vI (g_ne G), .ref (r 30), .ref (r 31), .ref (r 32), .ref (r 33), vL (g_h G)]) ∈ RO) (k0 : ((r 9), aI (Y 0) 6 (kof ps)) ∈ RO) (k1 : ((r 10), aI (Y 0) 6 (nof ps)) ∈ RO) (k2 : ((r 11), aI (Y 0) 6 (wof ps)) ∈ RO) (k3 : ((r 12), aI (Y 0) 6 (iof ps)) ∈ RO) (k4 : ((r 13), aI (Y 0) 6 (zof ps)) ∈ RO) (hnp : 0 ≤ g_np G ∧ g_np G ≤ 6) (hps : ∀ i, 0 ≤ i ∧ i < g_np G → okP (ps i)) (hp : -2147483648 ≤ p ∧ p ≤ 2147483647) (hw : -2147483648 ≤ w ∧ w ≤ 2147483647) (hs : -2147483648 ≤ s ∧ s ≤ 2147483647) (hpt : -2147483648 ≤ pt ∧ pt ≤ 2147483647) : jMl l yX10_odds wsX10_odds { frames := 2, cells := 0, slots := 0, locals := 56 } D Y RO [.ref h, vI p, vI w, vI s, vI pt] [] (fun e w1 => e = (rOdds p w s pt (g_np G) ps) ∧ w1 = []) := by
  refine j_ofl RX10 rfl rfl rfl (Nat.le_of_ble_eq_true rfl) (fun X C Rt => ?_)
  refine j_aload_n (pc := 0) C 0 0 rfl rfl dX10_odds_0 ?_
  refine j_iload_n (pc := 1) C 1 1 rfl rfl dX10_odds_1 ?_
  refine j_callVi (pc := 2) (As := [vI p]) (na := 1) (st := []) C [] [] (wr := []) (fun l => m_isParish l D Y _ h r S G p (List.mem_append_right _ r0) (by first | assumption | omega) (by first | assumption | omega)) rfl rfl rfl rfl (by decide) rfl (Or.inr (List.mem_append_right _ r0)) rfl gX10_odds_X10_isParish ⟨rfl, by decide +kernel⟩ (by decide) rfl rfl (Nat.le_of_ble_eq_true rfl) (by decide) dX10_odds_2 (fun e_1 w_2 h_3 => ?_)
  obtain ⟨rfl, rfl⟩ := h_3
  refine j_perm (ws' := []) [] rfl rfl ?_
  refine j_if_neb (pc := 5) C 12 rfl dX10_odds_5 (fun h_4p5 => ?_) (fun h_4p5 => ?_)
  · skip
    have hPw := (hps p (by omega)).2.2.2.2.1
    refine j_iload_n (pc := 12) C 2 2 rfl rfl dX10_odds_12 ?_
    refine j_iconst (pc := 13) C dX10_odds_13 ?_
    refine j_bipush (pc := 14) (w := 9) C rfl dX10_odds_14 ?_
    refine j_callSi (pc := 16) (As := [vI w, vI 0, vI 9]) (na := 3) (st := []) C [] [] (wr := []) (fun l => m_within l D Y _ w 0 9 (by first | assumption | omega) (by first | assumption | omega) (by first | assumption | omega)) rfl rfl rfl rfl (by decide) rfl gX10_odds_X10_within (by decide +kernel) (by decide) rfl rfl (Nat.le_of_ble_eq_true rfl) (by decide) dX10_odds_16 (fun e_5 w_6 h_7 => ?_)
    obtain ⟨rfl, rfl⟩ := h_7
    refine j_perm (ws' := []) [] rfl rfl ?_
    refine j_if_eqb (pc := 19) C 48 rfl dX10_odds_19 (fun h_8p19 => ?_) (fun h_8p19 => ?_)
    · skip
      refine j_iconst (pc := 48) C dX10_odds_48 ?_
      refine j_istore (pc := 49) (lc' := [(5, vI 0), (0, .ref h), (1, vI p), (2, vI w), (3, vI s), (4, vI pt)]) C (by decide) rfl dX10_odds_49 ?_
      refine j_iload (pc := 51) C 0 rfl dX10_odds_51 ?_
      refine j_if_eq (pc := 53) C 66 rfl (by omega) dX10_odds_53 (fun _ => ?_) (fun h_9 => absurd h_9 (by decide))
      refine j_ldc2 (pc := 66) (w := (-102)) C (List.mem_of_getElem? (i := 3) rfl) dX10_odds_66 ?_
      exact Rt _ _ _ _ _ _ (by decide) (by decide) ⟨by unfold rOdds; first | rw [if_pos (by omega)] | rw [if_neg (by omega), if_pos (by omega)] | rw [if_neg (by omega), if_neg (by omega), if_pos (by omega)] | rw [if_neg (by omega), if_neg (by omega), if_neg (by omega)] | rw [if_neg (by omega), if_neg (by omega)], rfl⟩ dX10_odds_69
    · skip
      refine j_iload_n (pc := 22) C 3 3 rfl rfl dX10_odds_22 ?_
      refine j_iconst (pc := 23) C dX10_odds_23 ?_
      refine j_bipush (pc := 24) (w := 9) C rfl dX10_odds_24 ?_
      refine j_callSi (pc := 26) (As := [vI s, vI 0, vI 9]) (na := 3) (st := []) C [] [] (wr := []) (fun l => m_within l D Y _ s 0 9 (by first | assumption | omega) (by first | assumption | omega) (by first | assumption | omega)) rfl rfl rfl rfl (by decide) rfl gX10_odds_X10_within (by decide +kernel) (by decide) rfl rfl (Nat.le_of_ble_eq_true rfl) (by decide) dX10_odds_26 (fun e_10 w_11 h_12 => ?_)
      obtain ⟨rfl, rfl⟩ := h_12
      refine j_perm (ws' := []) [] rfl rfl ?_
      refine j_if_eqb (pc := 29) C 48 rfl dX10_odds_29 (fun h_13p29 => ?_) (fun h_13p29 => ?_)
      · skip
        refine j_iconst (pc := 48) C dX10_odds_48 ?_
        refine j_istore (pc := 49) (lc' := [(5, vI 0), (0, .ref h), (1, vI p), (2, vI w), (3, vI s), (4, vI pt)]) C (by decide) rfl dX10_odds_49 ?_
        refine j_iload (pc := 51) C 0 rfl dX10_odds_51 ?_
        refine j_if_eq (pc := 53) C 66 rfl (by omega) dX10_odds_53 (fun _ => ?_) (fun h_14 => absurd h_14 (by decide))
        refine j_ldc2 (pc := 66) (w := (-102)) C (List.mem_of_getElem? (i := 3) rfl) dX10_odds_66 ?_
        exact Rt _ _ _ _ _ _ (by decide) (by decide) ⟨by unfold rOdds; first | rw [if_pos (by omega)] | rw [if_neg (by omega), if_pos (by omega)] | rw [if_neg (by omega), if_neg (by omega), if_pos (by omega)] | rw [if_neg (by omega), if_neg (by omega), if_neg (by omega)] | rw [if_neg (by omega), if_neg (by omega)], rfl⟩ dX10_odds_69
      · skip
        refine j_iload_n (pc := 32) C 2 2 rfl rfl dX10_odds_32 ?_
        refine j_iload_n (pc := 33) C 3 3 rfl rfl dX10_odds_33 ?_
        refine j_iadd (pc := 34) C dX10_odds_34 ?_
        refine j_aload_n (pc := 35) C 0 0 rfl rfl dX10_odds_35 ?_
        refine j_get (pc := 36) C (Or.inr r0) rfl fX10_odds_X10 11 (by decide) (List.mem_of_getElem? (i := 2) rfl) (Or.inl rfl) rfl dX10_odds_36 ?_
        refine j_iload_n (pc := 39) C 1 1 rfl rfl dX10_odds_39 ?_
        refine j_iald (pc := 40) C (Or.inr k2) rfl (by omega) (by decide) dX10_odds_40 ?_
        refine j_st (st' := [vI (pw (ps p)), vI (w + s)]) rfl rfl rfl ?_
        refine j_icmp_gt (pc := 41) C 48 rfl (by omega) dX10_odds_41 (fun h_15p41 => ?_) (fun h_15p41 => ?_)
        · skip
          refine j_iconst (pc := 48) C dX10_odds_48 ?_
          refine j_istore (pc := 49) (lc' := [(5, vI 0), (0, .ref h), (1, vI p), (2, vI w), (3, vI s), (4, vI pt)]) C (by decide) rfl dX10_odds_49 ?_
          refine j_iload (pc := 51) C 0 rfl dX10_odds_51 ?_
          refine j_if_eq (pc := 53) C 66 rfl (by omega) dX10_odds_53 (fun _ => ?_) (fun h_16 => absurd h_16 (by decide))
          refine j_ldc2 (pc := 66) (w := (-102)) C (List.mem_of_getElem? (i := 3) rfl) dX10_odds_66 ?_
          exact Rt _ _ _ _ _ _ (by decide) (by decide) ⟨by unfold rOdds; first | rw [if_pos (by omega)] | rw [if_neg (by omega), if_pos (by omega)] | rw [if_neg (by omega), if_neg (by omega), if_pos (by omega)] | rw [if_neg (by omega), if_neg (by omega), if_neg (by omega)] | rw [if_neg (by omega), if_neg (by omega)], rfl⟩ dX10_odds_69
        · skip
          refine j_iconst (pc := 44) C dX10_odds_44 ?_
          refine j_goto (pc := 45) C 49 rfl dX10_odds_45 ?_
          refine j_istore (pc := 49) (lc' := [(5, vI 1), (0, .ref h), (1, vI p), (2, vI w), (3, vI s), (4, vI pt)]) C (by decide) rfl dX10_odds_49 ?_
          refine j_iload (pc := 51) C 0 rfl dX10_odds_51 ?_
          refine j_if_eq (pc := 53) C 66 rfl (by omega) dX10_odds_53 (fun h_17 => absurd h_17 (by decide)) (fun _ => ?_)
          refine j_iload (pc := 56) C 5 rfl dX10_odds_56 ?_
          refine j_iconst (pc := 58) C dX10_odds_58 ?_
          refine j_iconst (pc := 59) C dX10_odds_59 ?_
          refine j_callSi (pc := 60) (As := [vI pt, vI 0, vI 1]) (na := 3) (st := []) C [] [] (wr := []) (fun l => m_within l D Y _ pt 0 1 (by first | assumption | omega) (by first | assumption | omega) (by first | assumption | omega)) rfl rfl rfl rfl (by decide) rfl gX10_odds_X10_within (by decide +kernel) (by decide) rfl rfl (Nat.le_of_ble_eq_true rfl) (by decide) dX10_odds_60 (fun e_18 w_19 h_20 => ?_)
          obtain ⟨rfl, rfl⟩ := h_20
          refine j_perm (ws' := []) [] rfl rfl ?_
          refine j_if_neb (pc := 63) C 70 rfl dX10_odds_63 (fun h_21p63 => ?_) (fun h_21p63 => ?_)
          · skip
            have hpx := pow_in (b := 100) (n := pw (ps p)) (by decide) (by omega)
            have hpp := powI_pos (b := 100) (n := pw (ps p)) (by decide) (by omega)
            refine j_aload_n (pc := 70) C 0 1 rfl rfl dX10_odds_70 ?_
            refine j_iload_n (pc := 71) C 1 2 rfl rfl dX10_odds_71 ?_
            refine j_iload_n (pc := 72) C 2 3 rfl rfl dX10_odds_72 ?_
            refine j_iload_n (pc := 73) C 3 4 rfl rfl dX10_odds_73 ?_
            refine j_callVl (pc := 74) (As := [vI p, vI w, vI s]) (na := 3) (st := []) C [] [] (wr := []) (fun l => m_oddsOf l D Y _ h r S G ps p w s (List.mem_append_right _ r0) (List.mem_append_right _ k2) (List.mem_append_right _ k3) (List.mem_append_right _ k4) (by first | assumption | omega) (hps p (by omega)) (by first | assumption | omega) (by first | assumption | omega) (by first | assumption | omega)) rfl rfl rfl rfl (by decide) rfl (Or.inr (List.mem_append_right _ r0)) rfl gX10_odds_X10_oddsOf ⟨rfl, by decide +kernel⟩ (by decide) rfl rfl (Nat.le_of_ble_eq_true rfl) (by decide) dX10_odds_74 (fun e_22 w_23 h_24 => ?_)
            obtain ⟨rfl, rfl⟩ := h_24
            refine j_perm (ws' := []) [] rfl rfl ?_
            rw [vL_nrm (oddsI (ps p) w s)]
            have hnr := nrm_in (oddsI (ps p) w s)
            refine j_aload_n (pc := 77) C 0 1 rfl rfl dX10_odds_77 ?_
            refine j_iload_n (pc := 78) C 1 2 rfl rfl dX10_odds_78 ?_
            refine j_callVl (pc := 79) (As := [vI p]) (na := 1) (st := [vL (nrm (oddsI (ps p) w s))]) C [] [] (wr := []) (fun l => m_whole l D Y _ h r S G ps p (List.mem_append_right _ r0) (List.mem_append_right _ k2) (by first | assumption | omega) (hps p (by omega))) rfl rfl rfl rfl (by decide) rfl (Or.inr (List.mem_append_right _ r0)) rfl gX10_odds_X10_whole ⟨rfl, by decide +kernel⟩ (by decide) rfl rfl (Nat.le_of_ble_eq_true rfl) (by decide) dX10_odds_79 (fun e_25 w_26 h_27 => ?_)
            obtain ⟨rfl, rfl⟩ := h_27
            refine j_perm (ws' := []) [] rfl rfl ?_
            refine j_iload (pc := 82) C 5 rfl dX10_odds_82 ?_
            refine j_callSl (pc := 84) (As := [vL (nrm (oddsI (ps p) w s)), vL (powI 100 (pw (ps p))), vI pt]) (na := 3) (st := []) C [] [] (wr := []) (fun l => m_lowest l D Y _ (nrm (oddsI (ps p) w s)) (powI 100 (pw (ps p))) pt hnr (by omega) (Or.inr (by omega)) (by omega)) rfl rfl rfl rfl (by decide) rfl gX10_odds_X10_lowest (by decide +kernel) (by decide) rfl rfl (Nat.le_of_ble_eq_true rfl) (by decide) dX10_odds_84 (fun e_28 w_29 h_30 => ?_)
            obtain ⟨rfl, rfl⟩ := h_30
            refine j_perm (ws' := []) [] rfl rfl ?_
            exact Rt _ _ _ _ _ _ (by decide) (by decide) ⟨by unfold rOdds; first | rw [if_pos (by omega)] | rw [if_neg (by omega), if_pos (by omega)] | rw [if_neg (by omega), if_neg (by omega), if_pos (by omega)] | rw [if_neg (by omega), if_neg (by omega), if_neg (by omega)] | rw [if_neg (by omega), if_neg (by omega)], rfl⟩ dX10_odds_87
          · skip
            refine j_ldc2 (pc := 66) (w := (-102)) C (List.mem_of_getElem? (i := 3) rfl) dX10_odds_66 ?_
            exact Rt _ _ _ _ _ _ (by decide) (by decide) ⟨by unfold rOdds; first | rw [if_pos (by omega)] | rw [if_neg (by omega), if_pos (by omega)] | rw [if_neg (by omega), if_neg (by omega), if_pos (by omega)] | rw [if_neg (by omega), if_neg (by omega), if_neg (by omega)] | rw [if_neg (by omega), if_neg (by omega)], rfl⟩ dX10_odds_69
  · skip
    refine j_ldc2 (pc := 8) (w := (-101)) C (List.mem_of_getElem? (i := 1) rfl) dX10_odds_8 ?_
    exact Rt _ _ _ _ _ _ (by decide) (by decide) ⟨by unfold rOdds; first | rw [if_pos (by omega)] | rw [if_neg (by omega), if_pos (by omega)] | rw [if_neg (by omega), if_neg (by omega), if_pos (by omega)] | rw [if_neg (by omega), if_neg (by omega), if_neg (by omega)] | rw [if_neg (by omega), if_neg (by omega)], rfl⟩ dX10_odds_11

set_option maxHeartbeats 4000000 in
set_option maxRecDepth 100000 in
theorem k_chance (l : Launch) (D : va_G) (Y : Nat → ClassId) (RO : va_W) (k : Nat → Nat) (nc : Int) (np : Int) (ik : Int) (pad : Int → Nat) (ps : Int → PT) (p : Int) (n : Int) (pt : Int) (ko : ((k 0), oC 8 [.ref (k 1), .ref (k 2), vI nc, .ref (k 3), vI np, .ref (k 4), .ref (k 7), vI ik, .ref (k 10), .ref (k 13), .ref (k 14)]) ∈ RO) (kp : ((k 3), aQ (Y 3) 6 (orow np pad)) ∈ RO) (hpc : ∀ i, 0 ≤ i ∧ i < np → pC (pad i) (ps i) ∈ RO) (hnp : 0 ≤ np ∧ np ≤ 6) (hps : ∀ i, 0 ≤ i ∧ i < np → okP (ps i)) (hp : -2147483648 ≤ p ∧ p ≤ 2147483647) (hn : -2147483648 ≤ n ∧ n ≤ 2147483647) (hpt : -2147483648 ≤ pt ∧ pt ≤ 2147483647) : jMl l yX9_chance wsX9_chance { frames := 3, cells := 0, slots := 0, locals := 74 } D Y RO [.ref (k 0), vI p, vI n, vI pt] [] (fun e w1 => e = (rChance p n pt np ps) ∧ w1 = []) := by
  refine j_ofl RX9 rfl rfl rfl (Nat.le_of_ble_eq_true rfl) (fun X C Rt => ?_)
  refine j_aload_n (pc := 0) C 0 0 rfl rfl dX9_chance_0 ?_
  refine j_iload_n (pc := 1) C 1 1 rfl rfl dX9_chance_1 ?_
  refine j_callVr (pc := 2) (As := [vI p]) (na := 1) (st := []) C [] [] (wr := []) (fun l => k_parishAt l D Y _ k nc np ik pad p (List.mem_append_right _ ko) (List.mem_append_right _ kp) (by first | assumption | omega) (by first | assumption | omega)) rfl rfl rfl rfl (by decide) rfl (Or.inr (List.mem_append_right _ ko)) rfl gX9_chance_X9_parishAt ⟨rfl, by decide +kernel⟩ (by decide) rfl rfl (Nat.le_of_ble_eq_true rfl) (by decide) dX9_chance_2 (fun e_1 w_2 h_3 => ?_)
  obtain ⟨rfl, rfl⟩ := h_3
  refine j_perm (ws' := []) [] rfl rfl ?_
  by_cases hq_4 : 0 ≤ p ∧ p < np
  · rw [show orow np pad p = some (pad p) from orow_in hq_4]
    have hp4 := hpc p hq_4
    have hP4 := hps p hq_4
    refine j_astore (pc := 5) (lc' := [(4, .ref (pad p)), (0, .ref (k 0)), (1, vI p), (2, vI n), (3, vI pt)]) C (by decide) rfl dX9_chance_5 ?_
    refine j_aload (pc := 7) C 0 rfl dX9_chance_7 ?_
    refine j_ifnonnull (pc := 9) C 16 rfl dX9_chance_9 ?_
    have hPw := (hps p (by omega)).2.2.2.2.1
    refine j_iload_n (pc := 16) C 2 3 rfl rfl dX9_chance_16 ?_
    refine j_callSi (pc := 17) (As := [vI n]) (na := 1) (st := []) C [] [] (wr := []) (fun l => k_isNetOfOne l D Y _ n (by first | assumption | omega)) rfl rfl rfl rfl (by decide) rfl gX9_chance_X9_isNetOfOne (by decide +kernel) (by decide) rfl rfl (Nat.le_of_ble_eq_true rfl) (by decide) dX9_chance_17 (fun e_5 w_6 h_7 => ?_)
    obtain ⟨rfl, rfl⟩ := h_7
    refine j_perm (ws' := []) [] rfl rfl ?_
    refine j_if_eqb (pc := 20) C 32 rfl dX9_chance_20 (fun h_8p20 => ?_) (fun h_8p20 => ?_)
    · skip
      refine j_ldc2 (pc := 32) (w := (-102)) C (List.mem_of_getElem? (i := 2) rfl) dX9_chance_32 ?_
      exact Rt _ _ _ _ _ _ (by decide) (by decide) ⟨by unfold rChance; rw [if_neg (by omega), if_pos (by omega)], rfl⟩ dX9_chance_35
    · skip
      refine j_iload_n (pc := 23) C 3 4 rfl rfl dX9_chance_23 ?_
      refine j_if_lt (pc := 24) C 32 rfl (by omega) dX9_chance_24 (fun h_9p24 => ?_) (fun h_9p24 => ?_)
      · skip
        refine j_ldc2 (pc := 32) (w := (-102)) C (List.mem_of_getElem? (i := 2) rfl) dX9_chance_32 ?_
        exact Rt _ _ _ _ _ _ (by decide) (by decide) ⟨by unfold rChance; rw [if_neg (by omega), if_pos (by omega)], rfl⟩ dX9_chance_35
      · skip
        refine j_iload_n (pc := 27) C 3 4 rfl rfl dX9_chance_27 ?_
        refine j_iconst (pc := 28) C dX9_chance_28 ?_
        refine j_icmp_le (pc := 29) C 36 rfl (by omega) dX9_chance_29 (fun h_10p29 => ?_) (fun h_10p29 => ?_)
        · skip
          have hpx := pow_in (b := 100) (n := pw (ps p)) (by decide) (by omega)
          have hpp := powI_pos (b := 100) (n := pw (ps p)) (by decide) (by omega)
          refine j_aload (pc := 36) C 0 rfl dX9_chance_36 ?_
          refine j_iload_n (pc := 38) C 2 3 rfl rfl dX9_chance_38 ?_
          refine j_iconst (pc := 39) C dX9_chance_39 ?_
          refine j_callSl (pc := 40) (As := [.ref (pad p), vI n, vI 0]) (na := 3) (st := []) C [] [] (wr := []) (fun l => c_ofNet l D Y _ (pad p) (ps p) n 0 (List.mem_append_right _ hp4) (by first | assumption | omega) (by first | assumption | omega) (by first | assumption | omega)) rfl rfl rfl rfl (by decide) rfl gX9_chance_X3_ofNet (by decide +kernel) (by decide) rfl rfl (Nat.le_of_ble_eq_true rfl) (by decide) dX9_chance_40 (fun e_11 w_12 h_13 => ?_)
          obtain ⟨rfl, rfl⟩ := h_13
          refine j_perm (ws' := []) [] rfl rfl ?_
          rw [vL_nrm (netI (ps p) n 0)]
          have hnr := nrm_in (netI (ps p) n 0)
          refine j_aload (pc := 43) C 0 rfl dX9_chance_43 ?_
          refine j_callSl (pc := 45) (As := [.ref (pad p)]) (na := 1) (st := [vL (nrm (netI (ps p) n 0))]) C [] [] (wr := []) (fun l => c_whole l D Y _ (pad p) (ps p) (List.mem_append_right _ hp4) (by first | assumption | omega)) rfl rfl rfl rfl (by decide) rfl gX9_chance_X3_whole (by decide +kernel) (by decide) rfl rfl (Nat.le_of_ble_eq_true rfl) (by decide) dX9_chance_45 (fun e_14 w_15 h_16 => ?_)
          obtain ⟨rfl, rfl⟩ := h_16
          refine j_perm (ws' := []) [] rfl rfl ?_
          refine j_iload_n (pc := 48) C 3 4 rfl rfl dX9_chance_48 ?_
          refine j_callSl (pc := 49) (As := [vL (nrm (netI (ps p) n 0)), vL (powI 100 (pw (ps p))), vI pt]) (na := 3) (st := []) C [] [] (wr := []) (fun l => k_inLowest l D Y _ (nrm (netI (ps p) n 0)) (powI 100 (pw (ps p))) pt hnr (by omega) (Or.inr (by omega)) (by omega)) rfl rfl rfl rfl (by decide) rfl gX9_chance_X9_inLowest (by decide +kernel) (by decide) rfl rfl (Nat.le_of_ble_eq_true rfl) (by decide) dX9_chance_49 (fun e_17 w_18 h_19 => ?_)
          obtain ⟨rfl, rfl⟩ := h_19
          refine j_perm (ws' := []) [] rfl rfl ?_
          exact Rt _ _ _ _ _ _ (by decide) (by decide) ⟨by unfold rChance; rw [if_neg (by omega), if_neg (by omega)], rfl⟩ dX9_chance_52
        · skip
          refine j_ldc2 (pc := 32) (w := (-102)) C (List.mem_of_getElem? (i := 2) rfl) dX9_chance_32 ?_
          exact Rt _ _ _ _ _ _ (by decide) (by decide) ⟨by unfold rChance; rw [if_neg (by omega), if_pos (by omega)], rfl⟩ dX9_chance_35
  · rw [show orow np pad p = none from orow_out hq_4]
    refine j_astoreN (pc := 5) (lc' := [(4, .null), (0, .ref (k 0)), (1, vI p), (2, vI n), (3, vI pt)]) C (by decide) rfl dX9_chance_5 ?_
    refine j_aloadN (pc := 7) C 0 rfl dX9_chance_7 ?_
    refine j_ifnonnullN (pc := 9) C dX9_chance_9 ?_
    refine j_ldc2 (pc := 12) (w := (-101)) C (List.mem_of_getElem? (i := 1) rfl) dX9_chance_12 ?_
    exact Rt _ _ _ _ _ _ (by decide) (by decide) ⟨by unfold rChance; rw [if_pos (by omega)], rfl⟩ dX9_chance_15

set_option maxHeartbeats 4000000 in
set_option maxRecDepth 100000 in
theorem m_chance (l : Launch) (D : va_G) (Y : Nat → ClassId) (RO : va_W) (h : Nat) (r : Nat → Nat) (S : MS) (G : GS) (ps : Int → PT) (p : Int) (n : Int) (pt : Int) (r0 : (h, oC 9 [.ref (r 0), .ref (r 1), vI (ms_w S), vI (ms_l S), vL (ms_s S), vI (ms_a S), vI (ms_t S), vI (ms_p S), vI (g_np G), .ref (r 9), .ref (r 10), .ref (r 11), .ref (r 12), .ref (r 13), vI (g_nc G), .ref (r 15), .ref (r 16), .ref (r 17), vI (g_pl G), .ref (r 19), vI (g_ik G), vL (g_ks G), .ref (r 22), vL (g_ss G), .ref (r 24), vI (g_fa G), vI (g_iw G), vI (g_nw G), vI (g_ns G), vI (g_ne G), .ref (r 30), .ref (r 31), .ref (r 32), .ref (r 33), vL (g_h G)]) ∈ RO) (k0 : ((r 9), aI (Y 0) 6 (kof ps)) ∈ RO) (k1 : ((r 10), aI (Y 0) 6 (nof ps)) ∈ RO) (k2 : ((r 11), aI (Y 0) 6 (wof ps)) ∈ RO) (k3 : ((r 12), aI (Y 0) 6 (iof ps)) ∈ RO) (k4 : ((r 13), aI (Y 0) 6 (zof ps)) ∈ RO) (hnp : 0 ≤ g_np G ∧ g_np G ≤ 6) (hps : ∀ i, 0 ≤ i ∧ i < g_np G → okP (ps i)) (hp : -2147483648 ≤ p ∧ p ≤ 2147483647) (hn : -2147483648 ≤ n ∧ n ≤ 2147483647) (hpt : -2147483648 ≤ pt ∧ pt ≤ 2147483647) : jMl l yX10_chance wsX10_chance { frames := 3, cells := 0, slots := 0, locals := 83 } D Y RO [.ref h, vI p, vI n, vI pt] [] (fun e w1 => e = (rChance p n pt (g_np G) ps) ∧ w1 = []) := by
  refine j_ofl RX10 rfl rfl rfl (Nat.le_of_ble_eq_true rfl) (fun X C Rt => ?_)
  refine j_aload_n (pc := 0) C 0 0 rfl rfl dX10_chance_0 ?_
  refine j_iload_n (pc := 1) C 1 1 rfl rfl dX10_chance_1 ?_
  refine j_callVi (pc := 2) (As := [vI p]) (na := 1) (st := []) C [] [] (wr := []) (fun l => m_isParish l D Y _ h r S G p (List.mem_append_right _ r0) (by first | assumption | omega) (by first | assumption | omega)) rfl rfl rfl rfl (by decide) rfl (Or.inr (List.mem_append_right _ r0)) rfl gX10_chance_X10_isParish ⟨rfl, by decide +kernel⟩ (by decide) rfl rfl (Nat.le_of_ble_eq_true rfl) (by decide) dX10_chance_2 (fun e_1 w_2 h_3 => ?_)
  obtain ⟨rfl, rfl⟩ := h_3
  refine j_perm (ws' := []) [] rfl rfl ?_
  refine j_if_neb (pc := 5) C 12 rfl dX10_chance_5 (fun h_4p5 => ?_) (fun h_4p5 => ?_)
  · skip
    have hPw := (hps p (by omega)).2.2.2.2.1
    refine j_iload_n (pc := 12) C 2 2 rfl rfl dX10_chance_12 ?_
    refine j_iload_n (pc := 13) C 3 3 rfl rfl dX10_chance_13 ?_
    refine j_callSi (pc := 14) (As := [vI n, vI pt]) (na := 2) (st := []) C [] [] (wr := []) (fun l => m_isNet l D Y _ n pt (by first | assumption | omega) (by first | assumption | omega)) rfl rfl rfl rfl (by decide) rfl gX10_chance_X10_isNet (by decide +kernel) (by decide) rfl rfl (Nat.le_of_ble_eq_true rfl) (by decide) dX10_chance_14 (fun e_5 w_6 h_7 => ?_)
    obtain ⟨rfl, rfl⟩ := h_7
    refine j_perm (ws' := []) [] rfl rfl ?_
    refine j_if_eqb (pc := 17) C 39 rfl dX10_chance_17 (fun h_8p17 => ?_) (fun h_8p17 => ?_)
    · skip
      refine j_ldc2 (pc := 39) (w := (-102)) C (List.mem_of_getElem? (i := 2) rfl) dX10_chance_39 ?_
      exact Rt _ _ _ _ _ _ (by decide) (by decide) ⟨by unfold rChance; first | rw [if_pos (by omega)] | rw [if_neg (by omega), if_pos (by omega)] | rw [if_neg (by omega), if_neg (by omega), if_pos (by omega)] | rw [if_neg (by omega), if_neg (by omega), if_neg (by omega)] | rw [if_neg (by omega), if_neg (by omega)], rfl⟩ dX10_chance_42
    · skip
      have hpx := pow_in (b := 100) (n := pw (ps p)) (by decide) (by omega)
      have hpp := powI_pos (b := 100) (n := pw (ps p)) (by decide) (by omega)
      refine j_aload_n (pc := 20) C 0 0 rfl rfl dX10_chance_20 ?_
      refine j_iload_n (pc := 21) C 1 1 rfl rfl dX10_chance_21 ?_
      refine j_iload_n (pc := 22) C 2 2 rfl rfl dX10_chance_22 ?_
      refine j_iconst (pc := 23) C dX10_chance_23 ?_
      refine j_callVl (pc := 24) (As := [vI p, vI n, vI 0]) (na := 3) (st := []) C [] [] (wr := []) (fun l => m_netOdds l D Y _ h r S G ps p n 0 (List.mem_append_right _ r0) (List.mem_append_right _ k0) (List.mem_append_right _ k1) (List.mem_append_right _ k2) (List.mem_append_right _ k3) (List.mem_append_right _ k4) (by first | assumption | omega) (hps p (by omega)) (by first | assumption | omega) (by first | assumption | omega)) rfl rfl rfl rfl (by decide) rfl (Or.inr (List.mem_append_right _ r0)) rfl gX10_chance_X10_netOdds ⟨rfl, by decide +kernel⟩ (by decide) rfl rfl (Nat.le_of_ble_eq_true rfl) (by decide) dX10_chance_24 (fun e_9 w_10 h_11 => ?_)
      obtain ⟨rfl, rfl⟩ := h_11
      refine j_perm (ws' := []) [] rfl rfl ?_
      rw [vL_nrm (netI (ps p) n 0)]
      have hnr := nrm_in (netI (ps p) n 0)
      refine j_aload_n (pc := 27) C 0 0 rfl rfl dX10_chance_27 ?_
      refine j_iload_n (pc := 28) C 1 1 rfl rfl dX10_chance_28 ?_
      refine j_callVl (pc := 29) (As := [vI p]) (na := 1) (st := [vL (nrm (netI (ps p) n 0))]) C [] [] (wr := []) (fun l => m_whole l D Y _ h r S G ps p (List.mem_append_right _ r0) (List.mem_append_right _ k2) (by first | assumption | omega) (hps p (by omega))) rfl rfl rfl rfl (by decide) rfl (Or.inr (List.mem_append_right _ r0)) rfl gX10_chance_X10_whole ⟨rfl, by decide +kernel⟩ (by decide) rfl rfl (Nat.le_of_ble_eq_true rfl) (by decide) dX10_chance_29 (fun e_12 w_13 h_14 => ?_)
      obtain ⟨rfl, rfl⟩ := h_14
      refine j_perm (ws' := []) [] rfl rfl ?_
      refine j_iload_n (pc := 32) C 3 3 rfl rfl dX10_chance_32 ?_
      refine j_callSl (pc := 33) (As := [vL (nrm (netI (ps p) n 0)), vL (powI 100 (pw (ps p))), vI pt]) (na := 3) (st := []) C [] [] (wr := []) (fun l => m_lowest l D Y _ (nrm (netI (ps p) n 0)) (powI 100 (pw (ps p))) pt hnr (by omega) (Or.inr (by omega)) (by omega)) rfl rfl rfl rfl (by decide) rfl gX10_chance_X10_lowest (by decide +kernel) (by decide) rfl rfl (Nat.le_of_ble_eq_true rfl) (by decide) dX10_chance_33 (fun e_15 w_16 h_17 => ?_)
      obtain ⟨rfl, rfl⟩ := h_17
      refine j_perm (ws' := []) [] rfl rfl ?_
      refine j_goto (pc := 36) C 42 rfl dX10_chance_36 ?_
      exact Rt _ _ _ _ _ _ (by decide) (by decide) ⟨by unfold rChance; first | rw [if_pos (by omega)] | rw [if_neg (by omega), if_pos (by omega)] | rw [if_neg (by omega), if_neg (by omega), if_pos (by omega)] | rw [if_neg (by omega), if_neg (by omega), if_neg (by omega)] | rw [if_neg (by omega), if_neg (by omega)], rfl⟩ dX10_chance_42
  · skip
    refine j_ldc2 (pc := 8) (w := (-101)) C (List.mem_of_getElem? (i := 1) rfl) dX10_chance_8 ?_
    exact Rt _ _ _ _ _ _ (by decide) (by decide) ⟨by unfold rChance; first | rw [if_pos (by omega)] | rw [if_neg (by omega), if_pos (by omega)] | rw [if_neg (by omega), if_neg (by omega), if_pos (by omega)] | rw [if_neg (by omega), if_neg (by omega), if_neg (by omega)] | rw [if_neg (by omega), if_neg (by omega)], rfl⟩ dX10_chance_11

set_option maxHeartbeats 4000000 in
set_option maxRecDepth 100000 in
theorem k_sinned (l : Launch) (D : va_G) (Y : Nat → ClassId) (RO : va_W) (k : Nat → Nat) (nc : Int) (np : Int) (ik : Int) (pad : Int → Nat) (ps : Int → PT) (p : Int) (n : Int) (pt : Int) (ko : ((k 0), oC 8 [.ref (k 1), .ref (k 2), vI nc, .ref (k 3), vI np, .ref (k 4), .ref (k 7), vI ik, .ref (k 10), .ref (k 13), .ref (k 14)]) ∈ RO) (kp : ((k 3), aQ (Y 3) 6 (orow np pad)) ∈ RO) (hpc : ∀ i, 0 ≤ i ∧ i < np → pC (pad i) (ps i) ∈ RO) (hnp : 0 ≤ np ∧ np ≤ 6) (hps : ∀ i, 0 ≤ i ∧ i < np → okP (ps i)) (hp : -2147483648 ≤ p ∧ p ≤ 2147483647) (hn : -2147483648 ≤ n ∧ n ≤ 2147483647) (hpt : -2147483648 ≤ pt ∧ pt ≤ 2147483647) : jMl l yX9_sinned wsX9_sinned { frames := 3, cells := 0, slots := 0, locals := 74 } D Y RO [.ref (k 0), vI p, vI n, vI pt] [] (fun e w1 => e = (rSinned p n pt np ps) ∧ w1 = []) := by
  refine j_ofl RX9 rfl rfl rfl (Nat.le_of_ble_eq_true rfl) (fun X C Rt => ?_)
  refine j_aload_n (pc := 0) C 0 0 rfl rfl dX9_sinned_0 ?_
  refine j_iload_n (pc := 1) C 1 1 rfl rfl dX9_sinned_1 ?_
  refine j_callVr (pc := 2) (As := [vI p]) (na := 1) (st := []) C [] [] (wr := []) (fun l => k_parishAt l D Y _ k nc np ik pad p (List.mem_append_right _ ko) (List.mem_append_right _ kp) (by first | assumption | omega) (by first | assumption | omega)) rfl rfl rfl rfl (by decide) rfl (Or.inr (List.mem_append_right _ ko)) rfl gX9_sinned_X9_parishAt ⟨rfl, by decide +kernel⟩ (by decide) rfl rfl (Nat.le_of_ble_eq_true rfl) (by decide) dX9_sinned_2 (fun e_1 w_2 h_3 => ?_)
  obtain ⟨rfl, rfl⟩ := h_3
  refine j_perm (ws' := []) [] rfl rfl ?_
  by_cases hq_4 : 0 ≤ p ∧ p < np
  · rw [show orow np pad p = some (pad p) from orow_in hq_4]
    have hp4 := hpc p hq_4
    have hP4 := hps p hq_4
    refine j_astore (pc := 5) (lc' := [(4, .ref (pad p)), (0, .ref (k 0)), (1, vI p), (2, vI n), (3, vI pt)]) C (by decide) rfl dX9_sinned_5 ?_
    refine j_aload (pc := 7) C 0 rfl dX9_sinned_7 ?_
    refine j_ifnonnull (pc := 9) C 16 rfl dX9_sinned_9 ?_
    have hPw := (hps p (by omega)).2.2.2.2.1
    refine j_iload_n (pc := 16) C 2 3 rfl rfl dX9_sinned_16 ?_
    refine j_callSi (pc := 17) (As := [vI n]) (na := 1) (st := []) C [] [] (wr := []) (fun l => k_isNetOfOne l D Y _ n (by first | assumption | omega)) rfl rfl rfl rfl (by decide) rfl gX9_sinned_X9_isNetOfOne (by decide +kernel) (by decide) rfl rfl (Nat.le_of_ble_eq_true rfl) (by decide) dX9_sinned_17 (fun e_5 w_6 h_7 => ?_)
    obtain ⟨rfl, rfl⟩ := h_7
    refine j_perm (ws' := []) [] rfl rfl ?_
    refine j_if_eqb (pc := 20) C 32 rfl dX9_sinned_20 (fun h_8p20 => ?_) (fun h_8p20 => ?_)
    · skip
      refine j_ldc2 (pc := 32) (w := (-102)) C (List.mem_of_getElem? (i := 2) rfl) dX9_sinned_32 ?_
      exact Rt _ _ _ _ _ _ (by decide) (by decide) ⟨by unfold rSinned; rw [if_neg (by omega), if_pos (by omega)], rfl⟩ dX9_sinned_35
    · skip
      refine j_iload_n (pc := 23) C 3 4 rfl rfl dX9_sinned_23 ?_
      refine j_if_lt (pc := 24) C 32 rfl (by omega) dX9_sinned_24 (fun h_9p24 => ?_) (fun h_9p24 => ?_)
      · skip
        refine j_ldc2 (pc := 32) (w := (-102)) C (List.mem_of_getElem? (i := 2) rfl) dX9_sinned_32 ?_
        exact Rt _ _ _ _ _ _ (by decide) (by decide) ⟨by unfold rSinned; rw [if_neg (by omega), if_pos (by omega)], rfl⟩ dX9_sinned_35
      · skip
        refine j_iload_n (pc := 27) C 3 4 rfl rfl dX9_sinned_27 ?_
        refine j_iconst (pc := 28) C dX9_sinned_28 ?_
        refine j_icmp_le (pc := 29) C 36 rfl (by omega) dX9_sinned_29 (fun h_10p29 => ?_) (fun h_10p29 => ?_)
        · skip
          refine j_aload (pc := 36) C 0 rfl dX9_sinned_36 ?_
          refine j_iload_n (pc := 38) C 2 3 rfl rfl dX9_sinned_38 ?_
          refine j_iconst (pc := 39) C dX9_sinned_39 ?_
          refine j_callSl (pc := 40) (As := [.ref (pad p), vI n, vI 0]) (na := 3) (st := []) C [] [] (wr := []) (fun l => c_ofNet l D Y _ (pad p) (ps p) n 0 (List.mem_append_right _ hp4) (by first | assumption | omega) (by first | assumption | omega) (by first | assumption | omega)) rfl rfl rfl rfl (by decide) rfl gX9_sinned_X3_ofNet (by decide +kernel) (by decide) rfl rfl (Nat.le_of_ble_eq_true rfl) (by decide) dX9_sinned_40 (fun e_11 w_12 h_13 => ?_)
          obtain ⟨rfl, rfl⟩ := h_13
          refine j_perm (ws' := []) [] rfl rfl ?_
          rw [vL_nrm (netI (ps p) n 0)]
          have hn0 := nrm_in (netI (ps p) n 0)
          refine j_lstore (pc := 43) (lc' := [(5, vL (nrm (netI (ps p) n 0))), (4, .ref (pad p)), (0, .ref (k 0)), (1, vI p), (2, vI n), (3, vI pt)]) C (by decide) rfl dX9_sinned_43 ?_
          refine j_lload (pc := 45) C 0 rfl dX9_sinned_45 ?_
          refine j_lconst (pc := 47) (w := 0) C rfl dX9_sinned_47 ?_
          refine j_lcmp (pc := 48) C (by omega) dX9_sinned_48 ?_
          refine j_if_ne (pc := 49) C 56 rfl (by unfold cmpI; omega) dX9_sinned_49 (fun h_14p49 => ?_) (fun h_14p49 => ?_)
          · skip
            unfold cmpI at h_14p49
            refine j_aload (pc := 56) C 1 rfl dX9_sinned_56 ?_
            refine j_iload_n (pc := 58) C 2 4 rfl rfl dX9_sinned_58 ?_
            refine j_iconst (pc := 59) C dX9_sinned_59 ?_
            refine j_callSl (pc := 60) (As := [.ref (pad p), vI n, vI 1]) (na := 3) (st := []) C [] [] (wr := []) (fun l => c_ofNet l D Y _ (pad p) (ps p) n 1 (List.mem_append_right _ hp4) (by first | assumption | omega) (by first | assumption | omega) (by first | assumption | omega)) rfl rfl rfl rfl (by decide) rfl gX9_sinned_X3_ofNet (by decide +kernel) (by decide) rfl rfl (Nat.le_of_ble_eq_true rfl) (by decide) dX9_sinned_60 (fun e_15 w_16 h_17 => ?_)
            obtain ⟨rfl, rfl⟩ := h_17
            refine j_perm (ws' := []) [] rfl rfl ?_
            rw [vL_nrm (netI (ps p) n 1)]
            have hnr := nrm_in (netI (ps p) n 1)
            refine j_lload (pc := 63) C 0 rfl dX9_sinned_63 ?_
            refine j_iload_n (pc := 65) C 3 5 rfl rfl dX9_sinned_65 ?_
            refine j_callSl (pc := 66) (As := [vL (nrm (netI (ps p) n 1)), vL (nrm (netI (ps p) n 0)), vI pt]) (na := 3) (st := []) C [] [] (wr := []) (fun l => k_inLowest l D Y _ (nrm (netI (ps p) n 1)) (nrm (netI (ps p) n 0)) pt hnr hn0 (Or.inr (by omega)) (by omega)) rfl rfl rfl rfl (by decide) rfl gX9_sinned_X9_inLowest (by decide +kernel) (by decide) rfl rfl (Nat.le_of_ble_eq_true rfl) (by decide) dX9_sinned_66 (fun e_18 w_19 h_20 => ?_)
            obtain ⟨rfl, rfl⟩ := h_20
            refine j_perm (ws' := []) [] rfl rfl ?_
            exact Rt _ _ _ _ _ _ (by decide) (by decide) ⟨by unfold rSinned; rw [if_neg (by omega), if_neg (by omega), if_neg (by omega)], rfl⟩ dX9_sinned_69
          · skip
            unfold cmpI at h_14p49
            refine j_ldc2 (pc := 52) (w := (-1)) C (List.mem_of_getElem? (i := 3) rfl) dX9_sinned_52 ?_
            exact Rt _ _ _ _ _ _ (by decide) (by decide) ⟨by unfold rSinned; rw [if_neg (by omega), if_neg (by omega), if_pos (by omega)], rfl⟩ dX9_sinned_55
        · skip
          refine j_ldc2 (pc := 32) (w := (-102)) C (List.mem_of_getElem? (i := 2) rfl) dX9_sinned_32 ?_
          exact Rt _ _ _ _ _ _ (by decide) (by decide) ⟨by unfold rSinned; rw [if_neg (by omega), if_pos (by omega)], rfl⟩ dX9_sinned_35
  · rw [show orow np pad p = none from orow_out hq_4]
    refine j_astoreN (pc := 5) (lc' := [(4, .null), (0, .ref (k 0)), (1, vI p), (2, vI n), (3, vI pt)]) C (by decide) rfl dX9_sinned_5 ?_
    refine j_aloadN (pc := 7) C 0 rfl dX9_sinned_7 ?_
    refine j_ifnonnullN (pc := 9) C dX9_sinned_9 ?_
    refine j_ldc2 (pc := 12) (w := (-101)) C (List.mem_of_getElem? (i := 1) rfl) dX9_sinned_12 ?_
    exact Rt _ _ _ _ _ _ (by decide) (by decide) ⟨by unfold rSinned; rw [if_pos (by omega)], rfl⟩ dX9_sinned_15

set_option maxHeartbeats 4000000 in
set_option maxRecDepth 100000 in
theorem m_sinned (l : Launch) (D : va_G) (Y : Nat → ClassId) (RO : va_W) (h : Nat) (r : Nat → Nat) (S : MS) (G : GS) (ps : Int → PT) (p : Int) (n : Int) (pt : Int) (r0 : (h, oC 9 [.ref (r 0), .ref (r 1), vI (ms_w S), vI (ms_l S), vL (ms_s S), vI (ms_a S), vI (ms_t S), vI (ms_p S), vI (g_np G), .ref (r 9), .ref (r 10), .ref (r 11), .ref (r 12), .ref (r 13), vI (g_nc G), .ref (r 15), .ref (r 16), .ref (r 17), vI (g_pl G), .ref (r 19), vI (g_ik G), vL (g_ks G), .ref (r 22), vL (g_ss G), .ref (r 24), vI (g_fa G), vI (g_iw G), vI (g_nw G), vI (g_ns G), vI (g_ne G), .ref (r 30), .ref (r 31), .ref (r 32), .ref (r 33), vL (g_h G)]) ∈ RO) (k0 : ((r 9), aI (Y 0) 6 (kof ps)) ∈ RO) (k1 : ((r 10), aI (Y 0) 6 (nof ps)) ∈ RO) (k2 : ((r 11), aI (Y 0) 6 (wof ps)) ∈ RO) (k3 : ((r 12), aI (Y 0) 6 (iof ps)) ∈ RO) (k4 : ((r 13), aI (Y 0) 6 (zof ps)) ∈ RO) (hnp : 0 ≤ g_np G ∧ g_np G ≤ 6) (hps : ∀ i, 0 ≤ i ∧ i < g_np G → okP (ps i)) (hp : -2147483648 ≤ p ∧ p ≤ 2147483647) (hn : -2147483648 ≤ n ∧ n ≤ 2147483647) (hpt : -2147483648 ≤ pt ∧ pt ≤ 2147483647) : jMl l yX10_sinned wsX10_sinned { frames := 3, cells := 0, slots := 0, locals := 83 } D Y RO [.ref h, vI p, vI n, vI pt] [] (fun e w1 => e = (rSinned p n pt (g_np G) ps) ∧ w1 = []) := by
  refine j_ofl RX10 rfl rfl rfl (Nat.le_of_ble_eq_true rfl) (fun X C Rt => ?_)
  refine j_aload_n (pc := 0) C 0 0 rfl rfl dX10_sinned_0 ?_
  refine j_iload_n (pc := 1) C 1 1 rfl rfl dX10_sinned_1 ?_
  refine j_callVi (pc := 2) (As := [vI p]) (na := 1) (st := []) C [] [] (wr := []) (fun l => m_isParish l D Y _ h r S G p (List.mem_append_right _ r0) (by first | assumption | omega) (by first | assumption | omega)) rfl rfl rfl rfl (by decide) rfl (Or.inr (List.mem_append_right _ r0)) rfl gX10_sinned_X10_isParish ⟨rfl, by decide +kernel⟩ (by decide) rfl rfl (Nat.le_of_ble_eq_true rfl) (by decide) dX10_sinned_2 (fun e_1 w_2 h_3 => ?_)
  obtain ⟨rfl, rfl⟩ := h_3
  refine j_perm (ws' := []) [] rfl rfl ?_
  refine j_if_neb (pc := 5) C 12 rfl dX10_sinned_5 (fun h_4p5 => ?_) (fun h_4p5 => ?_)
  · skip
    have hPw := (hps p (by omega)).2.2.2.2.1
    refine j_iload_n (pc := 12) C 2 2 rfl rfl dX10_sinned_12 ?_
    refine j_iload_n (pc := 13) C 3 3 rfl rfl dX10_sinned_13 ?_
    refine j_callSi (pc := 14) (As := [vI n, vI pt]) (na := 2) (st := []) C [] [] (wr := []) (fun l => m_isNet l D Y _ n pt (by first | assumption | omega) (by first | assumption | omega)) rfl rfl rfl rfl (by decide) rfl gX10_sinned_X10_isNet (by decide +kernel) (by decide) rfl rfl (Nat.le_of_ble_eq_true rfl) (by decide) dX10_sinned_14 (fun e_5 w_6 h_7 => ?_)
    obtain ⟨rfl, rfl⟩ := h_7
    refine j_perm (ws' := []) [] rfl rfl ?_
    refine j_if_neb (pc := 17) C 24 rfl dX10_sinned_17 (fun h_8p17 => ?_) (fun h_8p17 => ?_)
    · skip
      refine j_aload_n (pc := 24) C 0 0 rfl rfl dX10_sinned_24 ?_
      refine j_iload_n (pc := 25) C 1 1 rfl rfl dX10_sinned_25 ?_
      refine j_iload_n (pc := 26) C 2 2 rfl rfl dX10_sinned_26 ?_
      refine j_iconst (pc := 27) C dX10_sinned_27 ?_
      refine j_callVl (pc := 28) (As := [vI p, vI n, vI 0]) (na := 3) (st := []) C [] [] (wr := []) (fun l => m_netOdds l D Y _ h r S G ps p n 0 (List.mem_append_right _ r0) (List.mem_append_right _ k0) (List.mem_append_right _ k1) (List.mem_append_right _ k2) (List.mem_append_right _ k3) (List.mem_append_right _ k4) (by first | assumption | omega) (hps p (by omega)) (by first | assumption | omega) (by first | assumption | omega)) rfl rfl rfl rfl (by decide) rfl (Or.inr (List.mem_append_right _ r0)) rfl gX10_sinned_X10_netOdds ⟨rfl, by decide +kernel⟩ (by decide) rfl rfl (Nat.le_of_ble_eq_true rfl) (by decide) dX10_sinned_28 (fun e_9 w_10 h_11 => ?_)
      obtain ⟨rfl, rfl⟩ := h_11
      refine j_perm (ws' := []) [] rfl rfl ?_
      rw [vL_nrm (netI (ps p) n 0)]
      have hn0 := nrm_in (netI (ps p) n 0)
      refine j_lstore (pc := 31) (lc' := [(4, vL (nrm (netI (ps p) n 0))), (0, .ref h), (1, vI p), (2, vI n), (3, vI pt)]) C (by decide) rfl dX10_sinned_31 ?_
      refine j_lload (pc := 33) C 0 rfl dX10_sinned_33 ?_
      refine j_lconst (pc := 35) (w := 0) C rfl dX10_sinned_35 ?_
      refine j_lcmp (pc := 36) C (by omega) dX10_sinned_36 ?_
      refine j_if_ne (pc := 37) C 46 rfl (by unfold cmpI; omega) dX10_sinned_37 (fun h_12p37 => ?_) (fun h_12p37 => ?_)
      · skip
        unfold cmpI at h_12p37
        refine j_aload_n (pc := 46) C 0 1 rfl rfl dX10_sinned_46 ?_
        refine j_iload_n (pc := 47) C 1 2 rfl rfl dX10_sinned_47 ?_
        refine j_iload_n (pc := 48) C 2 3 rfl rfl dX10_sinned_48 ?_
        refine j_iconst (pc := 49) C dX10_sinned_49 ?_
        refine j_callVl (pc := 50) (As := [vI p, vI n, vI 1]) (na := 3) (st := []) C [] [] (wr := []) (fun l => m_netOdds l D Y _ h r S G ps p n 1 (List.mem_append_right _ r0) (List.mem_append_right _ k0) (List.mem_append_right _ k1) (List.mem_append_right _ k2) (List.mem_append_right _ k3) (List.mem_append_right _ k4) (by first | assumption | omega) (hps p (by omega)) (by first | assumption | omega) (by first | assumption | omega)) rfl rfl rfl rfl (by decide) rfl (Or.inr (List.mem_append_right _ r0)) rfl gX10_sinned_X10_netOdds ⟨rfl, by decide +kernel⟩ (by decide) rfl rfl (Nat.le_of_ble_eq_true rfl) (by decide) dX10_sinned_50 (fun e_13 w_14 h_15 => ?_)
        obtain ⟨rfl, rfl⟩ := h_15
        refine j_perm (ws' := []) [] rfl rfl ?_
        rw [vL_nrm (netI (ps p) n 1)]
        have hnr := nrm_in (netI (ps p) n 1)
        refine j_lload (pc := 53) C 0 rfl dX10_sinned_53 ?_
        refine j_iload_n (pc := 55) C 3 4 rfl rfl dX10_sinned_55 ?_
        refine j_callSl (pc := 56) (As := [vL (nrm (netI (ps p) n 1)), vL (nrm (netI (ps p) n 0)), vI pt]) (na := 3) (st := []) C [] [] (wr := []) (fun l => m_lowest l D Y _ (nrm (netI (ps p) n 1)) (nrm (netI (ps p) n 0)) pt hnr hn0 (Or.inr (by omega)) (by omega)) rfl rfl rfl rfl (by decide) rfl gX10_sinned_X10_lowest (by decide +kernel) (by decide) rfl rfl (Nat.le_of_ble_eq_true rfl) (by decide) dX10_sinned_56 (fun e_16 w_17 h_18 => ?_)
        obtain ⟨rfl, rfl⟩ := h_18
        refine j_perm (ws' := []) [] rfl rfl ?_
        exact Rt _ _ _ _ _ _ (by decide) (by decide) ⟨by unfold rSinned; first | rw [if_pos (by omega)] | rw [if_neg (by omega), if_pos (by omega)] | rw [if_neg (by omega), if_neg (by omega), if_pos (by omega)] | rw [if_neg (by omega), if_neg (by omega), if_neg (by omega)] | rw [if_neg (by omega), if_neg (by omega)], rfl⟩ dX10_sinned_59
      · skip
        unfold cmpI at h_12p37
        refine j_ldc2 (pc := 40) (w := (-1)) C (List.mem_of_getElem? (i := 3) rfl) dX10_sinned_40 ?_
        refine j_goto (pc := 43) C 59 rfl dX10_sinned_43 ?_
        exact Rt _ _ _ _ _ _ (by decide) (by decide) ⟨by unfold rSinned; first | rw [if_pos (by omega)] | rw [if_neg (by omega), if_pos (by omega)] | rw [if_neg (by omega), if_neg (by omega), if_pos (by omega)] | rw [if_neg (by omega), if_neg (by omega), if_neg (by omega)] | rw [if_neg (by omega), if_neg (by omega)], rfl⟩ dX10_sinned_59
    · skip
      refine j_ldc2 (pc := 20) (w := (-102)) C (List.mem_of_getElem? (i := 2) rfl) dX10_sinned_20 ?_
      exact Rt _ _ _ _ _ _ (by decide) (by decide) ⟨by unfold rSinned; first | rw [if_pos (by omega)] | rw [if_neg (by omega), if_pos (by omega)] | rw [if_neg (by omega), if_neg (by omega), if_pos (by omega)] | rw [if_neg (by omega), if_neg (by omega), if_neg (by omega)] | rw [if_neg (by omega), if_neg (by omega)], rfl⟩ dX10_sinned_23
  · skip
    refine j_ldc2 (pc := 8) (w := (-101)) C (List.mem_of_getElem? (i := 1) rfl) dX10_sinned_8 ?_
    exact Rt _ _ _ _ _ _ (by decide) (by decide) ⟨by unfold rSinned; first | rw [if_pos (by omega)] | rw [if_neg (by omega), if_pos (by omega)] | rw [if_neg (by omega), if_neg (by omega), if_pos (by omega)] | rw [if_neg (by omega), if_neg (by omega), if_neg (by omega)] | rw [if_neg (by omega), if_neg (by omega)], rfl⟩ dX10_sinned_11
