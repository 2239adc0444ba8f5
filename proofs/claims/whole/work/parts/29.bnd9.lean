theorem rB_bit {n w np : Int} {ps : Int → PT} (h : ¬ (n < -54 ∨ 216 < n)) (hw : w = 2 ∨ w = 3) : rBounds n w np ps = if canI ps np n (-1) 0 0 = 0 then 0 else fo (bitF ps np n w) np 0 := by
  rcases hw with q | q
  · rw [rB_2 h q, bitF_2 q]
  · rw [rB_3 h q, bitF_3 (by omega)]
theorem fX10_canNet_X10 : ∀ w ∈ u_ws RX10 TX10 35, w ∈ wsX10_canNet := j_words [36, 37, 38, 39, 40, 41, 42, 43, 44, 45, 46, 47, 48, 49, 50, 51, 52, 53, 54, 55, 56, 57, 58, 59, 60, 61, 62, 63, 64, 65, 66, 67, 68, 69, 70] (by decide +kernel)
set_option maxHeartbeats 4000000 in
set_option maxRecDepth 100000 in
theorem m_canNet (l : Launch) (D : va_G) (Y : Nat → ClassId) (RO : va_W) (h : Nat) (r : Nat → Nat) (S : MS) (G : GS) (ps : Int → PT) (f : Int → Int) (mo : Int → Int) (f2 : Int → Int) (m2 : Int → Int) (n : Int) (one : Int) (lo : Int) (hi : Int) (r0 : (h, oC 9 [.ref (r 0), .ref (r 1), vI (ms_w S), vI (ms_l S), vL (ms_s S), vI (ms_a S), vI (ms_t S), vI (ms_p S), vI (g_np G), .ref (r 9), .ref (r 10), .ref (r 11), .ref (r 12), .ref (r 13), vI (g_nc G), .ref (r 15), .ref (r 16), .ref (r 17), vI (g_pl G), .ref (r 19), vI (g_ik G), vL (g_ks G), .ref (r 22), vL (g_ss G), .ref (r 24), vI (g_fa G), vI (g_iw G), vI (g_nw G), vI (g_ns G), vI (g_ne G), .ref (r 30), .ref (r 31), .ref (r 32), .ref (r 33), vL (g_h G)]) ∈ RO) (k0 : ((r 9), aI (Y 0) 6 (kof ps)) ∈ RO) (k1 : ((r 10), aI (Y 0) 6 (nof ps)) ∈ RO) (k2 : ((r 11), aI (Y 0) 6 (wof ps)) ∈ RO) (k3 : ((r 12), aI (Y 0) 6 (iof ps)) ∈ RO) (k4 : ((r 13), aI (Y 0) 6 (zof ps)) ∈ RO) (hnp : 0 ≤ g_np G ∧ g_np G ≤ 6) (hps : ∀ i, 0 ≤ i ∧ i < g_np G → okP (ps i)) (hn : -54 ≤ n ∧ n ≤ 216) (ho : -2147483648 ≤ one ∧ one ≤ 2147483647) (hlo : -1 ≤ lo ∧ lo ≤ 10) (hhi : -1 ≤ hi ∧ hi ≤ 10) : jMi l yX10_canNet wsX10_canNet { frames := 3, cells := 0, slots := 0, locals := 75 } D Y RO [.ref h, vI n, vI one, vI lo, vI hi] [((r 30), aI (Y 0) 271 f), ((r 31), aI (Y 0) 271 mo), ((r 32), aI (Y 0) 271 f2), ((r 33), aI (Y 0) 271 m2)] (fun e w1 => ∃ (fq mq f2q m2q : Int → Int), e = (canI ps (g_np G) n one lo hi) ∧ w1 = [((r 30), aI (Y 0) 271 fq), ((r 31), aI (Y 0) 271 mq), ((r 32), aI (Y 0) 271 f2q), ((r 33), aI (Y 0) 271 m2q)] ∧ mtI 1 268435456 (AC 1 (AQ ps one lo hi (g_np G))) fq ∧ mtI (-1) (-1) (AC 1 (AQ ps one lo hi (g_np G))) mq) := by
  refine j_ofz RX10 rfl rfl rfl (Nat.le_of_ble_eq_true rfl) (fun X C Rt => ?_)
  refine j_aload_n (pc := 0) C 0 0 rfl rfl dX10_canNet_0 ?_
  refine j_iload_n (pc := 1) C 2 2 rfl rfl dX10_canNet_1 ?_
  refine j_iload_n (pc := 2) C 3 3 rfl rfl dX10_canNet_2 ?_
  refine j_iload (pc := 3) C 4 rfl dX10_canNet_3 ?_
  refine j_callVv (pc := 5) (As := [vI one, vI lo, vI hi]) (na := 3) (st := []) C [0, 1, 2, 3] [] (wr := []) (fun l => m_layNets l D Y _ h r S G ps f mo f2 m2 one lo hi (List.mem_append_right _ r0) (List.mem_append_right _ k0) (List.mem_append_right _ k1) (List.mem_append_right _ k2) (List.mem_append_right _ k3) (List.mem_append_right _ k4) (by first | assumption | omega) (by first | assumption | omega) (by first | assumption | omega) (by first | assumption | omega) (by first | assumption | omega)) rfl rfl rfl rfl (by decide) rfl (Or.inr (List.mem_append_right _ r0)) rfl gX10_canNet_X10_layNets ⟨rfl, by decide +kernel⟩ (by decide) rfl rfl (Nat.le_of_ble_eq_true rfl) (by decide) dX10_canNet_5 (fun w_2 h_3 => ?_)
  obtain ⟨fq_4, mq_5, f2q_6, m2q_7, rfl, hma_8, hmb_9⟩ := h_3
  refine j_perm (ws' := [((r 30), aI (Y 0) 271 fq_4), ((r 31), aI (Y 0) 271 mq_5), ((r 32), aI (Y 0) 271 f2q_6), ((r 33), aI (Y 0) 271 m2q_7)]) [0, 1, 2, 3] rfl rfl ?_
  have HA := hma_8
  have HB := hmb_9
  have hcI := lay_can (bQ_up (AQ_b (one := one) (lo := lo) (hi := hi) hnp.1 hps) (show 9 * g_np G ≤ 54 by omega)) HA HB hn
  have hfr := lay_r1 (bQ_up (AQ_b (one := one) (lo := lo) (hi := hi) hnp.1 hps) (show 9 * g_np G ≤ 54 by omega)) HA HB (n + 54) (by omega)
  refine j_aload_n (pc := 8) C 0 0 rfl rfl dX10_canNet_8 ?_
  refine j_get (pc := 9) C (Or.inr r0) rfl fX10_canNet_X10 30 (by decide) (List.mem_of_getElem? (i := 1) rfl) (Or.inl rfl) rfl dX10_canNet_9 ?_
  refine j_iload_n (pc := 12) C 1 1 rfl rfl dX10_canNet_12 ?_
  refine j_bipush (pc := 13) (w := (-54)) C rfl dX10_canNet_13 ?_
  refine j_isub (pc := 15) C dX10_canNet_15 ?_
  rw [show n - (-54) = n + 54 by omega]
  refine j_iald (pc := 16) C (Or.inl (List.mem_of_getElem? (i := 0) rfl)) rfl (by omega) (by decide) dX10_canNet_16 ?_
  refine j_ldc (pc := 17) (w := 268435456) C (List.mem_of_getElem? (i := 2) rfl) dX10_canNet_17 ?_
  refine j_icmp_ge (pc := 19) C 26 rfl (by omega) dX10_canNet_19 (fun h_10p19 => ?_) (fun h_10p19 => ?_)
  · skip
    refine j_iconst (pc := 26) C dX10_canNet_26 ?_
    exact Rt _ _ _ _ _ _ (by decide) (by decide) (by decide) ⟨_, _, _, _, by rw [hcI]; first | (rw [if_pos (by omega)]; done) | (rw [if_neg (by omega)]; done), rfl, HA, HB⟩ dX10_canNet_27
  · skip
    refine j_iconst (pc := 22) C dX10_canNet_22 ?_
    refine j_goto (pc := 23) C 27 rfl dX10_canNet_23 ?_
    exact Rt _ _ _ _ _ _ (by decide) (by decide) (by decide) ⟨_, _, _, _, by rw [hcI]; first | (rw [if_pos (by omega)]; done) | (rw [if_neg (by omega)]; done), rfl, HA, HB⟩ dX10_canNet_27

theorem fX10_boundsOf_X10 : ∀ w ∈ u_ws RX10 TX10 35, w ∈ wsX10_boundsOf := j_words [40, 41, 42, 43, 44, 45, 46, 47, 48, 49, 50, 51, 52, 53, 54, 55, 56, 57, 58, 59, 60, 61, 62, 63, 64, 65, 66, 67, 68, 69, 70, 71, 72, 73, 74] (by decide +kernel)
set_option maxHeartbeats 4000000 in
set_option maxRecDepth 100000 in
theorem m_boundsOf (l : Launch) (D : va_G) (Y : Nat → ClassId) (RO : va_W) (h : Nat) (r : Nat → Nat) (S : MS) (G : GS) (ps : Int → PT) (f : Int → Int) (mo : Int → Int) (f2 : Int → Int) (m2 : Int → Int) (n : Int) (w : Int) (r0 : (h, oC 9 [.ref (r 0), .ref (r 1), vI (ms_w S), vI (ms_l S), vL (ms_s S), vI (ms_a S), vI (ms_t S), vI (ms_p S), vI (g_np G), .ref (r 9), .ref (r 10), .ref (r 11), .ref (r 12), .ref (r 13), vI (g_nc G), .ref (r 15), .ref (r 16), .ref (r 17), vI (g_pl G), .ref (r 19), vI (g_ik G), vL (g_ks G), .ref (r 22), vL (g_ss G), .ref (r 24), vI (g_fa G), vI (g_iw G), vI (g_nw G), vI (g_ns G), vI (g_ne G), .ref (r 30), .ref (r 31), .ref (r 32), .ref (r 33), vL (g_h G)]) ∈ RO) (k0 : ((r 9), aI (Y 0) 6 (kof ps)) ∈ RO) (k1 : ((r 10), aI (Y 0) 6 (nof ps)) ∈ RO) (k2 : ((r 11), aI (Y 0) 6 (wof ps)) ∈ RO) (k3 : ((r 12), aI (Y 0) 6 (iof ps)) ∈ RO) (k4 : ((r 13), aI (Y 0) 6 (zof ps)) ∈ RO) (hnp : 0 ≤ g_np G ∧ g_np G ≤ 6) (hps : ∀ i, 0 ≤ i ∧ i < g_np G → okP (ps i)) (hn : -54 ≤ n ∧ n ≤ 216) (hw : 0 ≤ w ∧ w ≤ 3) : jMi l yX10_boundsOf wsX10_boundsOf { frames := 4, cells := 0, slots := 0, locals := 99 } D Y RO [.ref h, vI n, vI w] [((r 30), aI (Y 0) 271 f), ((r 31), aI (Y 0) 271 mo), ((r 32), aI (Y 0) 271 f2), ((r 33), aI (Y 0) 271 m2)] (fun e w1 => ∃ (fq mq f2q m2q : Int → Int), e = (rBounds n w (g_np G) ps) ∧ w1 = [((r 30), aI (Y 0) 271 fq), ((r 31), aI (Y 0) 271 mq), ((r 32), aI (Y 0) 271 f2q), ((r 33), aI (Y 0) 271 m2q)]) := by
  refine j_ofi RX10 rfl rfl rfl (Nat.le_of_ble_eq_true rfl) (fun X C Rt => ?_)
  refine j_aload_n (pc := 0) C 0 0 rfl rfl dX10_boundsOf_0 ?_
  refine j_iload_n (pc := 1) C 1 1 rfl rfl dX10_boundsOf_1 ?_
  refine j_iconst (pc := 2) C dX10_boundsOf_2 ?_
  refine j_iconst (pc := 3) C dX10_boundsOf_3 ?_
  refine j_iconst (pc := 4) C dX10_boundsOf_4 ?_
  refine j_callVi (pc := 5) (As := [vI n, vI (-1), vI 0, vI 0]) (na := 4) (st := []) C [0, 1, 2, 3] [] (wr := []) (fun l => m_canNet l D Y _ h r S G ps f mo f2 m2 n (-1) 0 0 (List.mem_append_right _ r0) (List.mem_append_right _ k0) (List.mem_append_right _ k1) (List.mem_append_right _ k2) (List.mem_append_right _ k3) (List.mem_append_right _ k4) (by first | assumption | omega) (by first | assumption | omega) (by first | assumption | omega) (by decide) (by decide) (by decide)) rfl rfl rfl rfl (by decide) rfl (Or.inr (List.mem_append_right _ r0)) rfl gX10_boundsOf_X10_canNet ⟨rfl, by decide +kernel⟩ (by decide) rfl rfl (Nat.le_of_ble_eq_true rfl) (by decide) dX10_boundsOf_5 (fun e_1 w_2 h_3 => ?_)
  obtain ⟨fq_4, mq_5, f2q_6, m2q_7, rfl, rfl, hma_8, hmb_9⟩ := h_3
  refine j_perm (ws' := [((r 30), aI (Y 0) 271 fq_4), ((r 31), aI (Y 0) 271 mq_5), ((r 32), aI (Y 0) 271 f2q_6), ((r 33), aI (Y 0) 271 m2q_7)]) [0, 1, 2, 3] rfl rfl ?_
  have HA := hma_8
  have HB := hmb_9
  have hcc := canI_c ps (g_np G) n (-1) 0 0
  have hff := lay_r1 (bQ_up (AQ_b (one := -1) (lo := 0) (hi := 0) hnp.1 hps) (show 9 * g_np G ≤ 54 by omega)) HA HB (n + 54) (by omega)
  refine j_istore_n (pc := 8) (lc' := [(3, vI (canI ps (g_np G) n (-1) 0 0)), (0, .ref h), (1, vI n), (2, vI w)]) C 3 rfl (by decide) rfl dX10_boundsOf_8 ?_
  refine j_iload_n (pc := 9) C 2 3 rfl rfl dX10_boundsOf_9 ?_
  refine j_iconst (pc := 10) C dX10_boundsOf_10 ?_
  refine j_icmp_ge (pc := 11) C 48 rfl (by omega) dX10_boundsOf_11 (fun h_10p11 => ?_) (fun h_10p11 => ?_)
  · skip
    refine j_iconst (pc := 48) C dX10_boundsOf_48 ?_
    refine j_istore (pc := 49) (lc' := [(4, vI 0), (3, vI (canI ps (g_np G) n (-1) 0 0)), (0, .ref h), (1, vI n), (2, vI w)]) C (by decide) rfl dX10_boundsOf_49 ?_
    refine j_iconst (pc := 51) C dX10_boundsOf_51 ?_
    refine j_istore (pc := 52) (lc' := [(5, vI 0), (4, vI 0), (3, vI (canI ps (g_np G) n (-1) 0 0)), (0, .ref h), (1, vI n), (2, vI w)]) C (by decide) rfl dX10_boundsOf_52 ?_
    have hL54 : ∀ (N54 : Nat) (b : Int) (p : Int) (q1 : Int → Int) (q2 : Int → Int) (q3 : Int → Int) (q4 : Int → Int), ((g_np G - p).toNat) < N54 → (0 ≤ p ∧ p ≤ g_np G) → (b = fo (bitF ps (g_np G) n w) p 0) → (-2147483648 ≤ b ∧ b ≤ 2147483647) → (canI ps (g_np G) n (-1) 0 0 = 0 → p = 0) → jW X 7 0 0 [((r 30), aI (Y 0) 271 q1), ((r 31), aI (Y 0) 271 q2), ((r 32), aI (Y 0) 271 q3), ((r 33), aI (Y 0) 271 q4)] [(0, .ref h), (1, vI n), (2, vI w), (3, vI (canI ps (g_np G) n (-1) 0 0)), (4, vI b), (5, vI p)] 54 [] := by
      intro N54
      induction N54 with
      | zero => intro b p q1 q2 q3 q4 hm54 i54_0 i54_1 i54_2 i54_3; omega
      | succ N54 ih54 =>
        intro b p q1 q2 q3 q4 hm54 i54_0 i54_1 i54_2 i54_3
        refine j_iload (pc := 54) C 5 rfl dX10_boundsOf_54 ?_
        refine j_aload_n (pc := 56) C 0 0 rfl rfl dX10_boundsOf_56 ?_
        refine j_get (pc := 57) C (Or.inr r0) rfl fX10_boundsOf_X10 8 (by decide) (List.mem_of_getElem? (i := 3) rfl) (Or.inl rfl) rfl dX10_boundsOf_57 ?_
        refine j_icmp_ge (pc := 60) C 128 rfl (by omega) dX10_boundsOf_60 (fun h_11p60 => ?_) (fun h_11p60 => ?_)
        · skip
          refine j_iload (pc := 128) C 4 rfl dX10_boundsOf_128 ?_
          exact Rt _ _ _ _ _ _ (by decide) (by decide) ⟨_, _, _, _, by rw [rB_bit (by omega) (by omega)]; by_cases q : canI ps (g_np G) n (-1) 0 0 = 0; { rw [if_pos q, i54_1, show p = 0 by omega]; rfl }; { rw [if_neg q, i54_1, show p = g_np G by omega] }, rfl⟩ dX10_boundsOf_130
        · skip
          refine j_iload_n (pc := 63) C 3 3 rfl rfl dX10_boundsOf_63 ?_
          refine j_if_eq (pc := 64) C 128 rfl (by omega) dX10_boundsOf_64 (fun h_12p64 => ?_) (fun h_12p64 => ?_)
          · skip
            refine j_iload (pc := 128) C 4 rfl dX10_boundsOf_128 ?_
            exact Rt _ _ _ _ _ _ (by decide) (by decide) ⟨_, _, _, _, by rw [rB_bit (by omega) (by omega)]; by_cases q : canI ps (g_np G) n (-1) 0 0 = 0; { rw [if_pos q, i54_1, show p = 0 by omega]; rfl }; { rw [if_neg q, i54_1, show p = g_np G by omega] }, rfl⟩ dX10_boundsOf_130
          · skip
            refine j_iload_n (pc := 67) C 2 2 rfl rfl dX10_boundsOf_67 ?_
            refine j_iconst (pc := 68) C dX10_boundsOf_68 ?_
            refine j_icmp_ne (pc := 69) C 92 rfl (by omega) dX10_boundsOf_69 (fun h_13p69 => ?_) (fun h_13p69 => ?_)
            · skip
              refine j_aload_n (pc := 92) C 0 0 rfl rfl dX10_boundsOf_92 ?_
              refine j_iload_n (pc := 93) C 1 1 rfl rfl dX10_boundsOf_93 ?_
              refine j_iload (pc := 94) C 5 rfl dX10_boundsOf_94 ?_
              refine j_iconst (pc := 96) C dX10_boundsOf_96 ?_
              refine j_bipush (pc := 97) (w := 9) C rfl dX10_boundsOf_97 ?_
              refine j_callVi (pc := 99) (As := [vI n, vI p, vI 1, vI 9]) (na := 4) (st := []) C [0, 1, 2, 3] [] (wr := []) (fun l => m_canNet l D Y _ h r S G ps q1 q2 q3 q4 n p 1 9 (List.mem_append_right _ r0) (List.mem_append_right _ k0) (List.mem_append_right _ k1) (List.mem_append_right _ k2) (List.mem_append_right _ k3) (List.mem_append_right _ k4) (by first | assumption | omega) (by first | assumption | omega) (by first | assumption | omega) (by omega) (by decide) (by decide)) rfl rfl rfl rfl (by decide) rfl (Or.inr (List.mem_append_right _ r0)) rfl gX10_boundsOf_X10_canNet ⟨rfl, by decide +kernel⟩ (by decide) rfl rfl (Nat.le_of_ble_eq_true rfl) (by decide) dX10_boundsOf_99 (fun e_14 w_15 h_16 => ?_)
              obtain ⟨fq_17, mq_18, f2q_19, m2q_20, rfl, rfl, hma_21, hmb_22⟩ := h_16
              refine j_perm (ws' := [((r 30), aI (Y 0) 271 fq_17), ((r 31), aI (Y 0) 271 mq_18), ((r 32), aI (Y 0) 271 f2q_19), ((r 33), aI (Y 0) 271 m2q_20)]) [0, 1, 2, 3] rfl rfl ?_
              have hci := canI_c ps (g_np G) n p 1 9
              refine j_istore (pc := 102) (lc' := [(6, vI (canI ps (g_np G) n p 1 9)), (0, .ref h), (1, vI n), (2, vI w), (3, vI (canI ps (g_np G) n (-1) 0 0)), (4, vI b), (5, vI p)]) C (by decide) rfl dX10_boundsOf_102 ?_
              refine j_iload (pc := 104) C 5 rfl dX10_boundsOf_104 ?_
              refine j_iload (pc := 106) C 0 rfl dX10_boundsOf_106 ?_
              refine j_if_eq (pc := 108) C 118 rfl (by omega) dX10_boundsOf_108 (fun h_23p108 => ?_) (fun h_23p108 => ?_)
              · skip
                refine j_iconst (pc := 118) C dX10_boundsOf_118 ?_
                refine j_ior (pc := 119) C dX10_boundsOf_119 ?_
                refine j_istore (pc := 120) (lc' := [(4, vI (orI b 0)), (6, vI (canI ps (g_np G) n p 1 9)), (0, .ref h), (1, vI n), (2, vI w), (3, vI (canI ps (g_np G) n (-1) 0 0)), (5, vI p)]) C (by decide) rfl dX10_boundsOf_120 ?_
                refine j_iinc (pc := 122) (lc' := [(5, vI (p + 1)), (4, vI (orI b 0)), (6, vI (canI ps (g_np G) n p 1 9)), (0, .ref h), (1, vI n), (2, vI w), (3, vI (canI ps (g_np G) n (-1) 0 0))]) C 6 rfl (by decide) rfl dX10_boundsOf_122 ?_
                refine j_goto (pc := 125) C 54 rfl dX10_boundsOf_125 ?_
                refine j_locals (lc' := [(0, .ref h), (1, vI n), (2, vI w), (3, vI (canI ps (g_np G) n (-1) 0 0)), (4, vI (orI b 0)), (5, vI (p + 1))]) [3, 4, 5, 6, 1, 0] rfl ?_
                exact ih54 (orI b 0) (p + 1) fq_17 mq_18 f2q_19 m2q_20 (by omega) (by omega) (by rw [fo_succ _ (by omega), ← i54_1]; first | (rw [bitF_2 (by omega)]; first | (rw [mustF_y (by omega)]; done) | (rw [mustF_n (by omega) i54_2, orI_0 i54_2]; done)) | (rw [bitF_3 (by omega)]; first | (rw [mayF_y (by omega)]; done) | (rw [mayF_n (by omega) i54_2, orI_0 i54_2]; done))) (orI_in _ _) (fun q => by omega)
              · skip
                refine j_iconst (pc := 111) C dX10_boundsOf_111 ?_
                refine j_iload (pc := 112) C 6 rfl dX10_boundsOf_112 ?_
                refine j_ishl (pc := 114) C dX10_boundsOf_114 ?_
                refine j_goto (pc := 115) C 119 rfl dX10_boundsOf_115 ?_
                refine j_ior (pc := 119) C dX10_boundsOf_119 ?_
                refine j_istore (pc := 120) (lc' := [(4, vI (orI b (shlI 1 p))), (6, vI (canI ps (g_np G) n p 1 9)), (0, .ref h), (1, vI n), (2, vI w), (3, vI (canI ps (g_np G) n (-1) 0 0)), (5, vI p)]) C (by decide) rfl dX10_boundsOf_120 ?_
                refine j_iinc (pc := 122) (lc' := [(5, vI (p + 1)), (4, vI (orI b (shlI 1 p))), (6, vI (canI ps (g_np G) n p 1 9)), (0, .ref h), (1, vI n), (2, vI w), (3, vI (canI ps (g_np G) n (-1) 0 0))]) C 6 rfl (by decide) rfl dX10_boundsOf_122 ?_
                refine j_goto (pc := 125) C 54 rfl dX10_boundsOf_125 ?_
                refine j_locals (lc' := [(0, .ref h), (1, vI n), (2, vI w), (3, vI (canI ps (g_np G) n (-1) 0 0)), (4, vI (orI b (shlI 1 p))), (5, vI (p + 1))]) [3, 4, 5, 6, 1, 0] rfl ?_
                exact ih54 (orI b (shlI 1 p)) (p + 1) fq_17 mq_18 f2q_19 m2q_20 (by omega) (by omega) (by rw [fo_succ _ (by omega), ← i54_1]; first | (rw [bitF_2 (by omega)]; first | (rw [mustF_y (by omega)]; done) | (rw [mustF_n (by omega) i54_2, orI_0 i54_2]; done)) | (rw [bitF_3 (by omega)]; first | (rw [mayF_y (by omega)]; done) | (rw [mayF_n (by omega) i54_2, orI_0 i54_2]; done))) (orI_in _ _) (fun q => by omega)
            · skip
              refine j_aload_n (pc := 72) C 0 0 rfl rfl dX10_boundsOf_72 ?_
              refine j_iload_n (pc := 73) C 1 1 rfl rfl dX10_boundsOf_73 ?_
              refine j_iload (pc := 74) C 5 rfl dX10_boundsOf_74 ?_
              refine j_iconst (pc := 76) C dX10_boundsOf_76 ?_
              refine j_iconst (pc := 77) C dX10_boundsOf_77 ?_
              refine j_callVi (pc := 78) (As := [vI n, vI p, vI 0, vI 0]) (na := 4) (st := []) C [0, 1, 2, 3] [] (wr := []) (fun l => m_canNet l D Y _ h r S G ps q1 q2 q3 q4 n p 0 0 (List.mem_append_right _ r0) (List.mem_append_right _ k0) (List.mem_append_right _ k1) (List.mem_append_right _ k2) (List.mem_append_right _ k3) (List.mem_append_right _ k4) (by first | assumption | omega) (by first | assumption | omega) (by first | assumption | omega) (by omega) (by decide) (by decide)) rfl rfl rfl rfl (by decide) rfl (Or.inr (List.mem_append_right _ r0)) rfl gX10_boundsOf_X10_canNet ⟨rfl, by decide +kernel⟩ (by decide) rfl rfl (Nat.le_of_ble_eq_true rfl) (by decide) dX10_boundsOf_78 (fun e_24 w_25 h_26 => ?_)
              obtain ⟨fq_27, mq_28, f2q_29, m2q_30, rfl, rfl, hma_31, hmb_32⟩ := h_26
              refine j_perm (ws' := [((r 30), aI (Y 0) 271 fq_27), ((r 31), aI (Y 0) 271 mq_28), ((r 32), aI (Y 0) 271 f2q_29), ((r 33), aI (Y 0) 271 m2q_30)]) [0, 1, 2, 3] rfl rfl ?_
              have hci := canI_c ps (g_np G) n p 0 0
              refine j_if_ne (pc := 81) C 88 rfl (by omega) dX10_boundsOf_81 (fun h_33p81 => ?_) (fun h_33p81 => ?_)
              · skip
                refine j_iconst (pc := 88) C dX10_boundsOf_88 ?_
                refine j_goto (pc := 89) C 102 rfl dX10_boundsOf_89 ?_
                refine j_istore (pc := 102) (lc' := [(6, vI 0), (0, .ref h), (1, vI n), (2, vI w), (3, vI (canI ps (g_np G) n (-1) 0 0)), (4, vI b), (5, vI p)]) C (by decide) rfl dX10_boundsOf_102 ?_
                refine j_iload (pc := 104) C 5 rfl dX10_boundsOf_104 ?_
                refine j_iload (pc := 106) C 0 rfl dX10_boundsOf_106 ?_
                refine j_if_eq (pc := 108) C 118 rfl (by omega) dX10_boundsOf_108 (fun _ => ?_) (fun h_34 => absurd h_34 (by decide))
                refine j_iconst (pc := 118) C dX10_boundsOf_118 ?_
                refine j_ior (pc := 119) C dX10_boundsOf_119 ?_
                refine j_istore (pc := 120) (lc' := [(4, vI (orI b 0)), (6, vI 0), (0, .ref h), (1, vI n), (2, vI w), (3, vI (canI ps (g_np G) n (-1) 0 0)), (5, vI p)]) C (by decide) rfl dX10_boundsOf_120 ?_
                refine j_iinc (pc := 122) (lc' := [(5, vI (p + 1)), (4, vI (orI b 0)), (6, vI 0), (0, .ref h), (1, vI n), (2, vI w), (3, vI (canI ps (g_np G) n (-1) 0 0))]) C 6 rfl (by decide) rfl dX10_boundsOf_122 ?_
                refine j_goto (pc := 125) C 54 rfl dX10_boundsOf_125 ?_
                refine j_locals (lc' := [(0, .ref h), (1, vI n), (2, vI w), (3, vI (canI ps (g_np G) n (-1) 0 0)), (4, vI (orI b 0)), (5, vI (p + 1))]) [3, 4, 5, 6, 1, 0] rfl ?_
                exact ih54 (orI b 0) (p + 1) fq_27 mq_28 f2q_29 m2q_30 (by omega) (by omega) (by rw [fo_succ _ (by omega), ← i54_1]; first | (rw [bitF_2 (by omega)]; first | (rw [mustF_y (by omega)]; done) | (rw [mustF_n (by omega) i54_2, orI_0 i54_2]; done)) | (rw [bitF_3 (by omega)]; first | (rw [mayF_y (by omega)]; done) | (rw [mayF_n (by omega) i54_2, orI_0 i54_2]; done))) (orI_in _ _) (fun q => by omega)
              · skip
                refine j_iconst (pc := 84) C dX10_boundsOf_84 ?_
                refine j_goto (pc := 85) C 102 rfl dX10_boundsOf_85 ?_
                refine j_istore (pc := 102) (lc' := [(6, vI 1), (0, .ref h), (1, vI n), (2, vI w), (3, vI (canI ps (g_np G) n (-1) 0 0)), (4, vI b), (5, vI p)]) C (by decide) rfl dX10_boundsOf_102 ?_
                refine j_iload (pc := 104) C 5 rfl dX10_boundsOf_104 ?_
                refine j_iload (pc := 106) C 0 rfl dX10_boundsOf_106 ?_
                refine j_if_eq (pc := 108) C 118 rfl (by omega) dX10_boundsOf_108 (fun h_35 => absurd h_35 (by decide)) (fun _ => ?_)
                refine j_iconst (pc := 111) C dX10_boundsOf_111 ?_
                refine j_iload (pc := 112) C 6 rfl dX10_boundsOf_112 ?_
                refine j_ishl (pc := 114) C dX10_boundsOf_114 ?_
                refine j_goto (pc := 115) C 119 rfl dX10_boundsOf_115 ?_
                refine j_ior (pc := 119) C dX10_boundsOf_119 ?_
                refine j_istore (pc := 120) (lc' := [(4, vI (orI b (shlI 1 p))), (6, vI 1), (0, .ref h), (1, vI n), (2, vI w), (3, vI (canI ps (g_np G) n (-1) 0 0)), (5, vI p)]) C (by decide) rfl dX10_boundsOf_120 ?_
                refine j_iinc (pc := 122) (lc' := [(5, vI (p + 1)), (4, vI (orI b (shlI 1 p))), (6, vI 1), (0, .ref h), (1, vI n), (2, vI w), (3, vI (canI ps (g_np G) n (-1) 0 0))]) C 6 rfl (by decide) rfl dX10_boundsOf_122 ?_
                refine j_goto (pc := 125) C 54 rfl dX10_boundsOf_125 ?_
                refine j_locals (lc' := [(0, .ref h), (1, vI n), (2, vI w), (3, vI (canI ps (g_np G) n (-1) 0 0)), (4, vI (orI b (shlI 1 p))), (5, vI (p + 1))]) [3, 4, 5, 6, 1, 0] rfl ?_
                exact ih54 (orI b (shlI 1 p)) (p + 1) fq_27 mq_28 f2q_29 m2q_30 (by omega) (by omega) (by rw [fo_succ _ (by omega), ← i54_1]; first | (rw [bitF_2 (by omega)]; first | (rw [mustF_y (by omega)]; done) | (rw [mustF_n (by omega) i54_2, orI_0 i54_2]; done)) | (rw [bitF_3 (by omega)]; first | (rw [mayF_y (by omega)]; done) | (rw [mayF_n (by omega) i54_2, orI_0 i54_2]; done))) (orI_in _ _) (fun q => by omega)
    refine j_locals (lc' := [(0, .ref h), (1, vI n), (2, vI w), (3, vI (canI ps (g_np G) n (-1) 0 0)), (4, vI 0), (5, vI 0)]) [3, 4, 5, 2, 1, 0] rfl ?_
    exact hL54 _ 0 0 fq_4 mq_5 f2q_6 m2q_7 (Nat.lt_succ_self _) (by omega) rfl (by decide) (fun _ => rfl)
  · skip
    refine j_iload_n (pc := 14) C 3 0 rfl rfl dX10_boundsOf_14 ?_
    refine j_if_ne (pc := 15) C 22 rfl (by omega) dX10_boundsOf_15 (fun h_36p15 => ?_) (fun h_36p15 => ?_)
    · skip
      refine j_iload_n (pc := 22) C 2 3 rfl rfl dX10_boundsOf_22 ?_
      refine j_if_ne (pc := 23) C 38 rfl (by omega) dX10_boundsOf_23 (fun h_37p23 => ?_) (fun h_37p23 => ?_)
      · skip
        refine j_aload_n (pc := 38) C 0 1 rfl rfl dX10_boundsOf_38 ?_
        refine j_get (pc := 39) C (Or.inr r0) rfl fX10_boundsOf_X10 31 (by decide) (List.mem_of_getElem? (i := 2) rfl) (Or.inl rfl) rfl dX10_boundsOf_39 ?_
        refine j_iload_n (pc := 42) C 1 2 rfl rfl dX10_boundsOf_42 ?_
        refine j_bipush (pc := 43) (w := (-54)) C rfl dX10_boundsOf_43 ?_
        refine j_isub (pc := 45) C dX10_boundsOf_45 ?_
        rw [show n - (-54) = n + 54 by omega]
        refine j_iald (pc := 46) C (Or.inl (List.mem_of_getElem? (i := 1) rfl)) rfl (by omega) (by decide) dX10_boundsOf_46 ?_
        exact Rt _ _ _ _ _ _ (by decide) (by decide) ⟨_, _, _, _, by first | (rw [rB_0 (by omega) (by omega)]; first | (exact ((lay_e0 (bQ_up (AQ_b (one := -1) (lo := 0) (hi := 0) hnp.1 hps) (show 9 * g_np G ≤ 54 by omega)) HA HB hn hnp.1 (by omega)) 1).symm) | (exact (lay_ef (bQ_up (AQ_b (one := -1) (lo := 0) (hi := 0) hnp.1 hps) (show 9 * g_np G ≤ 54 by omega)) HA HB hn hnp.1 (by omega)).1.symm)) | (rw [rB_1 (by omega) (by omega)]; first | (exact ((lay_e0 (bQ_up (AQ_b (one := -1) (lo := 0) (hi := 0) hnp.1 hps) (show 9 * g_np G ≤ 54 by omega)) HA HB hn hnp.1 (by omega)) (-1)).symm) | (exact (lay_ef (bQ_up (AQ_b (one := -1) (lo := 0) (hi := 0) hnp.1 hps) (show 9 * g_np G ≤ 54 by omega)) HA HB hn hnp.1 (by omega)).2.symm)), rfl⟩ dX10_boundsOf_47
      · skip
        refine j_aload_n (pc := 26) C 0 1 rfl rfl dX10_boundsOf_26 ?_
        refine j_get (pc := 27) C (Or.inr r0) rfl fX10_boundsOf_X10 30 (by decide) (List.mem_of_getElem? (i := 1) rfl) (Or.inl rfl) rfl dX10_boundsOf_27 ?_
        refine j_iload_n (pc := 30) C 1 2 rfl rfl dX10_boundsOf_30 ?_
        refine j_bipush (pc := 31) (w := (-54)) C rfl dX10_boundsOf_31 ?_
        refine j_isub (pc := 33) C dX10_boundsOf_33 ?_
        rw [show n - (-54) = n + 54 by omega]
        refine j_iald (pc := 34) C (Or.inl (List.mem_of_getElem? (i := 0) rfl)) rfl (by omega) (by decide) dX10_boundsOf_34 ?_
        refine j_goto (pc := 35) C 47 rfl dX10_boundsOf_35 ?_
        exact Rt _ _ _ _ _ _ (by decide) (by decide) ⟨_, _, _, _, by first | (rw [rB_0 (by omega) (by omega)]; first | (exact ((lay_e0 (bQ_up (AQ_b (one := -1) (lo := 0) (hi := 0) hnp.1 hps) (show 9 * g_np G ≤ 54 by omega)) HA HB hn hnp.1 (by omega)) 1).symm) | (exact (lay_ef (bQ_up (AQ_b (one := -1) (lo := 0) (hi := 0) hnp.1 hps) (show 9 * g_np G ≤ 54 by omega)) HA HB hn hnp.1 (by omega)).1.symm)) | (rw [rB_1 (by omega) (by omega)]; first | (exact ((lay_e0 (bQ_up (AQ_b (one := -1) (lo := 0) (hi := 0) hnp.1 hps) (show 9 * g_np G ≤ 54 by omega)) HA HB hn hnp.1 (by omega)) (-1)).symm) | (exact (lay_ef (bQ_up (AQ_b (one := -1) (lo := 0) (hi := 0) hnp.1 hps) (show 9 * g_np G ≤ 54 by omega)) HA HB hn hnp.1 (by omega)).2.symm)), rfl⟩ dX10_boundsOf_47
    · skip
      refine j_iconst (pc := 18) C dX10_boundsOf_18 ?_
      refine j_goto (pc := 19) C 47 rfl dX10_boundsOf_19 ?_
      exact Rt _ _ _ _ _ _ (by decide) (by decide) ⟨_, _, _, _, by rcases (show w = 0 ∨ w = 1 by omega) with q | q; { rw [rB_0 (by omega) q]; exact ((lay_e0 (bQ_up (AQ_b (one := -1) (lo := 0) (hi := 0) hnp.1 hps) (show 9 * g_np G ≤ 54 by omega)) HA HB hn hnp.1 (by omega)) 1).symm }; { rw [rB_1 (by omega) q]; exact ((lay_e0 (bQ_up (AQ_b (one := -1) (lo := 0) (hi := 0) hnp.1 hps) (show 9 * g_np G ≤ 54 by omega)) HA HB hn hnp.1 (by omega)) (-1)).symm }, rfl⟩ dX10_boundsOf_47

set_option maxHeartbeats 4000000 in
set_option maxRecDepth 100000 in
theorem m_bounds (l : Launch) (D : va_G) (Y : Nat → ClassId) (RO : va_W) (h : Nat) (r : Nat → Nat) (S : MS) (G : GS) (ps : Int → PT) (f : Int → Int) (mo : Int → Int) (f2 : Int → Int) (m2 : Int → Int) (n : Int) (w : Int) (r0 : (h, oC 9 [.ref (r 0), .ref (r 1), vI (ms_w S), vI (ms_l S), vL (ms_s S), vI (ms_a S), vI (ms_t S), vI (ms_p S), vI (g_np G), .ref (r 9), .ref (r 10), .ref (r 11), .ref (r 12), .ref (r 13), vI (g_nc G), .ref (r 15), .ref (r 16), .ref (r 17), vI (g_pl G), .ref (r 19), vI (g_ik G), vL (g_ks G), .ref (r 22), vL (g_ss G), .ref (r 24), vI (g_fa G), vI (g_iw G), vI (g_nw G), vI (g_ns G), vI (g_ne G), .ref (r 30), .ref (r 31), .ref (r 32), .ref (r 33), vL (g_h G)]) ∈ RO) (k0 : ((r 9), aI (Y 0) 6 (kof ps)) ∈ RO) (k1 : ((r 10), aI (Y 0) 6 (nof ps)) ∈ RO) (k2 : ((r 11), aI (Y 0) 6 (wof ps)) ∈ RO) (k3 : ((r 12), aI (Y 0) 6 (iof ps)) ∈ RO) (k4 : ((r 13), aI (Y 0) 6 (zof ps)) ∈ RO) (hnp : 0 ≤ g_np G ∧ g_np G ≤ 6) (hps : ∀ i, 0 ≤ i ∧ i < g_np G → okP (ps i)) (hn : -2147483648 ≤ n ∧ n ≤ 2147483647) (hw : -2147483648 ≤ w ∧ w ≤ 2147483647) : jMi l yX10_bounds wsX10_bounds { frames := 5, cells := 0, slots := 0, locals := 125 } D Y RO [.ref h, vI n, vI w] [((r 30), aI (Y 0) 271 f), ((r 31), aI (Y 0) 271 mo), ((r 32), aI (Y 0) 271 f2), ((r 33), aI (Y 0) 271 m2)] (fun e w1 => ∃ (fq mq f2q m2q : Int → Int), e = (rBounds n w (g_np G) ps) ∧ w1 = [((r 30), aI (Y 0) 271 fq), ((r 31), aI (Y 0) 271 mq), ((r 32), aI (Y 0) 271 f2q), ((r 33), aI (Y 0) 271 m2q)]) := by
  refine j_ofi RX10 rfl rfl rfl (Nat.le_of_ble_eq_true rfl) (fun X C Rt => ?_)
  refine j_iload_n (pc := 0) C 1 1 rfl rfl dX10_bounds_0 ?_
  refine j_bipush (pc := 1) (w := (-54)) C rfl dX10_bounds_1 ?_
  refine j_sipush (pc := 3) (w := 216) C rfl dX10_bounds_3 ?_
  refine j_callSi (pc := 6) (As := [vI n, vI (-54), vI 216]) (na := 3) (st := []) C [] [0, 1, 2, 3] (wr := [((r 30), aI (Y 0) 271 f), ((r 31), aI (Y 0) 271 mo), ((r 32), aI (Y 0) 271 f2), ((r 33), aI (Y 0) 271 m2)]) (fun l => m_within l D Y _ n (-54) 216 (by first | assumption | omega) (by first | assumption | omega) (by first | assumption | omega)) rfl rfl rfl rfl (by decide) rfl gX10_bounds_X10_within (by decide +kernel) (by decide) rfl rfl (Nat.le_of_ble_eq_true rfl) (by decide) dX10_bounds_6 (fun e_1 w_2 h_3 => ?_)
  obtain ⟨rfl, rfl⟩ := h_3
  refine j_perm (ws' := [((r 30), aI (Y 0) 271 f), ((r 31), aI (Y 0) 271 mo), ((r 32), aI (Y 0) 271 f2), ((r 33), aI (Y 0) 271 m2)]) [0, 1, 2, 3] rfl rfl ?_
  refine j_if_eqb (pc := 9) C 30 rfl dX10_bounds_9 (fun h_4p9 => ?_) (fun h_4p9 => ?_)
  · skip
    refine j_bipush (pc := 30) (w := (-102)) C rfl dX10_bounds_30 ?_
    exact Rt _ _ _ _ _ _ (by decide) (by decide) ⟨_, _, _, _, by first | (rw [rB_o (by omega)]; done) | (rw [rB_w (by omega)]; done), rfl⟩ dX10_bounds_32
  · skip
    refine j_iload_n (pc := 12) C 2 2 rfl rfl dX10_bounds_12 ?_
    refine j_iconst (pc := 13) C dX10_bounds_13 ?_
    refine j_iconst (pc := 14) C dX10_bounds_14 ?_
    refine j_callSi (pc := 15) (As := [vI w, vI 0, vI 3]) (na := 3) (st := []) C [] [0, 1, 2, 3] (wr := [((r 30), aI (Y 0) 271 f), ((r 31), aI (Y 0) 271 mo), ((r 32), aI (Y 0) 271 f2), ((r 33), aI (Y 0) 271 m2)]) (fun l => m_within l D Y _ w 0 3 (by first | assumption | omega) (by first | assumption | omega) (by first | assumption | omega)) rfl rfl rfl rfl (by decide) rfl gX10_bounds_X10_within (by decide +kernel) (by decide) rfl rfl (Nat.le_of_ble_eq_true rfl) (by decide) dX10_bounds_15 (fun e_5 w_6 h_7 => ?_)
    obtain ⟨rfl, rfl⟩ := h_7
    refine j_perm (ws' := [((r 30), aI (Y 0) 271 f), ((r 31), aI (Y 0) 271 mo), ((r 32), aI (Y 0) 271 f2), ((r 33), aI (Y 0) 271 m2)]) [0, 1, 2, 3] rfl rfl ?_
    refine j_if_eqb (pc := 18) C 30 rfl dX10_bounds_18 (fun h_8p18 => ?_) (fun h_8p18 => ?_)
    · skip
      refine j_bipush (pc := 30) (w := (-102)) C rfl dX10_bounds_30 ?_
      exact Rt _ _ _ _ _ _ (by decide) (by decide) ⟨_, _, _, _, by first | (rw [rB_o (by omega)]; done) | (rw [rB_w (by omega)]; done), rfl⟩ dX10_bounds_32
    · skip
      refine j_aload_n (pc := 21) C 0 0 rfl rfl dX10_bounds_21 ?_
      refine j_iload_n (pc := 22) C 1 1 rfl rfl dX10_bounds_22 ?_
      refine j_iload_n (pc := 23) C 2 2 rfl rfl dX10_bounds_23 ?_
      refine j_callVi (pc := 24) (As := [vI n, vI w]) (na := 2) (st := []) C [0, 1, 2, 3] [] (wr := []) (fun l => m_boundsOf l D Y _ h r S G ps f mo f2 m2 n w (List.mem_append_right _ r0) (List.mem_append_right _ k0) (List.mem_append_right _ k1) (List.mem_append_right _ k2) (List.mem_append_right _ k3) (List.mem_append_right _ k4) (by first | assumption | omega) (by first | assumption | omega) (by first | assumption | omega) (by first | assumption | omega)) rfl rfl rfl rfl (by decide) rfl (Or.inr (List.mem_append_right _ r0)) rfl gX10_bounds_X10_boundsOf ⟨rfl, by decide +kernel⟩ (by decide) rfl rfl (Nat.le_of_ble_eq_true rfl) (by decide) dX10_bounds_24 (fun e_9 w_10 h_11 => ?_)
      obtain ⟨fq_12, mq_13, f2q_14, m2q_15, rfl, rfl⟩ := h_11
      refine j_perm (ws' := [((r 30), aI (Y 0) 271 fq_12), ((r 31), aI (Y 0) 271 mq_13), ((r 32), aI (Y 0) 271 f2q_14), ((r 33), aI (Y 0) 271 m2q_15)]) [0, 1, 2, 3] rfl rfl ?_
      refine j_goto (pc := 27) C 32 rfl dX10_bounds_27 ?_
      exact Rt _ _ _ _ _ _ (by decide) (by decide) ⟨_, _, _, _, rfl, rfl⟩ dX10_bounds_32
