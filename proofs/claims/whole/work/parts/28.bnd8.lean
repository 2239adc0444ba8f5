theorem fX10_layNets_X10 : ∀ w ∈ u_ws RX10 TX10 35, w ∈ wsX10_layNets := j_words [32, 33, 34, 35, 36, 37, 38, 39, 40, 41, 42, 43, 44, 45, 46, 47, 48, 49, 50, 51, 52, 53, 54, 55, 56, 57, 58, 59, 60, 61, 62, 63, 64, 65, 66] (by decide +kernel)
set_option maxHeartbeats 4000000 in
set_option maxRecDepth 100000 in
theorem m_layNets (l : Launch) (D : va_G) (Y : Nat → ClassId) (RO : va_W) (h : Nat) (r : Nat → Nat) (S : MS) (G : GS) (ps : Int → PT) (f : Int → Int) (mo : Int → Int) (f2 : Int → Int) (m2 : Int → Int) (one : Int) (lo : Int) (hi : Int) (r0 : (h, oC 9 [.ref (r 0), .ref (r 1), vI (ms_w S), vI (ms_l S), vL (ms_s S), vI (ms_a S), vI (ms_t S), vI (ms_p S), vI (g_np G), .ref (r 9), .ref (r 10), .ref (r 11), .ref (r 12), .ref (r 13), vI (g_nc G), .ref (r 15), .ref (r 16), .ref (r 17), vI (g_pl G), .ref (r 19), vI (g_ik G), vL (g_ks G), .ref (r 22), vL (g_ss G), .ref (r 24), vI (g_fa G), vI (g_iw G), vI (g_nw G), vI (g_ns G), vI (g_ne G), .ref (r 30), .ref (r 31), .ref (r 32), .ref (r 33), vL (g_h G)]) ∈ RO) (k0 : ((r 9), aI (Y 0) 6 (kof ps)) ∈ RO) (k1 : ((r 10), aI (Y 0) 6 (nof ps)) ∈ RO) (k2 : ((r 11), aI (Y 0) 6 (wof ps)) ∈ RO) (k3 : ((r 12), aI (Y 0) 6 (iof ps)) ∈ RO) (k4 : ((r 13), aI (Y 0) 6 (zof ps)) ∈ RO) (hnp : 0 ≤ g_np G ∧ g_np G ≤ 6) (hps : ∀ i, 0 ≤ i ∧ i < g_np G → okP (ps i)) (ho : -2147483648 ≤ one ∧ one ≤ 2147483647) (hlo : -1 ≤ lo ∧ lo ≤ 10) (hhi : -1 ≤ hi ∧ hi ≤ 10) : jMv l yX10_layNets wsX10_layNets { frames := 2, cells := 0, slots := 0, locals := 48 } D Y RO [.ref h, vI one, vI lo, vI hi] [((r 30), aI (Y 0) 271 f), ((r 31), aI (Y 0) 271 mo), ((r 32), aI (Y 0) 271 f2), ((r 33), aI (Y 0) 271 m2)] (fun w1 => ∃ (fq mq f2q m2q : Int → Int), w1 = [((r 30), aI (Y 0) 271 fq), ((r 31), aI (Y 0) 271 mq), ((r 32), aI (Y 0) 271 f2q), ((r 33), aI (Y 0) 271 m2q)] ∧ mtI 1 268435456 (AC 1 (AQ ps one lo hi (g_np G))) fq ∧ mtI (-1) (-1) (AC 1 (AQ ps one lo hi (g_np G))) mq) := by
  refine j_ofv RX10 rfl rfl rfl (Nat.le_of_ble_eq_true rfl) (fun X C Rt hI => ?_)
  refine j_iconst (pc := 0) C dX10_layNets_0 ?_
  refine j_istore (pc := 1) (lc' := [(4, vI 0), (0, .ref h), (1, vI one), (2, vI lo), (3, vI hi)]) C (by decide) rfl dX10_layNets_1 ?_
  have hL3 : ∀ (N3 : Nat) (k : Int) (z1 : Int → Int) (z2 : Int → Int), ((271 - k).toNat) < N3 → (0 ≤ k ∧ k ≤ 271) → (∀ j : Int, 0 ≤ j → j < k → z1 j = nf0 j) → (∀ j : Int, 0 ≤ j → j < k → z2 j = nm0 j) → jW X 8 0 0 [((r 30), aI (Y 0) 271 z1), ((r 31), aI (Y 0) 271 z2), ((r 32), aI (Y 0) 271 f2), ((r 33), aI (Y 0) 271 m2)] [(0, .ref h), (1, vI one), (2, vI lo), (3, vI hi), (4, vI k)] 3 [] := by
    intro N3
    induction N3 with
    | zero => intro k z1 z2 hm3 i3_0 i3_1 i3_2; omega
    | succ N3 ih3 =>
      intro k z1 z2 hm3 i3_0 i3_1 i3_2
      refine j_iload (pc := 3) C 4 rfl dX10_layNets_3 ?_
      refine j_sipush (pc := 5) (w := 271) C rfl dX10_layNets_5 ?_
      refine j_icmp_ge (pc := 8) C 56 rfl (by omega) dX10_layNets_8 (fun h_1p8 => ?_) (fun h_1p8 => ?_)
      · skip
        refine j_ext (ws' := [((r 30), aI (Y 0) 271 nf0), ((r 31), aI (Y 0) 271 z2), ((r 32), aI (Y 0) 271 f2), ((r 33), aI (Y 0) 271 m2)]) 0 rfl (fun j hj => i3_1 j hj.1 (by omega)) rfl ?_
        refine j_ext (ws' := [((r 30), aI (Y 0) 271 nf0), ((r 31), aI (Y 0) 271 nm0), ((r 32), aI (Y 0) 271 f2), ((r 33), aI (Y 0) 271 m2)]) 1 rfl (fun j hj => i3_2 j hj.1 (by omega)) rfl ?_
        refine j_iconst (pc := 56) C dX10_layNets_56 ?_
        refine j_istore (pc := 57) (lc' := [(4, vI 0), (0, .ref h), (1, vI one), (2, vI lo), (3, vI hi)]) C (by decide) rfl dX10_layNets_57 ?_
        have hL59 : ∀ (N59 : Nat) (p : Int) (z1 : Int → Int) (z2 : Int → Int) (z3 : Int → Int) (z4 : Int → Int), ((g_np G - p).toNat) < N59 → (0 ≤ p ∧ p ≤ g_np G) → (mtI 1 268435456 (AC 1 (AQ ps one lo hi p)) z1) → (mtI (-1) (-1) (AC 1 (AQ ps one lo hi p)) z2) → jW X 8 0 0 [((r 30), aI (Y 0) 271 z1), ((r 31), aI (Y 0) 271 z2), ((r 32), aI (Y 0) 271 z3), ((r 33), aI (Y 0) 271 z4)] [(0, .ref h), (1, vI one), (2, vI lo), (3, vI hi), (4, vI p)] 59 [] := by
          intro N59
          induction N59 with
          | zero => intro p z1 z2 z3 z4 hm59 i59_0 i59_1 i59_2; omega
          | succ N59 ih59 =>
            intro p z1 z2 z3 z4 hm59 i59_0 i59_1 i59_2
            refine j_iload (pc := 59) C 4 rfl dX10_layNets_59 ?_
            refine j_aload_n (pc := 61) C 0 0 rfl rfl dX10_layNets_61 ?_
            refine j_get (pc := 62) C (Or.inr r0) rfl fX10_layNets_X10 8 (by decide) (List.mem_of_getElem? (i := 4) rfl) (Or.inl rfl) rfl dX10_layNets_62 ?_
            refine j_icmp_ge (pc := 65) C 255 rfl (by omega) dX10_layNets_65 (fun h_2p65 => ?_) (fun h_2p65 => ?_)
            · skip
              exact Rt _ _ _ _ _ (by decide) (by decide) ⟨_, _, _, _, rfl, by rw [show g_np G = p by omega]; exact i59_1, by rw [show g_np G = p by omega]; exact i59_2⟩ dX10_layNets_255
            · skip
              have hPp := hps p (by omega)
              have hPw := hPp.2.2.2.2.1
              have hgi := giftP_in hPp
              have hli := lossP_in (ps p)
              refine j_iconst (pc := 68) C dX10_layNets_68 ?_
              refine j_istore (pc := 69) (lc' := [(5, vI 0), (0, .ref h), (1, vI one), (2, vI lo), (3, vI hi), (4, vI p)]) C (by decide) rfl dX10_layNets_69 ?_
              have hL71 : ∀ (N71 : Nat) (kx : Int) (w3 : Int → Int) (w4 : Int → Int), ((271 - kx).toNat) < N71 → (0 ≤ kx ∧ kx ≤ 271) → (∀ j : Int, 0 ≤ j → j < kx → w3 j = (fun _ => 268435456) j) → (∀ j : Int, 0 ≤ j → j < kx → w4 j = (fun _ => -1) j) → jW X 8 0 0 [((r 30), aI (Y 0) 271 z1), ((r 31), aI (Y 0) 271 z2), ((r 32), aI (Y 0) 271 w3), ((r 33), aI (Y 0) 271 w4)] [(0, .ref h), (1, vI one), (2, vI lo), (3, vI hi), (4, vI p), (5, vI kx)] 71 [] := by
                intro N71
                induction N71 with
                | zero => intro kx w3 w4 hm71 i71_0 i71_1 i71_2; omega
                | succ N71 ih71 =>
                  intro kx w3 w4 hm71 i71_0 i71_1 i71_2
                  refine j_iload (pc := 71) C 5 rfl dX10_layNets_71 ?_
                  refine j_sipush (pc := 73) (w := 271) C rfl dX10_layNets_73 ?_
                  refine j_icmp_ge (pc := 76) C 102 rfl (by omega) dX10_layNets_76 (fun h_3p76 => ?_) (fun h_3p76 => ?_)
                  · skip
                    refine j_ext (ws' := [((r 30), aI (Y 0) 271 z1), ((r 31), aI (Y 0) 271 z2), ((r 32), aI (Y 0) 271 (fun _ => 268435456)), ((r 33), aI (Y 0) 271 w4)]) 2 rfl (fun j hj => i71_1 j hj.1 (by omega)) rfl ?_
                    refine j_ext (ws' := [((r 30), aI (Y 0) 271 z1), ((r 31), aI (Y 0) 271 z2), ((r 32), aI (Y 0) 271 (fun _ => 268435456)), ((r 33), aI (Y 0) 271 (fun _ => -1))]) 3 rfl (fun j hj => i71_2 j hj.1 (by omega)) rfl ?_
                    refine j_iconst (pc := 102) C dX10_layNets_102 ?_
                    refine j_istore (pc := 103) (lc' := [(5, vI 0), (0, .ref h), (1, vI one), (2, vI lo), (3, vI hi), (4, vI p)]) C (by decide) rfl dX10_layNets_103 ?_
                    have hL105 : ∀ (N105 : Nat) (w : Int) (u3 : Int → Int) (u4 : Int → Int), ((pw (ps p) + 1 - w).toNat) < N105 → (0 ≤ w ∧ w ≤ pw (ps p) + 1) → (mtI 1 268435456 (NO z1 z1 (ps p) p one lo hi w 0) u3) → (mtI (-1) (-1) (NO z1 z2 (ps p) p one lo hi w 0) u4) → (∀ j, 0 ≤ j ∧ j < 271 → 0 ≤ u3 j ∧ u3 j ≤ 268435456) → (∀ j, 0 ≤ j ∧ j < 271 → -1 ≤ u4 j ∧ u4 j ≤ 1000) → jW X 8 0 0 [((r 30), aI (Y 0) 271 z1), ((r 31), aI (Y 0) 271 z2), ((r 32), aI (Y 0) 271 u3), ((r 33), aI (Y 0) 271 u4)] [(0, .ref h), (1, vI one), (2, vI lo), (3, vI hi), (4, vI p), (5, vI w)] 105 [] := by
                      intro N105
                      induction N105 with
                      | zero => intro w u3 u4 hm105 i105_0 i105_1 i105_2 i105_3 i105_4; omega
                      | succ N105 ih105 =>
                        intro w u3 u4 hm105 i105_0 i105_1 i105_2 i105_3 i105_4
                        refine j_iload (pc := 105) C 5 rfl dX10_layNets_105 ?_
                        refine j_aload_n (pc := 107) C 0 0 rfl rfl dX10_layNets_107 ?_
                        refine j_get (pc := 108) C (Or.inr r0) rfl fX10_layNets_X10 11 (by decide) (List.mem_of_getElem? (i := 7) rfl) (Or.inl rfl) rfl dX10_layNets_108 ?_
                        refine j_iload (pc := 111) C 4 rfl dX10_layNets_111 ?_
                        refine j_iald (pc := 113) C (Or.inr k2) rfl (by omega) (by decide) dX10_layNets_113 ?_
                        refine j_st (st' := [vI (pw (ps p)), vI w]) rfl rfl rfl ?_
                        refine j_icmp_gt (pc := 114) C 204 rfl (by omega) dX10_layNets_114 (fun h_4p114 => ?_) (fun h_4p114 => ?_)
                        · skip
                          refine j_iconst (pc := 204) C dX10_layNets_204 ?_
                          refine j_istore (pc := 205) (lc' := [(5, vI 0), (0, .ref h), (1, vI one), (2, vI lo), (3, vI hi), (4, vI p)]) C (by decide) rfl dX10_layNets_205 ?_
                          have hL207 : ∀ (N207 : Nat) (ky : Int) (y1 : Int → Int) (y2 : Int → Int), ((271 - ky).toNat) < N207 → (0 ≤ ky ∧ ky ≤ 271) → (∀ j : Int, 0 ≤ j → j < ky → y1 j = u3 j) → (∀ j : Int, 0 ≤ j → j < ky → y2 j = u4 j) → jW X 8 0 0 [((r 30), aI (Y 0) 271 y1), ((r 31), aI (Y 0) 271 y2), ((r 32), aI (Y 0) 271 u3), ((r 33), aI (Y 0) 271 u4)] [(0, .ref h), (1, vI one), (2, vI lo), (3, vI hi), (4, vI p), (5, vI ky)] 207 [] := by
                            intro N207
                            induction N207 with
                            | zero => intro ky y1 y2 hm207 i207_0 i207_1 i207_2; omega
                            | succ N207 ih207 =>
                              intro ky y1 y2 hm207 i207_0 i207_1 i207_2
                              refine j_iload (pc := 207) C 5 rfl dX10_layNets_207 ?_
                              refine j_sipush (pc := 209) (w := 271) C rfl dX10_layNets_209 ?_
                              refine j_icmp_ge (pc := 212) C 249 rfl (by omega) dX10_layNets_212 (fun h_5p212 => ?_) (fun h_5p212 => ?_)
                              · skip
                                refine j_ext (ws' := [((r 30), aI (Y 0) 271 u3), ((r 31), aI (Y 0) 271 y2), ((r 32), aI (Y 0) 271 u3), ((r 33), aI (Y 0) 271 u4)]) 0 rfl (fun j hj => i207_1 j hj.1 (by omega)) rfl ?_
                                refine j_ext (ws' := [((r 30), aI (Y 0) 271 u3), ((r 31), aI (Y 0) 271 u4), ((r 32), aI (Y 0) 271 u3), ((r 33), aI (Y 0) 271 u4)]) 1 rfl (fun j hj => i207_2 j hj.1 (by omega)) rfl ?_
                                refine j_iinc (pc := 249) (lc' := [(4, vI (p + 1)), (0, .ref h), (1, vI one), (2, vI lo), (3, vI hi), (5, vI ky)]) C 4 rfl (by decide) rfl dX10_layNets_249 ?_
                                refine j_goto (pc := 252) C 59 rfl dX10_layNets_252 ?_
                                refine j_locals (lc' := [(0, .ref h), (1, vI one), (2, vI lo), (3, vI hi), (4, vI (p + 1))]) [1, 2, 3, 4, 0] rfl ?_
                                exact ih59 (p + 1) u3 u4 u3 u4 (by omega) (by omega) (by rw [AQ_succ _ _ _ _ (by omega)]; exact mt_lay (Or.inl rfl) (hps p (by omega)) (bQ_up (AQ_b (one := one) (lo := lo) (hi := hi) (show 0 ≤ p by omega) (fun q hq => hps q (by omega))) (show 9 * p ≤ 45 by omega)) (lay_f (bQ_up (AQ_b (one := one) (lo := lo) (hi := hi) (show 0 ≤ p by omega) (fun q hq => hps q (by omega))) (show 9 * p ≤ 54 by omega)) i59_1 i59_2) i59_1 (by rw [show pw (ps p) + 1 = w by omega]; exact i105_1)) (by rw [AQ_succ _ _ _ _ (by omega)]; exact mt_lay (Or.inr rfl) (hps p (by omega)) (bQ_up (AQ_b (one := one) (lo := lo) (hi := hi) (show 0 ≤ p by omega) (fun q hq => hps q (by omega))) (show 9 * p ≤ 45 by omega)) (lay_f (bQ_up (AQ_b (one := one) (lo := lo) (hi := hi) (show 0 ≤ p by omega) (fun q hq => hps q (by omega))) (show 9 * p ≤ 54 by omega)) i59_1 i59_2) i59_2 (by rw [show pw (ps p) + 1 = w by omega]; exact i105_2))
                              · skip
                                refine j_aload_n (pc := 215) C 0 0 rfl rfl dX10_layNets_215 ?_
                                refine j_get (pc := 216) C (Or.inr r0) rfl fX10_layNets_X10 30 (by decide) (List.mem_of_getElem? (i := 1) rfl) (Or.inl rfl) rfl dX10_layNets_216 ?_
                                refine j_iload (pc := 219) C 5 rfl dX10_layNets_219 ?_
                                refine j_aload_n (pc := 221) C 0 0 rfl rfl dX10_layNets_221 ?_
                                refine j_get (pc := 222) C (Or.inr r0) rfl fX10_layNets_X10 32 (by decide) (List.mem_of_getElem? (i := 5) rfl) (Or.inl rfl) rfl dX10_layNets_222 ?_
                                refine j_iload (pc := 225) C 5 rfl dX10_layNets_225 ?_
                                refine j_iald (pc := 227) C (Or.inl (List.mem_of_getElem? (i := 2) rfl)) rfl (by omega) (by decide) dX10_layNets_227 ?_
                                refine j_iast (pc := 228) (ws' := [((r 30), aI (Y 0) 271 (up y1 ky (u3 ky))), ((r 31), aI (Y 0) 271 y2), ((r 32), aI (Y 0) 271 u3), ((r 33), aI (Y 0) 271 u4)]) C 0 rfl rfl (by omega) (by decide) rfl dX10_layNets_228 ?_
                                refine j_aload_n (pc := 229) C 0 0 rfl rfl dX10_layNets_229 ?_
                                refine j_get (pc := 230) C (Or.inr r0) rfl fX10_layNets_X10 31 (by decide) (List.mem_of_getElem? (i := 3) rfl) (Or.inl rfl) rfl dX10_layNets_230 ?_
                                refine j_iload (pc := 233) C 5 rfl dX10_layNets_233 ?_
                                refine j_aload_n (pc := 235) C 0 0 rfl rfl dX10_layNets_235 ?_
                                refine j_get (pc := 236) C (Or.inr r0) rfl fX10_layNets_X10 33 (by decide) (List.mem_of_getElem? (i := 6) rfl) (Or.inl rfl) rfl dX10_layNets_236 ?_
                                refine j_iload (pc := 239) C 5 rfl dX10_layNets_239 ?_
                                refine j_iald (pc := 241) C (Or.inl (List.mem_of_getElem? (i := 3) rfl)) rfl (by omega) (by decide) dX10_layNets_241 ?_
                                refine j_iast (pc := 242) (ws' := [((r 30), aI (Y 0) 271 (up y1 ky (u3 ky))), ((r 31), aI (Y 0) 271 (up y2 ky (u4 ky))), ((r 32), aI (Y 0) 271 u3), ((r 33), aI (Y 0) 271 u4)]) C 1 rfl rfl (by omega) (by decide) rfl dX10_layNets_242 ?_
                                refine j_iinc (pc := 243) (lc' := [(5, vI (ky + 1)), (0, .ref h), (1, vI one), (2, vI lo), (3, vI hi), (4, vI p)]) C 5 rfl (by decide) rfl dX10_layNets_243 ?_
                                refine j_goto (pc := 246) C 207 rfl dX10_layNets_246 ?_
                                refine j_locals (lc' := [(0, .ref h), (1, vI one), (2, vI lo), (3, vI hi), (4, vI p), (5, vI (ky + 1))]) [1, 2, 3, 4, 5, 0] rfl ?_
                                exact ih207 (ky + 1) (up y1 ky (u3 ky)) (up y2 ky (u4 ky)) (by omega) (by omega) (up_agree i207_1) (up_agree i207_2)
                          refine j_locals (lc' := [(0, .ref h), (1, vI one), (2, vI lo), (3, vI hi), (4, vI p), (5, vI 0)]) [1, 2, 3, 4, 5, 0] rfl ?_
                          exact hL207 _ 0 z1 z2 (Nat.lt_succ_self _) (by omega) (fun j h0 h1 => by omega) (fun j h0 h1 => by omega)
                        · skip
                          refine j_iconst (pc := 117) C dX10_layNets_117 ?_
                          refine j_istore (pc := 118) (lc' := [(6, vI 0), (0, .ref h), (1, vI one), (2, vI lo), (3, vI hi), (4, vI p), (5, vI w)]) C (by decide) rfl dX10_layNets_118 ?_
                          have hL120 : ∀ (N120 : Nat) (s : Int) (v3 : Int → Int) (v4 : Int → Int), ((pw (ps p) - w + 1 - s).toNat) < N120 → (0 ≤ s ∧ s ≤ pw (ps p) - w + 1) → (mtI 1 268435456 (NO z1 z1 (ps p) p one lo hi w s) v3) → (mtI (-1) (-1) (NO z1 z2 (ps p) p one lo hi w s) v4) → (∀ j, 0 ≤ j ∧ j < 271 → 0 ≤ v3 j ∧ v3 j ≤ 268435456) → (∀ j, 0 ≤ j ∧ j < 271 → -1 ≤ v4 j ∧ v4 j ≤ 1000) → jW X 8 0 0 [((r 30), aI (Y 0) 271 z1), ((r 31), aI (Y 0) 271 z2), ((r 32), aI (Y 0) 271 v3), ((r 33), aI (Y 0) 271 v4)] [(0, .ref h), (1, vI one), (2, vI lo), (3, vI hi), (4, vI p), (5, vI w), (6, vI s)] 120 [] := by
                            intro N120
                            induction N120 with
                            | zero => intro s v3 v4 hm120 i120_0 i120_1 i120_2 i120_3 i120_4; omega
                            | succ N120 ih120 =>
                              intro s v3 v4 hm120 i120_0 i120_1 i120_2 i120_3 i120_4
                              refine j_iload (pc := 120) C 6 rfl dX10_layNets_120 ?_
                              refine j_iload (pc := 122) C 5 rfl dX10_layNets_122 ?_
                              refine j_iadd (pc := 124) C dX10_layNets_124 ?_
                              refine j_aload_n (pc := 125) C 0 0 rfl rfl dX10_layNets_125 ?_
                              refine j_get (pc := 126) C (Or.inr r0) rfl fX10_layNets_X10 11 (by decide) (List.mem_of_getElem? (i := 7) rfl) (Or.inl rfl) rfl dX10_layNets_126 ?_
                              refine j_iload (pc := 129) C 4 rfl dX10_layNets_129 ?_
                              refine j_iald (pc := 131) C (Or.inr k2) rfl (by omega) (by decide) dX10_layNets_131 ?_
                              refine j_st (st' := [vI (pw (ps p)), vI (s + w)]) rfl rfl rfl ?_
                              refine j_icmp_gt (pc := 132) C 198 rfl (by omega) dX10_layNets_132 (fun h_6p132 => ?_) (fun h_6p132 => ?_)
                              · skip
                                refine j_iinc (pc := 198) (lc' := [(5, vI (w + 1)), (0, .ref h), (1, vI one), (2, vI lo), (3, vI hi), (4, vI p), (6, vI s)]) C 5 rfl (by decide) rfl dX10_layNets_198 ?_
                                refine j_goto (pc := 201) C 105 rfl dX10_layNets_201 ?_
                                refine j_locals (lc' := [(0, .ref h), (1, vI one), (2, vI lo), (3, vI hi), (4, vI p), (5, vI (w + 1))]) [1, 2, 3, 4, 5, 0] rfl ?_
                                exact ih105 (w + 1) v3 v4 (by omega) (by omega) (NO_e (Or.inl rfl) i120_1 (by omega)) (NO_e (Or.inr rfl) i120_2 (by omega)) i120_3 i120_4
                              · skip
                                refine j_iload (pc := 135) C 4 rfl dX10_layNets_135 ?_
                                refine j_iload_n (pc := 137) C 1 1 rfl rfl dX10_layNets_137 ?_
                                refine j_icmp_ne (pc := 138) C 151 rfl (by omega) dX10_layNets_138 (fun h_7p138 => ?_) (fun h_7p138 => ?_)
                                · skip
                                  refine j_iconst (pc := 151) C dX10_layNets_151 ?_
                                  refine j_goto (pc := 152) C 156 rfl dX10_layNets_152 ?_
                                  refine j_istore (pc := 156) (lc' := [(7, vI 1), (0, .ref h), (1, vI one), (2, vI lo), (3, vI hi), (4, vI p), (5, vI w), (6, vI s)]) C (by decide) rfl dX10_layNets_156 ?_
                                  refine j_iload (pc := 158) C 0 rfl dX10_layNets_158 ?_
                                  refine j_if_eq (pc := 160) C 192 rfl (by omega) dX10_layNets_160 (fun h_8 => absurd h_8 (by decide)) (fun _ => ?_)
                                  have hgw := gw_in hPp (show 0 ≤ w by omega)
                                  have hls := ls_in (P := ps p) (show 0 ≤ s by omega)
                                  refine j_aload_n (pc := 163) C 0 1 rfl rfl dX10_layNets_163 ?_
                                  refine j_iload (pc := 164) C 5 rfl dX10_layNets_164 ?_
                                  refine j_iload (pc := 166) C 6 rfl dX10_layNets_166 ?_
                                  refine j_iload (pc := 168) C 7 rfl dX10_layNets_168 ?_
                                  refine j_callVi (pc := 170) (As := [vI p, vI w, vI s]) (na := 3) (st := []) C [] [0, 1, 2, 3] (wr := [((r 30), aI (Y 0) 271 z1), ((r 31), aI (Y 0) 271 z2), ((r 32), aI (Y 0) 271 v3), ((r 33), aI (Y 0) 271 v4)]) (fun l => m_canBe l D Y _ h r S G ps p w s (List.mem_append_right _ r0) (List.mem_append_right _ k2) (List.mem_append_right _ k3) (List.mem_append_right _ k4) (by omega) hPp (by omega) (by omega)) rfl rfl rfl rfl (by decide) rfl (Or.inr (List.mem_append_right _ r0)) rfl gX10_layNets_X10_canBe ⟨rfl, by decide +kernel⟩ (by decide) rfl rfl (Nat.le_of_ble_eq_true rfl) (by decide) dX10_layNets_170 (fun e_9 w_10 h_11 => ?_)
                                  obtain ⟨rfl, rfl⟩ := h_11
                                  refine j_perm (ws' := [((r 30), aI (Y 0) 271 z1), ((r 31), aI (Y 0) 271 z2), ((r 32), aI (Y 0) 271 v3), ((r 33), aI (Y 0) 271 v4)]) [0, 1, 2, 3] rfl rfl ?_
                                  refine j_if_eqb (pc := 173) C 192 rfl dX10_layNets_173 (fun h_12p173 => ?_) (fun h_12p173 => ?_)
                                  · skip
                                    refine j_iinc (pc := 192) (lc' := [(6, vI (s + 1)), (7, vI 1), (0, .ref h), (1, vI one), (2, vI lo), (3, vI hi), (4, vI p), (5, vI w)]) C 7 rfl (by decide) rfl dX10_layNets_192 ?_
                                    refine j_goto (pc := 195) C 120 rfl dX10_layNets_195 ?_
                                    refine j_locals (lc' := [(0, .ref h), (1, vI one), (2, vI lo), (3, vI hi), (4, vI p), (5, vI w), (6, vI (s + 1))]) [2, 3, 4, 5, 6, 7, 0] rfl ?_
                                    exact ih120 (s + 1) v3 v4 (by omega) (by omega) (by first | exact NO_n (Or.inl rfl) i120_1 (by intro q; have q1 := q.1; have q2 := q.2; revert q1 q2; omega) | exact NO_y (Or.inl rfl) (by omega) (by omega) i120_1 ⟨by assumption, by intro q; omega⟩ (lay_s1 (bQ_up (AQ_b (one := one) (lo := lo) (hi := hi) (show 0 ≤ p by omega) (fun q hq => hps q (by omega))) (show 9 * p ≤ 54 by omega)) i59_1 i59_2 (by omega))) (by first | exact NO_n (Or.inr rfl) i120_2 (by intro q; have q1 := q.1; have q2 := q.2; revert q1 q2; omega) | exact NO_y (Or.inr rfl) (by omega) (by omega) i120_2 ⟨by assumption, by intro q; omega⟩ (lay_s2 (bQ_up (AQ_b (one := one) (lo := lo) (hi := hi) (show 0 ≤ p by omega) (fun q hq => hps q (by omega))) (show 9 * p ≤ 54 by omega)) i59_1 i59_2 (by omega))) (by first | exact i120_3 | exact ways_r1 (lay_r1 (bQ_up (AQ_b (one := one) (lo := lo) (hi := hi) (show 0 ≤ p by omega) (fun q hq => hps q (by omega))) (show 9 * p ≤ 54 by omega)) i59_1 i59_2) (by omega) i120_3) (by first | exact i120_4 | exact ways_r2 (lay_r2 (bQ_up (AQ_b (one := one) (lo := lo) (hi := hi) (show 0 ≤ p by omega) (fun q hq => hps q (by omega))) (show 9 * p ≤ 54 by omega)) i59_1 i59_2) (by omega) i120_4)
                                  · skip
                                    refine j_aload_n (pc := 176) C 0 1 rfl rfl dX10_layNets_176 ?_
                                    refine j_aload_n (pc := 177) C 0 1 rfl rfl dX10_layNets_177 ?_
                                    refine j_iload (pc := 178) C 5 rfl dX10_layNets_178 ?_
                                    refine j_iload (pc := 180) C 6 rfl dX10_layNets_180 ?_
                                    refine j_iload (pc := 182) C 7 rfl dX10_layNets_182 ?_
                                    refine j_callVi (pc := 184) (As := [vI p, vI w, vI s]) (na := 3) (st := [.ref h]) C [] [0, 1, 2, 3] (wr := [((r 30), aI (Y 0) 271 z1), ((r 31), aI (Y 0) 271 z2), ((r 32), aI (Y 0) 271 v3), ((r 33), aI (Y 0) 271 v4)]) (fun l => m_netOf l D Y _ h r S G ps p w s (List.mem_append_right _ r0) (List.mem_append_right _ k0) (List.mem_append_right _ k1) (by omega) hPp (by omega) (by omega)) rfl rfl rfl rfl (by decide) rfl (Or.inr (List.mem_append_right _ r0)) rfl gX10_layNets_X10_netOf ⟨rfl, by decide +kernel⟩ (by decide) rfl rfl (Nat.le_of_ble_eq_true rfl) (by decide) dX10_layNets_184 (fun e_13 w_14 h_15 => ?_)
                                    obtain ⟨rfl, rfl⟩ := h_15
                                    refine j_perm (ws' := [((r 30), aI (Y 0) 271 z1), ((r 31), aI (Y 0) 271 z2), ((r 32), aI (Y 0) 271 v3), ((r 33), aI (Y 0) 271 v4)]) [0, 1, 2, 3] rfl rfl ?_
                                    refine j_iload (pc := 187) C 7 rfl dX10_layNets_187 ?_
                                    refine j_callVv (pc := 189) (As := [vI (giftP (ps p) * w - lossP (ps p) * s), vI s]) (na := 2) (st := []) C [2, 3] [0, 1] (wr := [((r 30), aI (Y 0) 271 z1), ((r 31), aI (Y 0) 271 z2)]) (fun l => m_addWay l D Y _ h r S G z1 z2 v3 v4 (giftP (ps p) * w - lossP (ps p) * s) s (List.mem_append_right _ r0) (List.mem_append_left _ (List.mem_of_getElem? (i := 0) rfl)) (List.mem_append_left _ (List.mem_of_getElem? (i := 1) rfl)) (by omega) (by omega) (lay_r1 (bQ_up (AQ_b (one := one) (lo := lo) (hi := hi) (show 0 ≤ p by omega) (fun q hq => hps q (by omega))) (show 9 * p ≤ 54 by omega)) i59_1 i59_2) (lay_r2 (bQ_up (AQ_b (one := one) (lo := lo) (hi := hi) (show 0 ≤ p by omega) (fun q hq => hps q (by omega))) (show 9 * p ≤ 54 by omega)) i59_1 i59_2) i120_3 i120_4) rfl rfl rfl rfl (by decide) rfl (Or.inr (List.mem_append_right _ r0)) rfl gX10_layNets_X10_addWay ⟨rfl, by decide +kernel⟩ (by decide) rfl rfl (Nat.le_of_ble_eq_true rfl) (by decide) dX10_layNets_189 (fun w_17 h_18 => ?_)
                                    subst h_18
                                    refine j_perm (ws' := [((r 30), aI (Y 0) 271 z1), ((r 31), aI (Y 0) 271 z2), ((r 32), aI (Y 0) 271 (waysF 1 z1 z1 (giftP (ps p) * w - lossP (ps p) * s) s v3)), ((r 33), aI (Y 0) 271 (waysF (-1) z1 z2 (giftP (ps p) * w - lossP (ps p) * s) s v4))]) [0, 1, 2, 3] rfl rfl ?_
                                    refine j_iinc (pc := 192) (lc' := [(6, vI (s + 1)), (7, vI 1), (0, .ref h), (1, vI one), (2, vI lo), (3, vI hi), (4, vI p), (5, vI w)]) C 7 rfl (by decide) rfl dX10_layNets_192 ?_
                                    refine j_goto (pc := 195) C 120 rfl dX10_layNets_195 ?_
                                    refine j_locals (lc' := [(0, .ref h), (1, vI one), (2, vI lo), (3, vI hi), (4, vI p), (5, vI w), (6, vI (s + 1))]) [2, 3, 4, 5, 6, 7, 0] rfl ?_
                                    exact ih120 (s + 1) (waysF 1 z1 z1 (giftP (ps p) * w - lossP (ps p) * s) s v3) (waysF (-1) z1 z2 (giftP (ps p) * w - lossP (ps p) * s) s v4) (by omega) (by omega) (by first | exact NO_n (Or.inl rfl) i120_1 (by intro q; have q1 := q.1; have q2 := q.2; revert q1 q2; omega) | exact NO_y (Or.inl rfl) (by omega) (by omega) i120_1 ⟨by assumption, by intro q; omega⟩ (lay_s1 (bQ_up (AQ_b (one := one) (lo := lo) (hi := hi) (show 0 ≤ p by omega) (fun q hq => hps q (by omega))) (show 9 * p ≤ 54 by omega)) i59_1 i59_2 (by omega))) (by first | exact NO_n (Or.inr rfl) i120_2 (by intro q; have q1 := q.1; have q2 := q.2; revert q1 q2; omega) | exact NO_y (Or.inr rfl) (by omega) (by omega) i120_2 ⟨by assumption, by intro q; omega⟩ (lay_s2 (bQ_up (AQ_b (one := one) (lo := lo) (hi := hi) (show 0 ≤ p by omega) (fun q hq => hps q (by omega))) (show 9 * p ≤ 54 by omega)) i59_1 i59_2 (by omega))) (by first | exact i120_3 | exact ways_r1 (lay_r1 (bQ_up (AQ_b (one := one) (lo := lo) (hi := hi) (show 0 ≤ p by omega) (fun q hq => hps q (by omega))) (show 9 * p ≤ 54 by omega)) i59_1 i59_2) (by omega) i120_3) (by first | exact i120_4 | exact ways_r2 (lay_r2 (bQ_up (AQ_b (one := one) (lo := lo) (hi := hi) (show 0 ≤ p by omega) (fun q hq => hps q (by omega))) (show 9 * p ≤ 54 by omega)) i59_1 i59_2) (by omega) i120_4)
                                · skip
                                  refine j_iload (pc := 141) C 6 rfl dX10_layNets_141 ?_
                                  refine j_iload_n (pc := 143) C 2 2 rfl rfl dX10_layNets_143 ?_
                                  refine j_iload_n (pc := 144) C 3 3 rfl rfl dX10_layNets_144 ?_
                                  refine j_callSi (pc := 145) (As := [vI s, vI lo, vI hi]) (na := 3) (st := []) C [] [0, 1, 2, 3] (wr := [((r 30), aI (Y 0) 271 z1), ((r 31), aI (Y 0) 271 z2), ((r 32), aI (Y 0) 271 v3), ((r 33), aI (Y 0) 271 v4)]) (fun l => m_within l D Y _ s lo hi (by first | assumption | omega) (by first | assumption | omega) (by first | assumption | omega)) rfl rfl rfl rfl (by decide) rfl gX10_layNets_X10_within (by decide +kernel) (by decide) rfl rfl (Nat.le_of_ble_eq_true rfl) (by decide) dX10_layNets_145 (fun e_19 w_20 h_21 => ?_)
                                  obtain ⟨rfl, rfl⟩ := h_21
                                  refine j_perm (ws' := [((r 30), aI (Y 0) 271 z1), ((r 31), aI (Y 0) 271 z2), ((r 32), aI (Y 0) 271 v3), ((r 33), aI (Y 0) 271 v4)]) [0, 1, 2, 3] rfl rfl ?_
                                  refine j_if_eqb (pc := 148) C 155 rfl dX10_layNets_148 (fun h_22p148 => ?_) (fun h_22p148 => ?_)
                                  · skip
                                    refine j_iconst (pc := 155) C dX10_layNets_155 ?_
                                    refine j_istore (pc := 156) (lc' := [(7, vI 0), (0, .ref h), (1, vI one), (2, vI lo), (3, vI hi), (4, vI p), (5, vI w), (6, vI s)]) C (by decide) rfl dX10_layNets_156 ?_
                                    refine j_iload (pc := 158) C 0 rfl dX10_layNets_158 ?_
                                    refine j_if_eq (pc := 160) C 192 rfl (by omega) dX10_layNets_160 (fun _ => ?_) (fun h_23 => absurd h_23 (by decide))
                                    refine j_iinc (pc := 192) (lc' := [(6, vI (s + 1)), (7, vI 0), (0, .ref h), (1, vI one), (2, vI lo), (3, vI hi), (4, vI p), (5, vI w)]) C 7 rfl (by decide) rfl dX10_layNets_192 ?_
                                    refine j_goto (pc := 195) C 120 rfl dX10_layNets_195 ?_
                                    refine j_locals (lc' := [(0, .ref h), (1, vI one), (2, vI lo), (3, vI hi), (4, vI p), (5, vI w), (6, vI (s + 1))]) [2, 3, 4, 5, 6, 7, 0] rfl ?_
                                    exact ih120 (s + 1) v3 v4 (by omega) (by omega) (by first | exact NO_n (Or.inl rfl) i120_1 (by intro q; have q1 := q.1; have q2 := q.2; revert q1 q2; omega) | exact NO_y (Or.inl rfl) (by omega) (by omega) i120_1 ⟨by assumption, by intro q; omega⟩ (lay_s1 (bQ_up (AQ_b (one := one) (lo := lo) (hi := hi) (show 0 ≤ p by omega) (fun q hq => hps q (by omega))) (show 9 * p ≤ 54 by omega)) i59_1 i59_2 (by omega))) (by first | exact NO_n (Or.inr rfl) i120_2 (by intro q; have q1 := q.1; have q2 := q.2; revert q1 q2; omega) | exact NO_y (Or.inr rfl) (by omega) (by omega) i120_2 ⟨by assumption, by intro q; omega⟩ (lay_s2 (bQ_up (AQ_b (one := one) (lo := lo) (hi := hi) (show 0 ≤ p by omega) (fun q hq => hps q (by omega))) (show 9 * p ≤ 54 by omega)) i59_1 i59_2 (by omega))) (by first | exact i120_3 | exact ways_r1 (lay_r1 (bQ_up (AQ_b (one := one) (lo := lo) (hi := hi) (show 0 ≤ p by omega) (fun q hq => hps q (by omega))) (show 9 * p ≤ 54 by omega)) i59_1 i59_2) (by omega) i120_3) (by first | exact i120_4 | exact ways_r2 (lay_r2 (bQ_up (AQ_b (one := one) (lo := lo) (hi := hi) (show 0 ≤ p by omega) (fun q hq => hps q (by omega))) (show 9 * p ≤ 54 by omega)) i59_1 i59_2) (by omega) i120_4)
                                  · skip
                                    refine j_iconst (pc := 151) C dX10_layNets_151 ?_
                                    refine j_goto (pc := 152) C 156 rfl dX10_layNets_152 ?_
                                    refine j_istore (pc := 156) (lc' := [(7, vI 1), (0, .ref h), (1, vI one), (2, vI lo), (3, vI hi), (4, vI p), (5, vI w), (6, vI s)]) C (by decide) rfl dX10_layNets_156 ?_
                                    refine j_iload (pc := 158) C 0 rfl dX10_layNets_158 ?_
                                    refine j_if_eq (pc := 160) C 192 rfl (by omega) dX10_layNets_160 (fun h_24 => absurd h_24 (by decide)) (fun _ => ?_)
                                    have hgw := gw_in hPp (show 0 ≤ w by omega)
                                    have hls := ls_in (P := ps p) (show 0 ≤ s by omega)
                                    refine j_aload_n (pc := 163) C 0 1 rfl rfl dX10_layNets_163 ?_
                                    refine j_iload (pc := 164) C 5 rfl dX10_layNets_164 ?_
                                    refine j_iload (pc := 166) C 6 rfl dX10_layNets_166 ?_
                                    refine j_iload (pc := 168) C 7 rfl dX10_layNets_168 ?_
                                    refine j_callVi (pc := 170) (As := [vI p, vI w, vI s]) (na := 3) (st := []) C [] [0, 1, 2, 3] (wr := [((r 30), aI (Y 0) 271 z1), ((r 31), aI (Y 0) 271 z2), ((r 32), aI (Y 0) 271 v3), ((r 33), aI (Y 0) 271 v4)]) (fun l => m_canBe l D Y _ h r S G ps p w s (List.mem_append_right _ r0) (List.mem_append_right _ k2) (List.mem_append_right _ k3) (List.mem_append_right _ k4) (by omega) hPp (by omega) (by omega)) rfl rfl rfl rfl (by decide) rfl (Or.inr (List.mem_append_right _ r0)) rfl gX10_layNets_X10_canBe ⟨rfl, by decide +kernel⟩ (by decide) rfl rfl (Nat.le_of_ble_eq_true rfl) (by decide) dX10_layNets_170 (fun e_25 w_26 h_27 => ?_)
                                    obtain ⟨rfl, rfl⟩ := h_27
                                    refine j_perm (ws' := [((r 30), aI (Y 0) 271 z1), ((r 31), aI (Y 0) 271 z2), ((r 32), aI (Y 0) 271 v3), ((r 33), aI (Y 0) 271 v4)]) [0, 1, 2, 3] rfl rfl ?_
                                    refine j_if_eqb (pc := 173) C 192 rfl dX10_layNets_173 (fun h_28p173 => ?_) (fun h_28p173 => ?_)
                                    · skip
                                      refine j_iinc (pc := 192) (lc' := [(6, vI (s + 1)), (7, vI 1), (0, .ref h), (1, vI one), (2, vI lo), (3, vI hi), (4, vI p), (5, vI w)]) C 7 rfl (by decide) rfl dX10_layNets_192 ?_
                                      refine j_goto (pc := 195) C 120 rfl dX10_layNets_195 ?_
                                      refine j_locals (lc' := [(0, .ref h), (1, vI one), (2, vI lo), (3, vI hi), (4, vI p), (5, vI w), (6, vI (s + 1))]) [2, 3, 4, 5, 6, 7, 0] rfl ?_
                                      exact ih120 (s + 1) v3 v4 (by omega) (by omega) (by first | exact NO_n (Or.inl rfl) i120_1 (by intro q; have q1 := q.1; have q2 := q.2; revert q1 q2; omega) | exact NO_y (Or.inl rfl) (by omega) (by omega) i120_1 ⟨by assumption, by intro q; omega⟩ (lay_s1 (bQ_up (AQ_b (one := one) (lo := lo) (hi := hi) (show 0 ≤ p by omega) (fun q hq => hps q (by omega))) (show 9 * p ≤ 54 by omega)) i59_1 i59_2 (by omega))) (by first | exact NO_n (Or.inr rfl) i120_2 (by intro q; have q1 := q.1; have q2 := q.2; revert q1 q2; omega) | exact NO_y (Or.inr rfl) (by omega) (by omega) i120_2 ⟨by assumption, by intro q; omega⟩ (lay_s2 (bQ_up (AQ_b (one := one) (lo := lo) (hi := hi) (show 0 ≤ p by omega) (fun q hq => hps q (by omega))) (show 9 * p ≤ 54 by omega)) i59_1 i59_2 (by omega))) (by first | exact i120_3 | exact ways_r1 (lay_r1 (bQ_up (AQ_b (one := one) (lo := lo) (hi := hi) (show 0 ≤ p by omega) (fun q hq => hps q (by omega))) (show 9 * p ≤ 54 by omega)) i59_1 i59_2) (by omega) i120_3) (by first | exact i120_4 | exact ways_r2 (lay_r2 (bQ_up (AQ_b (one := one) (lo := lo) (hi := hi) (show 0 ≤ p by omega) (fun q hq => hps q (by omega))) (show 9 * p ≤ 54 by omega)) i59_1 i59_2) (by omega) i120_4)
                                    · skip
                                      refine j_aload_n (pc := 176) C 0 1 rfl rfl dX10_layNets_176 ?_
                                      refine j_aload_n (pc := 177) C 0 1 rfl rfl dX10_layNets_177 ?_
                                      refine j_iload (pc := 178) C 5 rfl dX10_layNets_178 ?_
                                      refine j_iload (pc := 180) C 6 rfl dX10_layNets_180 ?_
                                      refine j_iload (pc := 182) C 7 rfl dX10_layNets_182 ?_
                                      refine j_callVi (pc := 184) (As := [vI p, vI w, vI s]) (na := 3) (st := [.ref h]) C [] [0, 1, 2, 3] (wr := [((r 30), aI (Y 0) 271 z1), ((r 31), aI (Y 0) 271 z2), ((r 32), aI (Y 0) 271 v3), ((r 33), aI (Y 0) 271 v4)]) (fun l => m_netOf l D Y _ h r S G ps p w s (List.mem_append_right _ r0) (List.mem_append_right _ k0) (List.mem_append_right _ k1) (by omega) hPp (by omega) (by omega)) rfl rfl rfl rfl (by decide) rfl (Or.inr (List.mem_append_right _ r0)) rfl gX10_layNets_X10_netOf ⟨rfl, by decide +kernel⟩ (by decide) rfl rfl (Nat.le_of_ble_eq_true rfl) (by decide) dX10_layNets_184 (fun e_29 w_30 h_31 => ?_)
                                      obtain ⟨rfl, rfl⟩ := h_31
                                      refine j_perm (ws' := [((r 30), aI (Y 0) 271 z1), ((r 31), aI (Y 0) 271 z2), ((r 32), aI (Y 0) 271 v3), ((r 33), aI (Y 0) 271 v4)]) [0, 1, 2, 3] rfl rfl ?_
                                      refine j_iload (pc := 187) C 7 rfl dX10_layNets_187 ?_
                                      refine j_callVv (pc := 189) (As := [vI (giftP (ps p) * w - lossP (ps p) * s), vI s]) (na := 2) (st := []) C [2, 3] [0, 1] (wr := [((r 30), aI (Y 0) 271 z1), ((r 31), aI (Y 0) 271 z2)]) (fun l => m_addWay l D Y _ h r S G z1 z2 v3 v4 (giftP (ps p) * w - lossP (ps p) * s) s (List.mem_append_right _ r0) (List.mem_append_left _ (List.mem_of_getElem? (i := 0) rfl)) (List.mem_append_left _ (List.mem_of_getElem? (i := 1) rfl)) (by omega) (by omega) (lay_r1 (bQ_up (AQ_b (one := one) (lo := lo) (hi := hi) (show 0 ≤ p by omega) (fun q hq => hps q (by omega))) (show 9 * p ≤ 54 by omega)) i59_1 i59_2) (lay_r2 (bQ_up (AQ_b (one := one) (lo := lo) (hi := hi) (show 0 ≤ p by omega) (fun q hq => hps q (by omega))) (show 9 * p ≤ 54 by omega)) i59_1 i59_2) i120_3 i120_4) rfl rfl rfl rfl (by decide) rfl (Or.inr (List.mem_append_right _ r0)) rfl gX10_layNets_X10_addWay ⟨rfl, by decide +kernel⟩ (by decide) rfl rfl (Nat.le_of_ble_eq_true rfl) (by decide) dX10_layNets_189 (fun w_33 h_34 => ?_)
                                      subst h_34
                                      refine j_perm (ws' := [((r 30), aI (Y 0) 271 z1), ((r 31), aI (Y 0) 271 z2), ((r 32), aI (Y 0) 271 (waysF 1 z1 z1 (giftP (ps p) * w - lossP (ps p) * s) s v3)), ((r 33), aI (Y 0) 271 (waysF (-1) z1 z2 (giftP (ps p) * w - lossP (ps p) * s) s v4))]) [0, 1, 2, 3] rfl rfl ?_
                                      refine j_iinc (pc := 192) (lc' := [(6, vI (s + 1)), (7, vI 1), (0, .ref h), (1, vI one), (2, vI lo), (3, vI hi), (4, vI p), (5, vI w)]) C 7 rfl (by decide) rfl dX10_layNets_192 ?_
                                      refine j_goto (pc := 195) C 120 rfl dX10_layNets_195 ?_
                                      refine j_locals (lc' := [(0, .ref h), (1, vI one), (2, vI lo), (3, vI hi), (4, vI p), (5, vI w), (6, vI (s + 1))]) [2, 3, 4, 5, 6, 7, 0] rfl ?_
                                      exact ih120 (s + 1) (waysF 1 z1 z1 (giftP (ps p) * w - lossP (ps p) * s) s v3) (waysF (-1) z1 z2 (giftP (ps p) * w - lossP (ps p) * s) s v4) (by omega) (by omega) (by first | exact NO_n (Or.inl rfl) i120_1 (by intro q; have q1 := q.1; have q2 := q.2; revert q1 q2; omega) | exact NO_y (Or.inl rfl) (by omega) (by omega) i120_1 ⟨by assumption, by intro q; omega⟩ (lay_s1 (bQ_up (AQ_b (one := one) (lo := lo) (hi := hi) (show 0 ≤ p by omega) (fun q hq => hps q (by omega))) (show 9 * p ≤ 54 by omega)) i59_1 i59_2 (by omega))) (by first | exact NO_n (Or.inr rfl) i120_2 (by intro q; have q1 := q.1; have q2 := q.2; revert q1 q2; omega) | exact NO_y (Or.inr rfl) (by omega) (by omega) i120_2 ⟨by assumption, by intro q; omega⟩ (lay_s2 (bQ_up (AQ_b (one := one) (lo := lo) (hi := hi) (show 0 ≤ p by omega) (fun q hq => hps q (by omega))) (show 9 * p ≤ 54 by omega)) i59_1 i59_2 (by omega))) (by first | exact i120_3 | exact ways_r1 (lay_r1 (bQ_up (AQ_b (one := one) (lo := lo) (hi := hi) (show 0 ≤ p by omega) (fun q hq => hps q (by omega))) (show 9 * p ≤ 54 by omega)) i59_1 i59_2) (by omega) i120_3) (by first | exact i120_4 | exact ways_r2 (lay_r2 (bQ_up (AQ_b (one := one) (lo := lo) (hi := hi) (show 0 ≤ p by omega) (fun q hq => hps q (by omega))) (show 9 * p ≤ 54 by omega)) i59_1 i59_2) (by omega) i120_4)
                          refine j_locals (lc' := [(0, .ref h), (1, vI one), (2, vI lo), (3, vI hi), (4, vI p), (5, vI w), (6, vI 0)]) [1, 2, 3, 4, 5, 6, 0] rfl ?_
                          exact hL120 _ 0 u3 u4 (Nat.lt_succ_self _) (by omega) i105_1 i105_2 i105_3 i105_4
                    refine j_locals (lc' := [(0, .ref h), (1, vI one), (2, vI lo), (3, vI hi), (4, vI p), (5, vI 0)]) [1, 2, 3, 4, 5, 0] rfl ?_
                    exact hL105 _ 0 (fun _ => 268435456) (fun _ => -1) (Nat.lt_succ_self _) (by omega) (NO_0 (Or.inl rfl)) (NO_0 (Or.inr rfl)) (fun j _ => by constructor <;> decide) (fun j _ => by constructor <;> decide)
                  · skip
                    refine j_aload_n (pc := 79) C 0 0 rfl rfl dX10_layNets_79 ?_
                    refine j_get (pc := 80) C (Or.inr r0) rfl fX10_layNets_X10 32 (by decide) (List.mem_of_getElem? (i := 5) rfl) (Or.inl rfl) rfl dX10_layNets_80 ?_
                    refine j_iload (pc := 83) C 5 rfl dX10_layNets_83 ?_
                    refine j_ldc (pc := 85) (w := 268435456) C (List.mem_of_getElem? (i := 2) rfl) dX10_layNets_85 ?_
                    refine j_iast (pc := 87) (ws' := [((r 30), aI (Y 0) 271 z1), ((r 31), aI (Y 0) 271 z2), ((r 32), aI (Y 0) 271 (up w3 kx 268435456)), ((r 33), aI (Y 0) 271 w4)]) C 2 rfl rfl (by omega) (by decide) rfl dX10_layNets_87 ?_
                    refine j_aload_n (pc := 88) C 0 0 rfl rfl dX10_layNets_88 ?_
                    refine j_get (pc := 89) C (Or.inr r0) rfl fX10_layNets_X10 33 (by decide) (List.mem_of_getElem? (i := 6) rfl) (Or.inl rfl) rfl dX10_layNets_89 ?_
                    refine j_iload (pc := 92) C 5 rfl dX10_layNets_92 ?_
                    refine j_iconst (pc := 94) C dX10_layNets_94 ?_
                    refine j_iast (pc := 95) (ws' := [((r 30), aI (Y 0) 271 z1), ((r 31), aI (Y 0) 271 z2), ((r 32), aI (Y 0) 271 (up w3 kx 268435456)), ((r 33), aI (Y 0) 271 (up w4 kx (-1)))]) C 3 rfl rfl (by omega) (by decide) rfl dX10_layNets_95 ?_
                    refine j_iinc (pc := 96) (lc' := [(5, vI (kx + 1)), (0, .ref h), (1, vI one), (2, vI lo), (3, vI hi), (4, vI p)]) C 5 rfl (by decide) rfl dX10_layNets_96 ?_
                    refine j_goto (pc := 99) C 71 rfl dX10_layNets_99 ?_
                    refine j_locals (lc' := [(0, .ref h), (1, vI one), (2, vI lo), (3, vI hi), (4, vI p), (5, vI (kx + 1))]) [1, 2, 3, 4, 5, 0] rfl ?_
                    exact ih71 (kx + 1) (up w3 kx 268435456) (up w4 kx (-1)) (by omega) (by omega) (up_agree2 i71_1 rfl) (up_agree2 i71_2 rfl)
              refine j_locals (lc' := [(0, .ref h), (1, vI one), (2, vI lo), (3, vI hi), (4, vI p), (5, vI 0)]) [1, 2, 3, 4, 5, 0] rfl ?_
              exact hL71 _ 0 z3 z4 (Nat.lt_succ_self _) (by omega) (fun j h0 h1 => by omega) (fun j h0 h1 => by omega)
        refine j_locals (lc' := [(0, .ref h), (1, vI one), (2, vI lo), (3, vI hi), (4, vI 0)]) [1, 2, 3, 4, 0] rfl ?_
        exact hL59 _ 0 nf0 nm0 f2 m2 (Nat.lt_succ_self _) (by omega) (mt_z0 (Or.inl rfl)) (mt_z0 (Or.inr rfl))
      · skip
        refine j_aload_n (pc := 11) C 0 0 rfl rfl dX10_layNets_11 ?_
        refine j_get (pc := 12) C (Or.inr r0) rfl fX10_layNets_X10 30 (by decide) (List.mem_of_getElem? (i := 1) rfl) (Or.inl rfl) rfl dX10_layNets_12 ?_
        refine j_iload (pc := 15) C 4 rfl dX10_layNets_15 ?_
        refine j_iload (pc := 17) C 4 rfl dX10_layNets_17 ?_
        refine j_bipush (pc := 19) (w := 54) C rfl dX10_layNets_19 ?_
        refine j_icmp_ne (pc := 21) C 28 rfl (by omega) dX10_layNets_21 (fun h_35p21 => ?_) (fun h_35p21 => ?_)
        · skip
          refine j_ldc (pc := 28) (w := 268435456) C (List.mem_of_getElem? (i := 2) rfl) dX10_layNets_28 ?_
          refine j_iast (pc := 30) (ws' := [((r 30), aI (Y 0) 271 (up z1 k 268435456)), ((r 31), aI (Y 0) 271 z2), ((r 32), aI (Y 0) 271 f2), ((r 33), aI (Y 0) 271 m2)]) C 0 rfl rfl (by omega) (by decide) rfl dX10_layNets_30 ?_
          refine j_aload_n (pc := 31) C 0 0 rfl rfl dX10_layNets_31 ?_
          refine j_get (pc := 32) C (Or.inr r0) rfl fX10_layNets_X10 31 (by decide) (List.mem_of_getElem? (i := 3) rfl) (Or.inl rfl) rfl dX10_layNets_32 ?_
          refine j_iload (pc := 35) C 4 rfl dX10_layNets_35 ?_
          refine j_iload (pc := 37) C 4 rfl dX10_layNets_37 ?_
          refine j_bipush (pc := 39) (w := 54) C rfl dX10_layNets_39 ?_
          refine j_icmp_ne (pc := 41) C 48 rfl (by omega) dX10_layNets_41 (fun h_36p41 => ?_) (fun h_36p41 => ?_)
          · skip
            refine j_iconst (pc := 48) C dX10_layNets_48 ?_
            refine j_iast (pc := 49) (ws' := [((r 30), aI (Y 0) 271 (up z1 k 268435456)), ((r 31), aI (Y 0) 271 (up z2 k (-1))), ((r 32), aI (Y 0) 271 f2), ((r 33), aI (Y 0) 271 m2)]) C 1 rfl rfl (by omega) (by decide) rfl dX10_layNets_49 ?_
            refine j_iinc (pc := 50) (lc' := [(4, vI (k + 1)), (0, .ref h), (1, vI one), (2, vI lo), (3, vI hi)]) C 4 rfl (by decide) rfl dX10_layNets_50 ?_
            refine j_goto (pc := 53) C 3 rfl dX10_layNets_53 ?_
            refine j_locals (lc' := [(0, .ref h), (1, vI one), (2, vI lo), (3, vI hi), (4, vI (k + 1))]) [1, 2, 3, 4, 0] rfl ?_
            exact ih3 (k + 1) (up z1 k 268435456) (up z2 k (-1)) (by omega) (by omega) (up_agree2 i3_1 (by unfold nf0 up; first | (rw [if_pos (by omega)]; done) | (rw [if_neg (by omega)]; done))) (up_agree2 i3_2 (by unfold nm0 up; first | (rw [if_pos (by omega)]; done) | (rw [if_neg (by omega)]; done)))
          · skip
            refine j_iconst (pc := 44) C dX10_layNets_44 ?_
            refine j_goto (pc := 45) C 49 rfl dX10_layNets_45 ?_
            refine j_iast (pc := 49) (ws' := [((r 30), aI (Y 0) 271 (up z1 k 268435456)), ((r 31), aI (Y 0) 271 (up z2 k 0)), ((r 32), aI (Y 0) 271 f2), ((r 33), aI (Y 0) 271 m2)]) C 1 rfl rfl (by omega) (by decide) rfl dX10_layNets_49 ?_
            refine j_iinc (pc := 50) (lc' := [(4, vI (k + 1)), (0, .ref h), (1, vI one), (2, vI lo), (3, vI hi)]) C 4 rfl (by decide) rfl dX10_layNets_50 ?_
            refine j_goto (pc := 53) C 3 rfl dX10_layNets_53 ?_
            refine j_locals (lc' := [(0, .ref h), (1, vI one), (2, vI lo), (3, vI hi), (4, vI (k + 1))]) [1, 2, 3, 4, 0] rfl ?_
            exact ih3 (k + 1) (up z1 k 268435456) (up z2 k 0) (by omega) (by omega) (up_agree2 i3_1 (by unfold nf0 up; first | (rw [if_pos (by omega)]; done) | (rw [if_neg (by omega)]; done))) (up_agree2 i3_2 (by unfold nm0 up; first | (rw [if_pos (by omega)]; done) | (rw [if_neg (by omega)]; done)))
        · skip
          refine j_iconst (pc := 24) C dX10_layNets_24 ?_
          refine j_goto (pc := 25) C 30 rfl dX10_layNets_25 ?_
          refine j_iast (pc := 30) (ws' := [((r 30), aI (Y 0) 271 (up z1 k 0)), ((r 31), aI (Y 0) 271 z2), ((r 32), aI (Y 0) 271 f2), ((r 33), aI (Y 0) 271 m2)]) C 0 rfl rfl (by omega) (by decide) rfl dX10_layNets_30 ?_
          refine j_aload_n (pc := 31) C 0 0 rfl rfl dX10_layNets_31 ?_
          refine j_get (pc := 32) C (Or.inr r0) rfl fX10_layNets_X10 31 (by decide) (List.mem_of_getElem? (i := 3) rfl) (Or.inl rfl) rfl dX10_layNets_32 ?_
          refine j_iload (pc := 35) C 4 rfl dX10_layNets_35 ?_
          refine j_iload (pc := 37) C 4 rfl dX10_layNets_37 ?_
          refine j_bipush (pc := 39) (w := 54) C rfl dX10_layNets_39 ?_
          refine j_icmp_ne (pc := 41) C 48 rfl (by omega) dX10_layNets_41 (fun h_37p41 => ?_) (fun h_37p41 => ?_)
          · skip
            refine j_iconst (pc := 48) C dX10_layNets_48 ?_
            refine j_iast (pc := 49) (ws' := [((r 30), aI (Y 0) 271 (up z1 k 0)), ((r 31), aI (Y 0) 271 (up z2 k (-1))), ((r 32), aI (Y 0) 271 f2), ((r 33), aI (Y 0) 271 m2)]) C 1 rfl rfl (by omega) (by decide) rfl dX10_layNets_49 ?_
            refine j_iinc (pc := 50) (lc' := [(4, vI (k + 1)), (0, .ref h), (1, vI one), (2, vI lo), (3, vI hi)]) C 4 rfl (by decide) rfl dX10_layNets_50 ?_
            refine j_goto (pc := 53) C 3 rfl dX10_layNets_53 ?_
            refine j_locals (lc' := [(0, .ref h), (1, vI one), (2, vI lo), (3, vI hi), (4, vI (k + 1))]) [1, 2, 3, 4, 0] rfl ?_
            exact ih3 (k + 1) (up z1 k 0) (up z2 k (-1)) (by omega) (by omega) (up_agree2 i3_1 (by unfold nf0 up; first | (rw [if_pos (by omega)]; done) | (rw [if_neg (by omega)]; done))) (up_agree2 i3_2 (by unfold nm0 up; first | (rw [if_pos (by omega)]; done) | (rw [if_neg (by omega)]; done)))
          · skip
            refine j_iconst (pc := 44) C dX10_layNets_44 ?_
            refine j_goto (pc := 45) C 49 rfl dX10_layNets_45 ?_
            refine j_iast (pc := 49) (ws' := [((r 30), aI (Y 0) 271 (up z1 k 0)), ((r 31), aI (Y 0) 271 (up z2 k 0)), ((r 32), aI (Y 0) 271 f2), ((r 33), aI (Y 0) 271 m2)]) C 1 rfl rfl (by omega) (by decide) rfl dX10_layNets_49 ?_
            refine j_iinc (pc := 50) (lc' := [(4, vI (k + 1)), (0, .ref h), (1, vI one), (2, vI lo), (3, vI hi)]) C 4 rfl (by decide) rfl dX10_layNets_50 ?_
            refine j_goto (pc := 53) C 3 rfl dX10_layNets_53 ?_
            refine j_locals (lc' := [(0, .ref h), (1, vI one), (2, vI lo), (3, vI hi), (4, vI (k + 1))]) [1, 2, 3, 4, 0] rfl ?_
            exact ih3 (k + 1) (up z1 k 0) (up z2 k 0) (by omega) (by omega) (up_agree2 i3_1 (by unfold nf0 up; first | (rw [if_pos (by omega)]; done) | (rw [if_neg (by omega)]; done))) (up_agree2 i3_2 (by unfold nm0 up; first | (rw [if_pos (by omega)]; done) | (rw [if_neg (by omega)]; done)))
  refine j_locals (lc' := [(0, .ref h), (1, vI one), (2, vI lo), (3, vI hi), (4, vI 0)]) [1, 2, 3, 4, 0] rfl ?_
  exact hL3 _ 0 f mo (Nat.lt_succ_self _) (by omega) (fun j h0 h1 => by omega) (fun j h0 h1 => by omega)
