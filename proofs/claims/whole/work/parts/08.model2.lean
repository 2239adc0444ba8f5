theorem fX10_save_X10 : ∀ w ∈ u_ws RX10 TX10 35, w ∈ wsX10_save := j_words [11, 12, 13, 14, 15, 16, 17, 18, 19, 20, 21, 22, 23, 24, 25, 26, 27, 28, 29, 30, 31, 32, 33, 34, 35, 36, 37, 38, 39, 40, 41, 42, 43, 44, 45] (by decide +kernel)
set_option maxHeartbeats 4000000 in
set_option maxRecDepth 100000 in
theorem m_save (l : Launch) (D : va_G) (Y : Nat → ClassId) (RO : va_W) (h : Nat) (r : Nat → Nat) (S : MS) (G : GS) (v : Int → Int) (r1 : ((r 1), aI (Y 0) 7 (ms_h S)) ∈ RO) (r2 : ((r 0), aI (Y 0) 420 (ms_m S)) ∈ RO)  : jMv l yX10_save wsX10_save { frames := 0, cells := 0, slots := 0, locals := 0 } D Y RO [.ref h] [(h, oC 9 [.ref (r 0), .ref (r 1), vI (ms_w S), vI (ms_l S), vL (ms_s S), vI (ms_a S), vI (ms_t S), vI (ms_p S), vI (g_np G), .ref (r 9), .ref (r 10), .ref (r 11), .ref (r 12), .ref (r 13), vI (g_nc G), .ref (r 15), .ref (r 16), .ref (r 17), vI (g_pl G), .ref (r 19), vI (g_ik G), vL (g_ks G), .ref (r 22), vL (g_ss G), .ref (r 24), vI (g_fa G), vI (g_iw G), vI (g_nw G), vI (g_ns G), vI (g_ne G), .ref (r 30), .ref (r 31), .ref (r 32), .ref (r 33), vL (g_h G)]), ((r 24), aI (Y 0) 432 v)] (fun w1 => w1 = [(h, oC 9 [.ref (r 0), .ref (r 1), vI (ms_w S), vI (ms_l S), vL (ms_s S), vI (ms_a S), vI (ms_t S), vI (ms_p S), vI (g_np (gSS G (ms_s S))), .ref (r 9), .ref (r 10), .ref (r 11), .ref (r 12), .ref (r 13), vI (g_nc (gSS G (ms_s S))), .ref (r 15), .ref (r 16), .ref (r 17), vI (g_pl (gSS G (ms_s S))), .ref (r 19), vI (g_ik (gSS G (ms_s S))), vL (g_ks (gSS G (ms_s S))), .ref (r 22), vL (g_ss (gSS G (ms_s S))), .ref (r 24), vI (g_fa (gSS G (ms_s S))), vI (g_iw (gSS G (ms_s S))), vI (g_nw (gSS G (ms_s S))), vI (g_ns (gSS G (ms_s S))), vI (g_ne (gSS G (ms_s S))), .ref (r 30), .ref (r 31), .ref (r 32), .ref (r 33), vL (g_h (gSS G (ms_s S)))]), ((r 24), aI (Y 0) 432 (packS S))]) := by
  refine j_ofv RX10 rfl rfl rfl (Nat.le_of_ble_eq_true rfl) (fun X C Rt hI => ?_)
  refine j_aload_n (pc := 0) C 0 0 rfl rfl dX10_save_0 ?_
  refine j_aload_n (pc := 1) C 0 0 rfl rfl dX10_save_1 ?_
  refine j_get (pc := 2) C (Or.inl (List.mem_of_getElem? (i := 0) rfl)) rfl fX10_save_X10 4 (by decide) (List.mem_of_getElem? (i := 1) rfl) (Or.inl rfl) rfl dX10_save_2 ?_
  refine j_put (pc := 5) (ws' := [(h, oC 9 [.ref (r 0), .ref (r 1), vI (ms_w S), vI (ms_l S), vL (ms_s S), vI (ms_a S), vI (ms_t S), vI (ms_p S), vI (g_np G), .ref (r 9), .ref (r 10), .ref (r 11), .ref (r 12), .ref (r 13), vI (g_nc G), .ref (r 15), .ref (r 16), .ref (r 17), vI (g_pl G), .ref (r 19), vI (g_ik G), vL (g_ks G), .ref (r 22), vL (ms_s S), .ref (r 24), vI (g_fa G), vI (g_iw G), vI (g_nw G), vI (g_ns G), vI (g_ne G), .ref (r 30), .ref (r 31), .ref (r 32), .ref (r 33), vL (g_h G)]), ((r 24), aI (Y 0) 432 v)]) C 0 rfl rfl fX10_save_X10 tyX10_ok nmX10 23 (by decide) (List.mem_of_getElem? (i := 2) rfl) (Or.inl rfl) rfl rfl rfl rfl (Nat.le_of_ble_eq_true rfl) rfl dX10_save_5 ?_
  refine j_iconst (pc := 8) C dX10_save_8 ?_
  refine j_istore_n (pc := 9) (lc' := [(1, vI 0), (0, .ref h)]) C 1 rfl (by decide) rfl dX10_save_9 ?_
  have hL10 : ∀ (N10 : Nat) (i : Int) (w : Int → Int), ((420 - i).toNat) < N10 → (0 ≤ i ∧ i ≤ 420) → (∀ j : Int, 0 ≤ j → j < i → w j = ms_m S j) → jW X 2 0 0 [(h, oC 9 [.ref (r 0), .ref (r 1), vI (ms_w S), vI (ms_l S), vL (ms_s S), vI (ms_a S), vI (ms_t S), vI (ms_p S), vI (g_np (gSS G (ms_s S))), .ref (r 9), .ref (r 10), .ref (r 11), .ref (r 12), .ref (r 13), vI (g_nc (gSS G (ms_s S))), .ref (r 15), .ref (r 16), .ref (r 17), vI (g_pl (gSS G (ms_s S))), .ref (r 19), vI (g_ik (gSS G (ms_s S))), vL (g_ks (gSS G (ms_s S))), .ref (r 22), vL (g_ss (gSS G (ms_s S))), .ref (r 24), vI (g_fa (gSS G (ms_s S))), vI (g_iw (gSS G (ms_s S))), vI (g_nw (gSS G (ms_s S))), vI (g_ns (gSS G (ms_s S))), vI (g_ne (gSS G (ms_s S))), .ref (r 30), .ref (r 31), .ref (r 32), .ref (r 33), vL (g_h (gSS G (ms_s S)))]), ((r 24), aI (Y 0) 432 w)] [(0, .ref h), (1, vI i)] 10 [] := by
    intro N10
    induction N10 with
    | zero => intro i w hm10 i10_0 i10_1; omega
    | succ N10 ih10 =>
      intro i w hm10 i10_0 i10_1
      refine j_iload_n (pc := 10) C 1 1 rfl rfl dX10_save_10 ?_
      refine j_sipush (pc := 11) (w := 420) C rfl dX10_save_11 ?_
      refine j_icmp_ge (pc := 14) C 35 rfl (by omega) dX10_save_14 (fun h_1p14 => ?_) (fun h_1p14 => ?_)
      · skip
        refine j_iconst (pc := 35) C dX10_save_35 ?_
        refine j_istore_n (pc := 36) (lc' := [(1, vI 0), (0, .ref h)]) C 1 rfl (by decide) rfl dX10_save_36 ?_
        have hL37 : ∀ (N37 : Nat) (i2 : Int) (w2 : Int → Int), ((7 - i2).toNat) < N37 → (0 ≤ i2 ∧ i2 ≤ 7) → (∀ j : Int, 0 ≤ j → j < 420 → w2 j = ms_m S j) → (∀ j : Int, 0 ≤ j → j < i2 → w2 (420 + j) = ms_h S j) → jW X 2 0 0 [(h, oC 9 [.ref (r 0), .ref (r 1), vI (ms_w S), vI (ms_l S), vL (ms_s S), vI (ms_a S), vI (ms_t S), vI (ms_p S), vI (g_np (gSS G (ms_s S))), .ref (r 9), .ref (r 10), .ref (r 11), .ref (r 12), .ref (r 13), vI (g_nc (gSS G (ms_s S))), .ref (r 15), .ref (r 16), .ref (r 17), vI (g_pl (gSS G (ms_s S))), .ref (r 19), vI (g_ik (gSS G (ms_s S))), vL (g_ks (gSS G (ms_s S))), .ref (r 22), vL (g_ss (gSS G (ms_s S))), .ref (r 24), vI (g_fa (gSS G (ms_s S))), vI (g_iw (gSS G (ms_s S))), vI (g_nw (gSS G (ms_s S))), vI (g_ns (gSS G (ms_s S))), vI (g_ne (gSS G (ms_s S))), .ref (r 30), .ref (r 31), .ref (r 32), .ref (r 33), vL (g_h (gSS G (ms_s S)))]), ((r 24), aI (Y 0) 432 w2)] [(0, .ref h), (1, vI i2)] 37 [] := by
          intro N37
          induction N37 with
          | zero => intro i2 w2 hm37 i37_0 i37_1 i37_2; omega
          | succ N37 ih37 =>
            intro i2 w2 hm37 i37_0 i37_1 i37_2
            refine j_iload_n (pc := 37) C 1 1 rfl rfl dX10_save_37 ?_
            refine j_bipush (pc := 38) (w := 7) C rfl dX10_save_38 ?_
            refine j_icmp_ge (pc := 40) C 65 rfl (by omega) dX10_save_40 (fun h_2p40 => ?_) (fun h_2p40 => ?_)
            · skip
              refine j_aload_n (pc := 65) C 0 0 rfl rfl dX10_save_65 ?_
              refine j_get (pc := 66) C (Or.inl (List.mem_of_getElem? (i := 0) rfl)) rfl fX10_save_X10 24 (by decide) (List.mem_of_getElem? (i := 3) rfl) (Or.inl rfl) rfl dX10_save_66 ?_
              refine j_sipush (pc := 69) (w := 427) C rfl dX10_save_69 ?_
              refine j_aload_n (pc := 72) C 0 0 rfl rfl dX10_save_72 ?_
              refine j_get (pc := 73) C (Or.inl (List.mem_of_getElem? (i := 0) rfl)) rfl fX10_save_X10 2 (by decide) (List.mem_of_getElem? (i := 6) rfl) (Or.inl rfl) rfl dX10_save_73 ?_
              refine j_iast (pc := 76) (ws' := [(h, oC 9 [.ref (r 0), .ref (r 1), vI (ms_w S), vI (ms_l S), vL (ms_s S), vI (ms_a S), vI (ms_t S), vI (ms_p S), vI (g_np (gSS G (ms_s S))), .ref (r 9), .ref (r 10), .ref (r 11), .ref (r 12), .ref (r 13), vI (g_nc (gSS G (ms_s S))), .ref (r 15), .ref (r 16), .ref (r 17), vI (g_pl (gSS G (ms_s S))), .ref (r 19), vI (g_ik (gSS G (ms_s S))), vL (g_ks (gSS G (ms_s S))), .ref (r 22), vL (g_ss (gSS G (ms_s S))), .ref (r 24), vI (g_fa (gSS G (ms_s S))), vI (g_iw (gSS G (ms_s S))), vI (g_nw (gSS G (ms_s S))), vI (g_ns (gSS G (ms_s S))), vI (g_ne (gSS G (ms_s S))), .ref (r 30), .ref (r 31), .ref (r 32), .ref (r 33), vL (g_h (gSS G (ms_s S)))]), ((r 24), aI (Y 0) 432 (up w2 427 (ms_w S)))]) C 1 rfl rfl (by omega) (by decide) rfl dX10_save_76 ?_
              refine j_aload_n (pc := 77) C 0 0 rfl rfl dX10_save_77 ?_
              refine j_get (pc := 78) C (Or.inl (List.mem_of_getElem? (i := 0) rfl)) rfl fX10_save_X10 24 (by decide) (List.mem_of_getElem? (i := 3) rfl) (Or.inl rfl) rfl dX10_save_78 ?_
              refine j_sipush (pc := 81) (w := 428) C rfl dX10_save_81 ?_
              refine j_aload_n (pc := 84) C 0 0 rfl rfl dX10_save_84 ?_
              refine j_get (pc := 85) C (Or.inl (List.mem_of_getElem? (i := 0) rfl)) rfl fX10_save_X10 3 (by decide) (List.mem_of_getElem? (i := 7) rfl) (Or.inl rfl) rfl dX10_save_85 ?_
              refine j_iast (pc := 88) (ws' := [(h, oC 9 [.ref (r 0), .ref (r 1), vI (ms_w S), vI (ms_l S), vL (ms_s S), vI (ms_a S), vI (ms_t S), vI (ms_p S), vI (g_np (gSS G (ms_s S))), .ref (r 9), .ref (r 10), .ref (r 11), .ref (r 12), .ref (r 13), vI (g_nc (gSS G (ms_s S))), .ref (r 15), .ref (r 16), .ref (r 17), vI (g_pl (gSS G (ms_s S))), .ref (r 19), vI (g_ik (gSS G (ms_s S))), vL (g_ks (gSS G (ms_s S))), .ref (r 22), vL (g_ss (gSS G (ms_s S))), .ref (r 24), vI (g_fa (gSS G (ms_s S))), vI (g_iw (gSS G (ms_s S))), vI (g_nw (gSS G (ms_s S))), vI (g_ns (gSS G (ms_s S))), vI (g_ne (gSS G (ms_s S))), .ref (r 30), .ref (r 31), .ref (r 32), .ref (r 33), vL (g_h (gSS G (ms_s S)))]), ((r 24), aI (Y 0) 432 (up (up w2 427 (ms_w S)) 428 (ms_l S)))]) C 1 rfl rfl (by omega) (by decide) rfl dX10_save_88 ?_
              refine j_aload_n (pc := 89) C 0 0 rfl rfl dX10_save_89 ?_
              refine j_get (pc := 90) C (Or.inl (List.mem_of_getElem? (i := 0) rfl)) rfl fX10_save_X10 24 (by decide) (List.mem_of_getElem? (i := 3) rfl) (Or.inl rfl) rfl dX10_save_90 ?_
              refine j_sipush (pc := 93) (w := 429) C rfl dX10_save_93 ?_
              refine j_aload_n (pc := 96) C 0 0 rfl rfl dX10_save_96 ?_
              refine j_get (pc := 97) C (Or.inl (List.mem_of_getElem? (i := 0) rfl)) rfl fX10_save_X10 5 (by decide) (List.mem_of_getElem? (i := 8) rfl) (Or.inl rfl) rfl dX10_save_97 ?_
              refine j_iast (pc := 100) (ws' := [(h, oC 9 [.ref (r 0), .ref (r 1), vI (ms_w S), vI (ms_l S), vL (ms_s S), vI (ms_a S), vI (ms_t S), vI (ms_p S), vI (g_np (gSS G (ms_s S))), .ref (r 9), .ref (r 10), .ref (r 11), .ref (r 12), .ref (r 13), vI (g_nc (gSS G (ms_s S))), .ref (r 15), .ref (r 16), .ref (r 17), vI (g_pl (gSS G (ms_s S))), .ref (r 19), vI (g_ik (gSS G (ms_s S))), vL (g_ks (gSS G (ms_s S))), .ref (r 22), vL (g_ss (gSS G (ms_s S))), .ref (r 24), vI (g_fa (gSS G (ms_s S))), vI (g_iw (gSS G (ms_s S))), vI (g_nw (gSS G (ms_s S))), vI (g_ns (gSS G (ms_s S))), vI (g_ne (gSS G (ms_s S))), .ref (r 30), .ref (r 31), .ref (r 32), .ref (r 33), vL (g_h (gSS G (ms_s S)))]), ((r 24), aI (Y 0) 432 (up (up (up w2 427 (ms_w S)) 428 (ms_l S)) 429 (ms_a S)))]) C 1 rfl rfl (by omega) (by decide) rfl dX10_save_100 ?_
              refine j_aload_n (pc := 101) C 0 0 rfl rfl dX10_save_101 ?_
              refine j_get (pc := 102) C (Or.inl (List.mem_of_getElem? (i := 0) rfl)) rfl fX10_save_X10 24 (by decide) (List.mem_of_getElem? (i := 3) rfl) (Or.inl rfl) rfl dX10_save_102 ?_
              refine j_sipush (pc := 105) (w := 430) C rfl dX10_save_105 ?_
              refine j_aload_n (pc := 108) C 0 0 rfl rfl dX10_save_108 ?_
              refine j_get (pc := 109) C (Or.inl (List.mem_of_getElem? (i := 0) rfl)) rfl fX10_save_X10 6 (by decide) (List.mem_of_getElem? (i := 9) rfl) (Or.inl rfl) rfl dX10_save_109 ?_
              refine j_iast (pc := 112) (ws' := [(h, oC 9 [.ref (r 0), .ref (r 1), vI (ms_w S), vI (ms_l S), vL (ms_s S), vI (ms_a S), vI (ms_t S), vI (ms_p S), vI (g_np (gSS G (ms_s S))), .ref (r 9), .ref (r 10), .ref (r 11), .ref (r 12), .ref (r 13), vI (g_nc (gSS G (ms_s S))), .ref (r 15), .ref (r 16), .ref (r 17), vI (g_pl (gSS G (ms_s S))), .ref (r 19), vI (g_ik (gSS G (ms_s S))), vL (g_ks (gSS G (ms_s S))), .ref (r 22), vL (g_ss (gSS G (ms_s S))), .ref (r 24), vI (g_fa (gSS G (ms_s S))), vI (g_iw (gSS G (ms_s S))), vI (g_nw (gSS G (ms_s S))), vI (g_ns (gSS G (ms_s S))), vI (g_ne (gSS G (ms_s S))), .ref (r 30), .ref (r 31), .ref (r 32), .ref (r 33), vL (g_h (gSS G (ms_s S)))]), ((r 24), aI (Y 0) 432 (up (up (up (up w2 427 (ms_w S)) 428 (ms_l S)) 429 (ms_a S)) 430 (ms_t S)))]) C 1 rfl rfl (by omega) (by decide) rfl dX10_save_112 ?_
              refine j_aload_n (pc := 113) C 0 0 rfl rfl dX10_save_113 ?_
              refine j_get (pc := 114) C (Or.inl (List.mem_of_getElem? (i := 0) rfl)) rfl fX10_save_X10 24 (by decide) (List.mem_of_getElem? (i := 3) rfl) (Or.inl rfl) rfl dX10_save_114 ?_
              refine j_sipush (pc := 117) (w := 431) C rfl dX10_save_117 ?_
              refine j_aload_n (pc := 120) C 0 0 rfl rfl dX10_save_120 ?_
              refine j_get (pc := 121) C (Or.inl (List.mem_of_getElem? (i := 0) rfl)) rfl fX10_save_X10 7 (by decide) (List.mem_of_getElem? (i := 10) rfl) (Or.inl rfl) rfl dX10_save_121 ?_
              refine j_iast (pc := 124) (ws' := [(h, oC 9 [.ref (r 0), .ref (r 1), vI (ms_w S), vI (ms_l S), vL (ms_s S), vI (ms_a S), vI (ms_t S), vI (ms_p S), vI (g_np (gSS G (ms_s S))), .ref (r 9), .ref (r 10), .ref (r 11), .ref (r 12), .ref (r 13), vI (g_nc (gSS G (ms_s S))), .ref (r 15), .ref (r 16), .ref (r 17), vI (g_pl (gSS G (ms_s S))), .ref (r 19), vI (g_ik (gSS G (ms_s S))), vL (g_ks (gSS G (ms_s S))), .ref (r 22), vL (g_ss (gSS G (ms_s S))), .ref (r 24), vI (g_fa (gSS G (ms_s S))), vI (g_iw (gSS G (ms_s S))), vI (g_nw (gSS G (ms_s S))), vI (g_ns (gSS G (ms_s S))), vI (g_ne (gSS G (ms_s S))), .ref (r 30), .ref (r 31), .ref (r 32), .ref (r 33), vL (g_h (gSS G (ms_s S)))]), ((r 24), aI (Y 0) 432 (up (up (up (up (up w2 427 (ms_w S)) 428 (ms_l S)) 429 (ms_a S)) 430 (ms_t S)) 431 (ms_p S)))]) C 1 rfl rfl (by omega) (by decide) rfl dX10_save_124 ?_
              refine j_ext (ws' := [(h, oC 9 [.ref (r 0), .ref (r 1), vI (ms_w S), vI (ms_l S), vL (ms_s S), vI (ms_a S), vI (ms_t S), vI (ms_p S), vI (g_np (gSS G (ms_s S))), .ref (r 9), .ref (r 10), .ref (r 11), .ref (r 12), .ref (r 13), vI (g_nc (gSS G (ms_s S))), .ref (r 15), .ref (r 16), .ref (r 17), vI (g_pl (gSS G (ms_s S))), .ref (r 19), vI (g_ik (gSS G (ms_s S))), vL (g_ks (gSS G (ms_s S))), .ref (r 22), vL (g_ss (gSS G (ms_s S))), .ref (r 24), vI (g_fa (gSS G (ms_s S))), vI (g_iw (gSS G (ms_s S))), vI (g_nw (gSS G (ms_s S))), vI (g_ns (gSS G (ms_s S))), vI (g_ne (gSS G (ms_s S))), .ref (r 30), .ref (r 31), .ref (r 32), .ref (r 33), vL (g_h (gSS G (ms_s S)))]), ((r 24), aI (Y 0) 432 (packS S))]) 1 rfl (packS_end i37_1 (fun j h0 h1 => i37_2 j h0 (by omega))) rfl ?_
              exact Rt _ _ _ _ _ (by decide) (by decide) rfl dX10_save_125
            · skip
              refine j_aload_n (pc := 43) C 0 0 rfl rfl dX10_save_43 ?_
              refine j_get (pc := 44) C (Or.inl (List.mem_of_getElem? (i := 0) rfl)) rfl fX10_save_X10 24 (by decide) (List.mem_of_getElem? (i := 3) rfl) (Or.inl rfl) rfl dX10_save_44 ?_
              refine j_sipush (pc := 47) (w := 420) C rfl dX10_save_47 ?_
              refine j_iload_n (pc := 50) C 1 1 rfl rfl dX10_save_50 ?_
              refine j_iadd (pc := 51) C dX10_save_51 ?_
              refine j_aload_n (pc := 52) C 0 0 rfl rfl dX10_save_52 ?_
              refine j_get (pc := 53) C (Or.inl (List.mem_of_getElem? (i := 0) rfl)) rfl fX10_save_X10 1 (by decide) (List.mem_of_getElem? (i := 5) rfl) (Or.inl rfl) rfl dX10_save_53 ?_
              refine j_iload_n (pc := 56) C 1 1 rfl rfl dX10_save_56 ?_
              refine j_iald (pc := 57) C (Or.inr r1) rfl (by omega) (by decide) dX10_save_57 ?_
              refine j_iast (pc := 58) (ws' := [(h, oC 9 [.ref (r 0), .ref (r 1), vI (ms_w S), vI (ms_l S), vL (ms_s S), vI (ms_a S), vI (ms_t S), vI (ms_p S), vI (g_np (gSS G (ms_s S))), .ref (r 9), .ref (r 10), .ref (r 11), .ref (r 12), .ref (r 13), vI (g_nc (gSS G (ms_s S))), .ref (r 15), .ref (r 16), .ref (r 17), vI (g_pl (gSS G (ms_s S))), .ref (r 19), vI (g_ik (gSS G (ms_s S))), vL (g_ks (gSS G (ms_s S))), .ref (r 22), vL (g_ss (gSS G (ms_s S))), .ref (r 24), vI (g_fa (gSS G (ms_s S))), vI (g_iw (gSS G (ms_s S))), vI (g_nw (gSS G (ms_s S))), vI (g_ns (gSS G (ms_s S))), vI (g_ne (gSS G (ms_s S))), .ref (r 30), .ref (r 31), .ref (r 32), .ref (r 33), vL (g_h (gSS G (ms_s S)))]), ((r 24), aI (Y 0) 432 (up w2 (420 + i2) (ms_h S i2)))]) C 1 rfl rfl (by omega) (by decide) rfl dX10_save_58 ?_
              refine j_iinc (pc := 59) (lc' := [(1, vI (i2 + 1)), (0, .ref h)]) C 1 rfl (by decide) rfl dX10_save_59 ?_
              refine j_goto (pc := 62) C 37 rfl dX10_save_62 ?_
              refine j_locals (lc' := [(0, .ref h), (1, vI (i2 + 1))]) [1, 0] rfl ?_
              exact ih37 (i2 + 1) (up w2 (420 + i2) (ms_h S i2)) (by omega) (by omega) (fun j h0 h1 => by rw [up_ne _ _ _ _ (by omega)]; exact i37_1 j h0 h1) (fun j h0 h1 => by by_cases e : j = i2; { rw [e, up_same] }; { rw [up_ne _ _ _ _ (by omega)]; exact i37_2 j h0 (by omega) })
        refine j_locals (lc' := [(0, .ref h), (1, vI 0)]) [1, 0] rfl ?_
        exact hL37 _ 0 w (Nat.lt_succ_self _) (by omega) (fun j h0 h1 => i10_1 j h0 (by omega)) (fun j h0 h1 => by omega)
      · skip
        refine j_aload_n (pc := 17) C 0 0 rfl rfl dX10_save_17 ?_
        refine j_get (pc := 18) C (Or.inl (List.mem_of_getElem? (i := 0) rfl)) rfl fX10_save_X10 24 (by decide) (List.mem_of_getElem? (i := 3) rfl) (Or.inl rfl) rfl dX10_save_18 ?_
        refine j_iload_n (pc := 21) C 1 1 rfl rfl dX10_save_21 ?_
        refine j_aload_n (pc := 22) C 0 0 rfl rfl dX10_save_22 ?_
        refine j_get (pc := 23) C (Or.inl (List.mem_of_getElem? (i := 0) rfl)) rfl fX10_save_X10 0 (by decide) (List.mem_of_getElem? (i := 4) rfl) (Or.inl rfl) rfl dX10_save_23 ?_
        refine j_iload_n (pc := 26) C 1 1 rfl rfl dX10_save_26 ?_
        refine j_iald (pc := 27) C (Or.inr r2) rfl (by omega) (by decide) dX10_save_27 ?_
        refine j_iast (pc := 28) (ws' := [(h, oC 9 [.ref (r 0), .ref (r 1), vI (ms_w S), vI (ms_l S), vL (ms_s S), vI (ms_a S), vI (ms_t S), vI (ms_p S), vI (g_np (gSS G (ms_s S))), .ref (r 9), .ref (r 10), .ref (r 11), .ref (r 12), .ref (r 13), vI (g_nc (gSS G (ms_s S))), .ref (r 15), .ref (r 16), .ref (r 17), vI (g_pl (gSS G (ms_s S))), .ref (r 19), vI (g_ik (gSS G (ms_s S))), vL (g_ks (gSS G (ms_s S))), .ref (r 22), vL (g_ss (gSS G (ms_s S))), .ref (r 24), vI (g_fa (gSS G (ms_s S))), vI (g_iw (gSS G (ms_s S))), vI (g_nw (gSS G (ms_s S))), vI (g_ns (gSS G (ms_s S))), vI (g_ne (gSS G (ms_s S))), .ref (r 30), .ref (r 31), .ref (r 32), .ref (r 33), vL (g_h (gSS G (ms_s S)))]), ((r 24), aI (Y 0) 432 (up w i (ms_m S i)))]) C 1 rfl rfl (by omega) (by decide) rfl dX10_save_28 ?_
        refine j_iinc (pc := 29) (lc' := [(1, vI (i + 1)), (0, .ref h)]) C 1 rfl (by decide) rfl dX10_save_29 ?_
        refine j_goto (pc := 32) C 10 rfl dX10_save_32 ?_
        refine j_locals (lc' := [(0, .ref h), (1, vI (i + 1))]) [1, 0] rfl ?_
        exact ih10 (i + 1) (up w i (ms_m S i)) (by omega) (by omega) (up_agree i10_1)
  refine j_locals (lc' := [(0, .ref h), (1, vI 0)]) [1, 0] rfl ?_
  exact hL10 _ 0 v (Nat.lt_succ_self _) (by omega) (fun j h0 h1 => by omega)

theorem fX10_back_X10 : ∀ w ∈ u_ws RX10 TX10 35, w ∈ wsX10_back := j_words [11, 12, 13, 14, 15, 16, 17, 18, 19, 20, 21, 22, 23, 24, 25, 26, 27, 28, 29, 30, 31, 32, 33, 34, 35, 36, 37, 38, 39, 40, 41, 42, 43, 44, 45] (by decide +kernel)
set_option maxHeartbeats 4000000 in
set_option maxRecDepth 100000 in
theorem m_back (l : Launch) (D : va_G) (Y : Nat → ClassId) (RO : va_W) (h : Nat) (r : Nat → Nat) (S : MS) (T : MS) (G : GS) (rs : ((r 24), aI (Y 0) 432 (packS S)) ∈ RO) (hss : g_ss G = ms_s S) : jMv l yX10_back wsX10_back { frames := 0, cells := 0, slots := 0, locals := 0 } D Y RO [.ref h] [(h, oC 9 [.ref (r 0), .ref (r 1), vI (ms_w T), vI (ms_l T), vL (ms_s T), vI (ms_a T), vI (ms_t T), vI (ms_p T), vI (g_np G), .ref (r 9), .ref (r 10), .ref (r 11), .ref (r 12), .ref (r 13), vI (g_nc G), .ref (r 15), .ref (r 16), .ref (r 17), vI (g_pl G), .ref (r 19), vI (g_ik G), vL (g_ks G), .ref (r 22), vL (g_ss G), .ref (r 24), vI (g_fa G), vI (g_iw G), vI (g_nw G), vI (g_ns G), vI (g_ne G), .ref (r 30), .ref (r 31), .ref (r 32), .ref (r 33), vL (g_h G)]), ((r 1), aI (Y 0) 7 (ms_h T)), ((r 0), aI (Y 0) 420 (ms_m T))] (fun w1 => w1 = [(h, oC 9 [.ref (r 0), .ref (r 1), vI (ms_w S), vI (ms_l S), vL (ms_s S), vI (ms_a S), vI (ms_t S), vI (ms_p S), vI (g_np G), .ref (r 9), .ref (r 10), .ref (r 11), .ref (r 12), .ref (r 13), vI (g_nc G), .ref (r 15), .ref (r 16), .ref (r 17), vI (g_pl G), .ref (r 19), vI (g_ik G), vL (g_ks G), .ref (r 22), vL (g_ss G), .ref (r 24), vI (g_fa G), vI (g_iw G), vI (g_nw G), vI (g_ns G), vI (g_ne G), .ref (r 30), .ref (r 31), .ref (r 32), .ref (r 33), vL (g_h G)]), ((r 1), aI (Y 0) 7 (ms_h S)), ((r 0), aI (Y 0) 420 (ms_m S))]) := by
  refine j_ofv RX10 rfl rfl rfl (Nat.le_of_ble_eq_true rfl) (fun X C Rt hI => ?_)
  refine j_aload_n (pc := 0) C 0 0 rfl rfl dX10_back_0 ?_
  refine j_aload_n (pc := 1) C 0 0 rfl rfl dX10_back_1 ?_
  refine j_get (pc := 2) C (Or.inl (List.mem_of_getElem? (i := 0) rfl)) rfl fX10_back_X10 23 (by decide) (List.mem_of_getElem? (i := 1) rfl) (Or.inl rfl) rfl dX10_back_2 ?_
  refine j_put (pc := 5) (ws' := [(h, oC 9 [.ref (r 0), .ref (r 1), vI (ms_w T), vI (ms_l T), vL (g_ss G), vI (ms_a T), vI (ms_t T), vI (ms_p T), vI (g_np G), .ref (r 9), .ref (r 10), .ref (r 11), .ref (r 12), .ref (r 13), vI (g_nc G), .ref (r 15), .ref (r 16), .ref (r 17), vI (g_pl G), .ref (r 19), vI (g_ik G), vL (g_ks G), .ref (r 22), vL (g_ss G), .ref (r 24), vI (g_fa G), vI (g_iw G), vI (g_nw G), vI (g_ns G), vI (g_ne G), .ref (r 30), .ref (r 31), .ref (r 32), .ref (r 33), vL (g_h G)]), ((r 1), aI (Y 0) 7 (ms_h T)), ((r 0), aI (Y 0) 420 (ms_m T))]) C 0 rfl rfl fX10_back_X10 tyX10_ok nmX10 4 (by decide) (List.mem_of_getElem? (i := 2) rfl) (Or.inl rfl) rfl rfl rfl rfl (Nat.le_of_ble_eq_true rfl) rfl dX10_back_5 ?_
  refine j_iconst (pc := 8) C dX10_back_8 ?_
  refine j_istore_n (pc := 9) (lc' := [(1, vI 0), (0, .ref h)]) C 1 rfl (by decide) rfl dX10_back_9 ?_
  have hL10 : ∀ (N10 : Nat) (i : Int) (w : Int → Int), ((420 - i).toNat) < N10 → (0 ≤ i ∧ i ≤ 420) → (∀ j : Int, 0 ≤ j → j < i → w j = packS S j) → jW X 2 0 0 [(h, oC 9 [.ref (r 0), .ref (r 1), vI (ms_w T), vI (ms_l T), vL (g_ss G), vI (ms_a T), vI (ms_t T), vI (ms_p T), vI (g_np G), .ref (r 9), .ref (r 10), .ref (r 11), .ref (r 12), .ref (r 13), vI (g_nc G), .ref (r 15), .ref (r 16), .ref (r 17), vI (g_pl G), .ref (r 19), vI (g_ik G), vL (g_ks G), .ref (r 22), vL (g_ss G), .ref (r 24), vI (g_fa G), vI (g_iw G), vI (g_nw G), vI (g_ns G), vI (g_ne G), .ref (r 30), .ref (r 31), .ref (r 32), .ref (r 33), vL (g_h G)]), ((r 1), aI (Y 0) 7 (ms_h T)), ((r 0), aI (Y 0) 420 w)] [(0, .ref h), (1, vI i)] 10 [] := by
    intro N10
    induction N10 with
    | zero => intro i w hm10 i10_0 i10_1; omega
    | succ N10 ih10 =>
      intro i w hm10 i10_0 i10_1
      refine j_iload_n (pc := 10) C 1 1 rfl rfl dX10_back_10 ?_
      refine j_sipush (pc := 11) (w := 420) C rfl dX10_back_11 ?_
      refine j_icmp_ge (pc := 14) C 35 rfl (by omega) dX10_back_14 (fun h_1p14 => ?_) (fun h_1p14 => ?_)
      · skip
        refine j_iconst (pc := 35) C dX10_back_35 ?_
        refine j_istore_n (pc := 36) (lc' := [(1, vI 0), (0, .ref h)]) C 1 rfl (by decide) rfl dX10_back_36 ?_
        have hL37 : ∀ (N37 : Nat) (i2 : Int) (w2 : Int → Int), ((7 - i2).toNat) < N37 → (0 ≤ i2 ∧ i2 ≤ 7) → (∀ j : Int, 0 ≤ j → j < i2 → w2 j = packS S (420 + j)) → jW X 2 0 0 [(h, oC 9 [.ref (r 0), .ref (r 1), vI (ms_w T), vI (ms_l T), vL (g_ss G), vI (ms_a T), vI (ms_t T), vI (ms_p T), vI (g_np G), .ref (r 9), .ref (r 10), .ref (r 11), .ref (r 12), .ref (r 13), vI (g_nc G), .ref (r 15), .ref (r 16), .ref (r 17), vI (g_pl G), .ref (r 19), vI (g_ik G), vL (g_ks G), .ref (r 22), vL (g_ss G), .ref (r 24), vI (g_fa G), vI (g_iw G), vI (g_nw G), vI (g_ns G), vI (g_ne G), .ref (r 30), .ref (r 31), .ref (r 32), .ref (r 33), vL (g_h G)]), ((r 1), aI (Y 0) 7 w2), ((r 0), aI (Y 0) 420 w)] [(0, .ref h), (1, vI i2)] 37 [] := by
          intro N37
          induction N37 with
          | zero => intro i2 w2 hm37 i37_0 i37_1; omega
          | succ N37 ih37 =>
            intro i2 w2 hm37 i37_0 i37_1
            refine j_iload_n (pc := 37) C 1 1 rfl rfl dX10_back_37 ?_
            refine j_bipush (pc := 38) (w := 7) C rfl dX10_back_38 ?_
            refine j_icmp_ge (pc := 40) C 65 rfl (by omega) dX10_back_40 (fun h_2p40 => ?_) (fun h_2p40 => ?_)
            · skip
              refine j_aload_n (pc := 65) C 0 0 rfl rfl dX10_back_65 ?_
              refine j_aload_n (pc := 66) C 0 0 rfl rfl dX10_back_66 ?_
              refine j_get (pc := 67) C (Or.inl (List.mem_of_getElem? (i := 0) rfl)) rfl fX10_back_X10 24 (by decide) (List.mem_of_getElem? (i := 4) rfl) (Or.inl rfl) rfl dX10_back_67 ?_
              refine j_sipush (pc := 70) (w := 427) C rfl dX10_back_70 ?_
              refine j_iald (pc := 73) C (Or.inr rs) rfl (by omega) (by decide) dX10_back_73 ?_
              refine j_put (pc := 74) (ws' := [(h, oC 9 [.ref (r 0), .ref (r 1), vI (packS S 427), vI (ms_l T), vL (g_ss G), vI (ms_a T), vI (ms_t T), vI (ms_p T), vI (g_np G), .ref (r 9), .ref (r 10), .ref (r 11), .ref (r 12), .ref (r 13), vI (g_nc G), .ref (r 15), .ref (r 16), .ref (r 17), vI (g_pl G), .ref (r 19), vI (g_ik G), vL (g_ks G), .ref (r 22), vL (g_ss G), .ref (r 24), vI (g_fa G), vI (g_iw G), vI (g_nw G), vI (g_ns G), vI (g_ne G), .ref (r 30), .ref (r 31), .ref (r 32), .ref (r 33), vL (g_h G)]), ((r 1), aI (Y 0) 7 w2), ((r 0), aI (Y 0) 420 w)]) C 0 rfl rfl fX10_back_X10 tyX10_ok nmX10 2 (by decide) (List.mem_of_getElem? (i := 6) rfl) (Or.inl rfl) rfl rfl rfl rfl (Nat.le_of_ble_eq_true rfl) rfl dX10_back_74 ?_
              refine j_aload_n (pc := 77) C 0 0 rfl rfl dX10_back_77 ?_
              refine j_aload_n (pc := 78) C 0 0 rfl rfl dX10_back_78 ?_
              refine j_get (pc := 79) C (Or.inl (List.mem_of_getElem? (i := 0) rfl)) rfl fX10_back_X10 24 (by decide) (List.mem_of_getElem? (i := 4) rfl) (Or.inl rfl) rfl dX10_back_79 ?_
              refine j_sipush (pc := 82) (w := 428) C rfl dX10_back_82 ?_
              refine j_iald (pc := 85) C (Or.inr rs) rfl (by omega) (by decide) dX10_back_85 ?_
              refine j_put (pc := 86) (ws' := [(h, oC 9 [.ref (r 0), .ref (r 1), vI (packS S 427), vI (packS S 428), vL (g_ss G), vI (ms_a T), vI (ms_t T), vI (ms_p T), vI (g_np G), .ref (r 9), .ref (r 10), .ref (r 11), .ref (r 12), .ref (r 13), vI (g_nc G), .ref (r 15), .ref (r 16), .ref (r 17), vI (g_pl G), .ref (r 19), vI (g_ik G), vL (g_ks G), .ref (r 22), vL (g_ss G), .ref (r 24), vI (g_fa G), vI (g_iw G), vI (g_nw G), vI (g_ns G), vI (g_ne G), .ref (r 30), .ref (r 31), .ref (r 32), .ref (r 33), vL (g_h G)]), ((r 1), aI (Y 0) 7 w2), ((r 0), aI (Y 0) 420 w)]) C 0 rfl rfl fX10_back_X10 tyX10_ok nmX10 3 (by decide) (List.mem_of_getElem? (i := 7) rfl) (Or.inl rfl) rfl rfl rfl rfl (Nat.le_of_ble_eq_true rfl) rfl dX10_back_86 ?_
              refine j_aload_n (pc := 89) C 0 0 rfl rfl dX10_back_89 ?_
              refine j_aload_n (pc := 90) C 0 0 rfl rfl dX10_back_90 ?_
              refine j_get (pc := 91) C (Or.inl (List.mem_of_getElem? (i := 0) rfl)) rfl fX10_back_X10 24 (by decide) (List.mem_of_getElem? (i := 4) rfl) (Or.inl rfl) rfl dX10_back_91 ?_
              refine j_sipush (pc := 94) (w := 429) C rfl dX10_back_94 ?_
              refine j_iald (pc := 97) C (Or.inr rs) rfl (by omega) (by decide) dX10_back_97 ?_
              refine j_put (pc := 98) (ws' := [(h, oC 9 [.ref (r 0), .ref (r 1), vI (packS S 427), vI (packS S 428), vL (g_ss G), vI (packS S 429), vI (ms_t T), vI (ms_p T), vI (g_np G), .ref (r 9), .ref (r 10), .ref (r 11), .ref (r 12), .ref (r 13), vI (g_nc G), .ref (r 15), .ref (r 16), .ref (r 17), vI (g_pl G), .ref (r 19), vI (g_ik G), vL (g_ks G), .ref (r 22), vL (g_ss G), .ref (r 24), vI (g_fa G), vI (g_iw G), vI (g_nw G), vI (g_ns G), vI (g_ne G), .ref (r 30), .ref (r 31), .ref (r 32), .ref (r 33), vL (g_h G)]), ((r 1), aI (Y 0) 7 w2), ((r 0), aI (Y 0) 420 w)]) C 0 rfl rfl fX10_back_X10 tyX10_ok nmX10 5 (by decide) (List.mem_of_getElem? (i := 8) rfl) (Or.inl rfl) rfl rfl rfl rfl (Nat.le_of_ble_eq_true rfl) rfl dX10_back_98 ?_
              refine j_aload_n (pc := 101) C 0 0 rfl rfl dX10_back_101 ?_
              refine j_aload_n (pc := 102) C 0 0 rfl rfl dX10_back_102 ?_
              refine j_get (pc := 103) C (Or.inl (List.mem_of_getElem? (i := 0) rfl)) rfl fX10_back_X10 24 (by decide) (List.mem_of_getElem? (i := 4) rfl) (Or.inl rfl) rfl dX10_back_103 ?_
              refine j_sipush (pc := 106) (w := 430) C rfl dX10_back_106 ?_
              refine j_iald (pc := 109) C (Or.inr rs) rfl (by omega) (by decide) dX10_back_109 ?_
              refine j_put (pc := 110) (ws' := [(h, oC 9 [.ref (r 0), .ref (r 1), vI (packS S 427), vI (packS S 428), vL (g_ss G), vI (packS S 429), vI (packS S 430), vI (ms_p T), vI (g_np G), .ref (r 9), .ref (r 10), .ref (r 11), .ref (r 12), .ref (r 13), vI (g_nc G), .ref (r 15), .ref (r 16), .ref (r 17), vI (g_pl G), .ref (r 19), vI (g_ik G), vL (g_ks G), .ref (r 22), vL (g_ss G), .ref (r 24), vI (g_fa G), vI (g_iw G), vI (g_nw G), vI (g_ns G), vI (g_ne G), .ref (r 30), .ref (r 31), .ref (r 32), .ref (r 33), vL (g_h G)]), ((r 1), aI (Y 0) 7 w2), ((r 0), aI (Y 0) 420 w)]) C 0 rfl rfl fX10_back_X10 tyX10_ok nmX10 6 (by decide) (List.mem_of_getElem? (i := 9) rfl) (Or.inl rfl) rfl rfl rfl rfl (Nat.le_of_ble_eq_true rfl) rfl dX10_back_110 ?_
              refine j_aload_n (pc := 113) C 0 0 rfl rfl dX10_back_113 ?_
              refine j_aload_n (pc := 114) C 0 0 rfl rfl dX10_back_114 ?_
              refine j_get (pc := 115) C (Or.inl (List.mem_of_getElem? (i := 0) rfl)) rfl fX10_back_X10 24 (by decide) (List.mem_of_getElem? (i := 4) rfl) (Or.inl rfl) rfl dX10_back_115 ?_
              refine j_sipush (pc := 118) (w := 431) C rfl dX10_back_118 ?_
              refine j_iald (pc := 121) C (Or.inr rs) rfl (by omega) (by decide) dX10_back_121 ?_
              refine j_put (pc := 122) (ws' := [(h, oC 9 [.ref (r 0), .ref (r 1), vI (packS S 427), vI (packS S 428), vL (g_ss G), vI (packS S 429), vI (packS S 430), vI (packS S 431), vI (g_np G), .ref (r 9), .ref (r 10), .ref (r 11), .ref (r 12), .ref (r 13), vI (g_nc G), .ref (r 15), .ref (r 16), .ref (r 17), vI (g_pl G), .ref (r 19), vI (g_ik G), vL (g_ks G), .ref (r 22), vL (g_ss G), .ref (r 24), vI (g_fa G), vI (g_iw G), vI (g_nw G), vI (g_ns G), vI (g_ne G), .ref (r 30), .ref (r 31), .ref (r 32), .ref (r 33), vL (g_h G)]), ((r 1), aI (Y 0) 7 w2), ((r 0), aI (Y 0) 420 w)]) C 0 rfl rfl fX10_back_X10 tyX10_ok nmX10 7 (by decide) (List.mem_of_getElem? (i := 10) rfl) (Or.inl rfl) rfl rfl rfl rfl (Nat.le_of_ble_eq_true rfl) rfl dX10_back_122 ?_
              refine j_ext (ws' := [(h, oC 9 [.ref (r 0), .ref (r 1), vI (packS S 427), vI (packS S 428), vL (g_ss G), vI (packS S 429), vI (packS S 430), vI (packS S 431), vI (g_np G), .ref (r 9), .ref (r 10), .ref (r 11), .ref (r 12), .ref (r 13), vI (g_nc G), .ref (r 15), .ref (r 16), .ref (r 17), vI (g_pl G), .ref (r 19), vI (g_ik G), vL (g_ks G), .ref (r 22), vL (g_ss G), .ref (r 24), vI (g_fa G), vI (g_iw G), vI (g_nw G), vI (g_ns G), vI (g_ne G), .ref (r 30), .ref (r 31), .ref (r 32), .ref (r 33), vL (g_h G)]), ((r 1), aI (Y 0) 7 (ms_h S)), ((r 0), aI (Y 0) 420 w)]) 1 rfl (fun j hj => (i37_1 j hj.1 (by omega)).trans (packS_h ⟨hj.1, by omega⟩)) rfl ?_
              refine j_ext (ws' := [(h, oC 9 [.ref (r 0), .ref (r 1), vI (packS S 427), vI (packS S 428), vL (g_ss G), vI (packS S 429), vI (packS S 430), vI (packS S 431), vI (g_np G), .ref (r 9), .ref (r 10), .ref (r 11), .ref (r 12), .ref (r 13), vI (g_nc G), .ref (r 15), .ref (r 16), .ref (r 17), vI (g_pl G), .ref (r 19), vI (g_ik G), vL (g_ks G), .ref (r 22), vL (g_ss G), .ref (r 24), vI (g_fa G), vI (g_iw G), vI (g_nw G), vI (g_ns G), vI (g_ne G), .ref (r 30), .ref (r 31), .ref (r 32), .ref (r 33), vL (g_h G)]), ((r 1), aI (Y 0) 7 (ms_h S)), ((r 0), aI (Y 0) 420 (ms_m S))]) 2 rfl (fun j hj => (i10_1 j hj.1 (by omega)).trans (packS_m (by omega))) rfl ?_
              exact Rt _ _ _ _ _ (by decide) (by decide) (by rw [hss]; first | done | rfl) dX10_back_125
            · skip
              refine j_aload_n (pc := 43) C 0 0 rfl rfl dX10_back_43 ?_
              refine j_get (pc := 44) C (Or.inl (List.mem_of_getElem? (i := 0) rfl)) rfl fX10_back_X10 1 (by decide) (List.mem_of_getElem? (i := 5) rfl) (Or.inl rfl) rfl dX10_back_44 ?_
              refine j_iload_n (pc := 47) C 1 1 rfl rfl dX10_back_47 ?_
              refine j_aload_n (pc := 48) C 0 0 rfl rfl dX10_back_48 ?_
              refine j_get (pc := 49) C (Or.inl (List.mem_of_getElem? (i := 0) rfl)) rfl fX10_back_X10 24 (by decide) (List.mem_of_getElem? (i := 4) rfl) (Or.inl rfl) rfl dX10_back_49 ?_
              refine j_sipush (pc := 52) (w := 420) C rfl dX10_back_52 ?_
              refine j_iload_n (pc := 55) C 1 1 rfl rfl dX10_back_55 ?_
              refine j_iadd (pc := 56) C dX10_back_56 ?_
              refine j_iald (pc := 57) C (Or.inr rs) rfl (by omega) (by decide) dX10_back_57 ?_
              refine j_iast (pc := 58) (ws' := [(h, oC 9 [.ref (r 0), .ref (r 1), vI (ms_w T), vI (ms_l T), vL (g_ss G), vI (ms_a T), vI (ms_t T), vI (ms_p T), vI (g_np G), .ref (r 9), .ref (r 10), .ref (r 11), .ref (r 12), .ref (r 13), vI (g_nc G), .ref (r 15), .ref (r 16), .ref (r 17), vI (g_pl G), .ref (r 19), vI (g_ik G), vL (g_ks G), .ref (r 22), vL (g_ss G), .ref (r 24), vI (g_fa G), vI (g_iw G), vI (g_nw G), vI (g_ns G), vI (g_ne G), .ref (r 30), .ref (r 31), .ref (r 32), .ref (r 33), vL (g_h G)]), ((r 1), aI (Y 0) 7 (up w2 i2 (packS S (420 + i2)))), ((r 0), aI (Y 0) 420 w)]) C 1 rfl rfl (by omega) (by decide) rfl dX10_back_58 ?_
              refine j_iinc (pc := 59) (lc' := [(1, vI (i2 + 1)), (0, .ref h)]) C 1 rfl (by decide) rfl dX10_back_59 ?_
              refine j_goto (pc := 62) C 37 rfl dX10_back_62 ?_
              refine j_locals (lc' := [(0, .ref h), (1, vI (i2 + 1))]) [1, 0] rfl ?_
              exact ih37 (i2 + 1) (up w2 i2 (packS S (420 + i2))) (by omega) (by omega) (up_agree (f := fun j => packS S (420 + j)) i37_1)
        refine j_locals (lc' := [(0, .ref h), (1, vI 0)]) [1, 0] rfl ?_
        exact hL37 _ 0 (ms_h T) (Nat.lt_succ_self _) (by omega) (fun j h0 h1 => by omega)
      · skip
        refine j_aload_n (pc := 17) C 0 0 rfl rfl dX10_back_17 ?_
        refine j_get (pc := 18) C (Or.inl (List.mem_of_getElem? (i := 0) rfl)) rfl fX10_back_X10 0 (by decide) (List.mem_of_getElem? (i := 3) rfl) (Or.inl rfl) rfl dX10_back_18 ?_
        refine j_iload_n (pc := 21) C 1 1 rfl rfl dX10_back_21 ?_
        refine j_aload_n (pc := 22) C 0 0 rfl rfl dX10_back_22 ?_
        refine j_get (pc := 23) C (Or.inl (List.mem_of_getElem? (i := 0) rfl)) rfl fX10_back_X10 24 (by decide) (List.mem_of_getElem? (i := 4) rfl) (Or.inl rfl) rfl dX10_back_23 ?_
        refine j_iload_n (pc := 26) C 1 1 rfl rfl dX10_back_26 ?_
        refine j_iald (pc := 27) C (Or.inr rs) rfl (by omega) (by decide) dX10_back_27 ?_
        refine j_iast (pc := 28) (ws' := [(h, oC 9 [.ref (r 0), .ref (r 1), vI (ms_w T), vI (ms_l T), vL (g_ss G), vI (ms_a T), vI (ms_t T), vI (ms_p T), vI (g_np G), .ref (r 9), .ref (r 10), .ref (r 11), .ref (r 12), .ref (r 13), vI (g_nc G), .ref (r 15), .ref (r 16), .ref (r 17), vI (g_pl G), .ref (r 19), vI (g_ik G), vL (g_ks G), .ref (r 22), vL (g_ss G), .ref (r 24), vI (g_fa G), vI (g_iw G), vI (g_nw G), vI (g_ns G), vI (g_ne G), .ref (r 30), .ref (r 31), .ref (r 32), .ref (r 33), vL (g_h G)]), ((r 1), aI (Y 0) 7 (ms_h T)), ((r 0), aI (Y 0) 420 (up w i (packS S i)))]) C 2 rfl rfl (by omega) (by decide) rfl dX10_back_28 ?_
        refine j_iinc (pc := 29) (lc' := [(1, vI (i + 1)), (0, .ref h)]) C 1 rfl (by decide) rfl dX10_back_29 ?_
        refine j_goto (pc := 32) C 10 rfl dX10_back_32 ?_
        refine j_locals (lc' := [(0, .ref h), (1, vI (i + 1))]) [1, 0] rfl ?_
        exact ih10 (i + 1) (up w i (packS S i)) (by omega) (by omega) (up_agree i10_1)
  refine j_locals (lc' := [(0, .ref h), (1, vI 0)]) [1, 0] rfl ?_
  exact hL10 _ 0 (ms_m T) (Nat.lt_succ_self _) (by omega) (fun j h0 h1 => by omega)

theorem fX10_isCustom_X10 : ∀ w ∈ u_ws RX10 TX10 35, w ∈ wsX10_isCustom := j_words [6, 7, 8, 9, 10, 11, 12, 13, 14, 15, 16, 17, 18, 19, 20, 21, 22, 23, 24, 25, 26, 27, 28, 29, 30, 31, 32, 33, 34, 35, 36, 37, 38, 39, 40] (by decide +kernel)
set_option maxHeartbeats 4000000 in
set_option maxRecDepth 100000 in
theorem m_isCustom (l : Launch) (D : va_G) (Y : Nat → ClassId) (RO : va_W) (h : Nat) (r : Nat → Nat) (S : MS) (G : GS) (c : Int) (r0 : (h, oC 9 [.ref (r 0), .ref (r 1), vI (ms_w S), vI (ms_l S), vL (ms_s S), vI (ms_a S), vI (ms_t S), vI (ms_p S), vI (g_np G), .ref (r 9), .ref (r 10), .ref (r 11), .ref (r 12), .ref (r 13), vI (g_nc G), .ref (r 15), .ref (r 16), .ref (r 17), vI (g_pl G), .ref (r 19), vI (g_ik G), vL (g_ks G), .ref (r 22), vL (g_ss G), .ref (r 24), vI (g_fa G), vI (g_iw G), vI (g_nw G), vI (g_ns G), vI (g_ne G), .ref (r 30), .ref (r 31), .ref (r 32), .ref (r 33), vL (g_h G)]) ∈ RO) (hc : -2147483648 ≤ c ∧ c ≤ 2147483647) (hnc : 0 ≤ g_nc G ∧ g_nc G ≤ 4) : jMi l yX10_isCustom wsX10_isCustom { frames := 1, cells := 0, slots := 0, locals := 22 } D Y RO [.ref h, vI c] [] (fun e w1 => e = (if 0 ≤ c ∧ c ≤ (g_nc G - 1) then 1 else 0) ∧ w1 = []) := by
  refine j_ofz RX10 rfl rfl rfl (Nat.le_of_ble_eq_true rfl) (fun X C Rt => ?_)
  refine j_iload_n (pc := 0) C 1 1 rfl rfl dX10_isCustom_0 ?_
  refine j_iconst (pc := 1) C dX10_isCustom_1 ?_
  refine j_aload_n (pc := 2) C 0 0 rfl rfl dX10_isCustom_2 ?_
  refine j_get (pc := 3) C (Or.inr r0) rfl fX10_isCustom_X10 14 (by decide) (List.mem_of_getElem? (i := 1) rfl) (Or.inl rfl) rfl dX10_isCustom_3 ?_
  refine j_iconst (pc := 6) C dX10_isCustom_6 ?_
  refine j_isub (pc := 7) C dX10_isCustom_7 ?_
  refine j_callSi (pc := 8) (As := [vI c, vI 0, vI (g_nc G - 1)]) (na := 3) (st := []) C [] [] (wr := []) (fun l => m_within l D Y _ c 0 (g_nc G - 1) (by first | assumption | omega) (by first | assumption | omega) (by first | assumption | omega)) rfl rfl rfl rfl (by decide) rfl gX10_isCustom_X10_within (by decide +kernel) (by decide) rfl rfl (Nat.le_of_ble_eq_true rfl) (by decide) dX10_isCustom_8 (fun e_1 w_2 h_3 => ?_)
  obtain ⟨rfl, rfl⟩ := h_3
  refine j_perm (ws' := []) [] rfl rfl ?_
  exact Rt _ _ _ _ _ _ (by decide) (by decide) (by split <;> simp) ⟨rfl, rfl⟩ dX10_isCustom_11

theorem fX10_isParish_X10 : ∀ w ∈ u_ws RX10 TX10 35, w ∈ wsX10_isParish := j_words [6, 7, 8, 9, 10, 11, 12, 13, 14, 15, 16, 17, 18, 19, 20, 21, 22, 23, 24, 25, 26, 27, 28, 29, 30, 31, 32, 33, 34, 35, 36, 37, 38, 39, 40] (by decide +kernel)
set_option maxHeartbeats 4000000 in
set_option maxRecDepth 100000 in
theorem m_isParish (l : Launch) (D : va_G) (Y : Nat → ClassId) (RO : va_W) (h : Nat) (r : Nat → Nat) (S : MS) (G : GS) (c : Int) (r0 : (h, oC 9 [.ref (r 0), .ref (r 1), vI (ms_w S), vI (ms_l S), vL (ms_s S), vI (ms_a S), vI (ms_t S), vI (ms_p S), vI (g_np G), .ref (r 9), .ref (r 10), .ref (r 11), .ref (r 12), .ref (r 13), vI (g_nc G), .ref (r 15), .ref (r 16), .ref (r 17), vI (g_pl G), .ref (r 19), vI (g_ik G), vL (g_ks G), .ref (r 22), vL (g_ss G), .ref (r 24), vI (g_fa G), vI (g_iw G), vI (g_nw G), vI (g_ns G), vI (g_ne G), .ref (r 30), .ref (r 31), .ref (r 32), .ref (r 33), vL (g_h G)]) ∈ RO) (hc : -2147483648 ≤ c ∧ c ≤ 2147483647) (hnp : 0 ≤ g_np G ∧ g_np G ≤ 6) : jMi l yX10_isParish wsX10_isParish { frames := 1, cells := 0, slots := 0, locals := 22 } D Y RO [.ref h, vI c] [] (fun e w1 => e = (if 0 ≤ c ∧ c ≤ (g_np G - 1) then 1 else 0) ∧ w1 = []) := by
  refine j_ofz RX10 rfl rfl rfl (Nat.le_of_ble_eq_true rfl) (fun X C Rt => ?_)
  refine j_iload_n (pc := 0) C 1 1 rfl rfl dX10_isParish_0 ?_
  refine j_iconst (pc := 1) C dX10_isParish_1 ?_
  refine j_aload_n (pc := 2) C 0 0 rfl rfl dX10_isParish_2 ?_
  refine j_get (pc := 3) C (Or.inr r0) rfl fX10_isParish_X10 8 (by decide) (List.mem_of_getElem? (i := 1) rfl) (Or.inl rfl) rfl dX10_isParish_3 ?_
  refine j_iconst (pc := 6) C dX10_isParish_6 ?_
  refine j_isub (pc := 7) C dX10_isParish_7 ?_
  refine j_callSi (pc := 8) (As := [vI c, vI 0, vI (g_np G - 1)]) (na := 3) (st := []) C [] [] (wr := []) (fun l => m_within l D Y _ c 0 (g_np G - 1) (by first | assumption | omega) (by first | assumption | omega) (by first | assumption | omega)) rfl rfl rfl rfl (by decide) rfl gX10_isParish_X10_within (by decide +kernel) (by decide) rfl rfl (Nat.le_of_ble_eq_true rfl) (by decide) dX10_isParish_8 (fun e_1 w_2 h_3 => ?_)
  obtain ⟨rfl, rfl⟩ := h_3
  refine j_perm (ws' := []) [] rfl rfl ?_
  exact Rt _ _ _ _ _ _ (by decide) (by decide) (by split <;> simp) ⟨rfl, rfl⟩ dX10_isParish_11

theorem fX10_customNow_X10 : ∀ w ∈ u_ws RX10 TX10 35, w ∈ wsX10_customNow := j_words [4, 5, 6, 7, 8, 9, 10, 11, 12, 13, 14, 15, 16, 17, 18, 19, 20, 21, 22, 23, 24, 25, 26, 27, 28, 29, 30, 31, 32, 33, 34, 35, 36, 37, 38] (by decide +kernel)
set_option maxHeartbeats 4000000 in
set_option maxRecDepth 100000 in
theorem m_customNow (l : Launch) (D : va_G) (Y : Nat → ClassId) (RO : va_W) (h : Nat) (r : Nat → Nat) (S : MS) (G : GS) (cs : Int → CT) (c : Int) (w : Int) (r0 : (h, oC 9 [.ref (r 0), .ref (r 1), vI (ms_w S), vI (ms_l S), vL (ms_s S), vI (ms_a S), vI (ms_t S), vI (ms_p S), vI (g_np G), .ref (r 9), .ref (r 10), .ref (r 11), .ref (r 12), .ref (r 13), vI (g_nc G), .ref (r 15), .ref (r 16), .ref (r 17), vI (g_pl G), .ref (r 19), vI (g_ik G), vL (g_ks G), .ref (r 22), vL (g_ss G), .ref (r 24), vI (g_fa G), vI (g_iw G), vI (g_nw G), vI (g_ns G), vI (g_ne G), .ref (r 30), .ref (r 31), .ref (r 32), .ref (r 33), vL (g_h G)]) ∈ RO) (q0 : ((r 15), aI (Y 0) 4 (cwof cs)) ∈ RO) (q1 : ((r 16), aI (Y 0) 4 (czof cs)) ∈ RO) (q2 : ((r 17), aI (Y 0) 4 (ceof cs)) ∈ RO) (hc : 0 ≤ c ∧ c < 4) (hw : -2147483648 ≤ w ∧ w ≤ 2147483647) : jMi l yX10_customNow wsX10_customNow { frames := 0, cells := 0, slots := 0, locals := 0 } D Y RO [.ref h, vI c, vI w] [] (fun e w1 => e = toldC (cs c) w ∧ w1 = []) := by
  refine j_ofi RX10 rfl rfl rfl (Nat.le_of_ble_eq_true rfl) (fun X C Rt => ?_)
  refine j_iload_n (pc := 0) C 2 2 rfl rfl dX10_customNow_0 ?_
  refine j_if_ne (pc := 1) C 13 rfl (by omega) dX10_customNow_1 (fun h_1p1 => ?_) (fun h_1p1 => ?_)
  · skip
    refine j_iload_n (pc := 13) C 2 2 rfl rfl dX10_customNow_13 ?_
    refine j_iconst (pc := 14) C dX10_customNow_14 ?_
    refine j_icmp_ne (pc := 15) C 27 rfl (by omega) dX10_customNow_15 (fun h_2p15 => ?_) (fun h_2p15 => ?_)
    · skip
      refine j_aload_n (pc := 27) C 0 0 rfl rfl dX10_customNow_27 ?_
      refine j_get (pc := 28) C (Or.inr r0) rfl fX10_customNow_X10 17 (by decide) (List.mem_of_getElem? (i := 3) rfl) (Or.inl rfl) rfl dX10_customNow_28 ?_
      refine j_iload_n (pc := 31) C 1 1 rfl rfl dX10_customNow_31 ?_
      refine j_iald (pc := 32) C (Or.inr q2) rfl (by omega) (by decide) dX10_customNow_32 ?_
      refine j_st (st' := [vI (ce (cs c))]) rfl rfl rfl ?_
      exact Rt _ _ _ _ _ _ (by decide) (by decide) ⟨by unfold toldC; first | rw [if_pos (by omega)] | (rw [if_neg (by omega)]; first | rw [if_pos (by omega)] | rw [if_neg (by omega)]), rfl⟩ dX10_customNow_33
    · skip
      refine j_aload_n (pc := 18) C 0 0 rfl rfl dX10_customNow_18 ?_
      refine j_get (pc := 19) C (Or.inr r0) rfl fX10_customNow_X10 16 (by decide) (List.mem_of_getElem? (i := 2) rfl) (Or.inl rfl) rfl dX10_customNow_19 ?_
      refine j_iload_n (pc := 22) C 1 1 rfl rfl dX10_customNow_22 ?_
      refine j_iald (pc := 23) C (Or.inr q1) rfl (by omega) (by decide) dX10_customNow_23 ?_
      refine j_st (st' := [vI (cz (cs c))]) rfl rfl rfl ?_
      refine j_goto (pc := 24) C 33 rfl dX10_customNow_24 ?_
      exact Rt _ _ _ _ _ _ (by decide) (by decide) ⟨by unfold toldC; first | rw [if_pos (by omega)] | (rw [if_neg (by omega)]; first | rw [if_pos (by omega)] | rw [if_neg (by omega)]), rfl⟩ dX10_customNow_33
  · skip
    refine j_aload_n (pc := 4) C 0 0 rfl rfl dX10_customNow_4 ?_
    refine j_get (pc := 5) C (Or.inr r0) rfl fX10_customNow_X10 15 (by decide) (List.mem_of_getElem? (i := 1) rfl) (Or.inl rfl) rfl dX10_customNow_5 ?_
    refine j_iload_n (pc := 8) C 1 1 rfl rfl dX10_customNow_8 ?_
    refine j_iald (pc := 9) C (Or.inr q0) rfl (by omega) (by decide) dX10_customNow_9 ?_
    refine j_st (st' := [vI (cw (cs c))]) rfl rfl rfl ?_
    refine j_goto (pc := 10) C 33 rfl dX10_customNow_10 ?_
    exact Rt _ _ _ _ _ _ (by decide) (by decide) ⟨by unfold toldC; first | rw [if_pos (by omega)] | (rw [if_neg (by omega)]; first | rw [if_pos (by omega)] | rw [if_neg (by omega)]), rfl⟩ dX10_customNow_33

theorem fX10_lay_X10 : ∀ w ∈ u_ws RX10 TX10 35, w ∈ wsX10_lay := j_words [21, 22, 23, 24, 25, 26, 27, 28, 29, 30, 31, 32, 33, 34, 35, 36, 37, 38, 39, 40, 41, 42, 43, 44, 45, 46, 47, 48, 49, 50, 51, 52, 53, 54, 55] (by decide +kernel)
set_option maxHeartbeats 4000000 in
set_option maxRecDepth 100000 in
theorem m_lay (l : Launch) (D : va_G) (Y : Nat → ClassId) (RO : va_W) (h : Nat) (r : Nat → Nat) (S : MS) (G : GS) (c : Int) (n : Int)  (hS : okS S) (hc : -2147483648 ≤ c ∧ c ≤ 2147483647) (hn : -2147483648 ≤ n ∧ n ≤ 2147483647) : jMi l yX10_lay wsX10_lay { frames := 2, cells := 0, slots := 0, locals := 45 } D Y RO [.ref h, vI c, vI n] [(h, oC 9 [.ref (r 0), .ref (r 1), vI (ms_w S), vI (ms_l S), vL (ms_s S), vI (ms_a S), vI (ms_t S), vI (ms_p S), vI (g_np G), .ref (r 9), .ref (r 10), .ref (r 11), .ref (r 12), .ref (r 13), vI (g_nc G), .ref (r 15), .ref (r 16), .ref (r 17), vI (g_pl G), .ref (r 19), vI (g_ik G), vL (g_ks G), .ref (r 22), vL (g_ss G), .ref (r 24), vI (g_fa G), vI (g_iw G), vI (g_nw G), vI (g_ns G), vI (g_ne G), .ref (r 30), .ref (r 31), .ref (r 32), .ref (r 33), vL (g_h G)]), ((r 1), aI (Y 0) 7 (ms_h S)), ((r 0), aI (Y 0) 420 (ms_m S))] (fun e w1 => e = rLay c n S ∧ w1 = [(h, oC 9 [.ref (r 0), .ref (r 1), vI (ms_w (sLay c n S)), vI (ms_l (sLay c n S)), vL (ms_s (sLay c n S)), vI (ms_a (sLay c n S)), vI (ms_t (sLay c n S)), vI (ms_p (sLay c n S)), vI (g_np G), .ref (r 9), .ref (r 10), .ref (r 11), .ref (r 12), .ref (r 13), vI (g_nc G), .ref (r 15), .ref (r 16), .ref (r 17), vI (g_pl G), .ref (r 19), vI (g_ik G), vL (g_ks G), .ref (r 22), vL (g_ss G), .ref (r 24), vI (g_fa G), vI (g_iw G), vI (g_nw G), vI (g_ns G), vI (g_ne G), .ref (r 30), .ref (r 31), .ref (r 32), .ref (r 33), vL (g_h G)]), ((r 1), aI (Y 0) 7 (ms_h (sLay c n S))), ((r 0), aI (Y 0) 420 (ms_m (sLay c n S)))]) := by
  refine j_ofi RX10 rfl rfl rfl (Nat.le_of_ble_eq_true rfl) (fun X C Rt => ?_)
  refine j_iload_n (pc := 0) C 1 1 rfl rfl dX10_lay_0 ?_
  refine j_callSi (pc := 1) (As := [vI c]) (na := 1) (st := []) C [] [0, 1, 2] (wr := [(h, oC 9 [.ref (r 0), .ref (r 1), vI (ms_w S), vI (ms_l S), vL (ms_s S), vI (ms_a S), vI (ms_t S), vI (ms_p S), vI (g_np G), .ref (r 9), .ref (r 10), .ref (r 11), .ref (r 12), .ref (r 13), vI (g_nc G), .ref (r 15), .ref (r 16), .ref (r 17), vI (g_pl G), .ref (r 19), vI (g_ik G), vL (g_ks G), .ref (r 22), vL (g_ss G), .ref (r 24), vI (g_fa G), vI (g_iw G), vI (g_nw G), vI (g_ns G), vI (g_ne G), .ref (r 30), .ref (r 31), .ref (r 32), .ref (r 33), vL (g_h G)]), ((r 1), aI (Y 0) 7 (ms_h S)), ((r 0), aI (Y 0) 420 (ms_m S))]) (fun l => m_isCairn l D Y _ c (by first | assumption | omega)) rfl rfl rfl rfl (by decide) rfl gX10_lay_X10_isCairn (by decide +kernel) (by decide) rfl rfl (Nat.le_of_ble_eq_true rfl) (by decide) dX10_lay_1 (fun e_1 w_2 h_3 => ?_)
  obtain ⟨rfl, rfl⟩ := h_3
  refine j_perm (ws' := [(h, oC 9 [.ref (r 0), .ref (r 1), vI (ms_w S), vI (ms_l S), vL (ms_s S), vI (ms_a S), vI (ms_t S), vI (ms_p S), vI (g_np G), .ref (r 9), .ref (r 10), .ref (r 11), .ref (r 12), .ref (r 13), vI (g_nc G), .ref (r 15), .ref (r 16), .ref (r 17), vI (g_pl G), .ref (r 19), vI (g_ik G), vL (g_ks G), .ref (r 22), vL (g_ss G), .ref (r 24), vI (g_fa G), vI (g_iw G), vI (g_nw G), vI (g_ns G), vI (g_ne G), .ref (r 30), .ref (r 31), .ref (r 32), .ref (r 33), vL (g_h G)]), ((r 1), aI (Y 0) 7 (ms_h S)), ((r 0), aI (Y 0) 420 (ms_m S))]) [0, 1, 2] rfl rfl ?_
  refine j_if_neb (pc := 4) C 10 rfl dX10_lay_4 (fun h_4p4 => ?_) (fun h_4p4 => ?_)
  · skip
    refine j_iload_n (pc := 10) C 2 2 rfl rfl dX10_lay_10 ?_
    refine j_iconst (pc := 11) C dX10_lay_11 ?_
    refine j_bipush (pc := 12) (w := 60) C rfl dX10_lay_12 ?_
    refine j_callSi (pc := 14) (As := [vI n, vI 1, vI 60]) (na := 3) (st := []) C [] [0, 1, 2] (wr := [(h, oC 9 [.ref (r 0), .ref (r 1), vI (ms_w S), vI (ms_l S), vL (ms_s S), vI (ms_a S), vI (ms_t S), vI (ms_p S), vI (g_np G), .ref (r 9), .ref (r 10), .ref (r 11), .ref (r 12), .ref (r 13), vI (g_nc G), .ref (r 15), .ref (r 16), .ref (r 17), vI (g_pl G), .ref (r 19), vI (g_ik G), vL (g_ks G), .ref (r 22), vL (g_ss G), .ref (r 24), vI (g_fa G), vI (g_iw G), vI (g_nw G), vI (g_ns G), vI (g_ne G), .ref (r 30), .ref (r 31), .ref (r 32), .ref (r 33), vL (g_h G)]), ((r 1), aI (Y 0) 7 (ms_h S)), ((r 0), aI (Y 0) 420 (ms_m S))]) (fun l => m_within l D Y _ n 1 60 (by first | assumption | omega) (by first | assumption | omega) (by first | assumption | omega)) rfl rfl rfl rfl (by decide) rfl gX10_lay_X10_within (by decide +kernel) (by decide) rfl rfl (Nat.le_of_ble_eq_true rfl) (by decide) dX10_lay_14 (fun e_5 w_6 h_7 => ?_)
    obtain ⟨rfl, rfl⟩ := h_7
    refine j_perm (ws' := [(h, oC 9 [.ref (r 0), .ref (r 1), vI (ms_w S), vI (ms_l S), vL (ms_s S), vI (ms_a S), vI (ms_t S), vI (ms_p S), vI (g_np G), .ref (r 9), .ref (r 10), .ref (r 11), .ref (r 12), .ref (r 13), vI (g_nc G), .ref (r 15), .ref (r 16), .ref (r 17), vI (g_pl G), .ref (r 19), vI (g_ik G), vL (g_ks G), .ref (r 22), vL (g_ss G), .ref (r 24), vI (g_fa G), vI (g_iw G), vI (g_nw G), vI (g_ns G), vI (g_ne G), .ref (r 30), .ref (r 31), .ref (r 32), .ref (r 33), vL (g_h G)]), ((r 1), aI (Y 0) 7 (ms_h S)), ((r 0), aI (Y 0) 420 (ms_m S))]) [0, 1, 2] rfl rfl ?_
    refine j_if_neb (pc := 17) C 23 rfl dX10_lay_17 (fun h_8p17 => ?_) (fun h_8p17 => ?_)
    · skip
      refine j_aload_n (pc := 23) C 0 0 rfl rfl dX10_lay_23 ?_
      refine j_iload_n (pc := 24) C 1 1 rfl rfl dX10_lay_24 ?_
      refine j_iload_n (pc := 25) C 2 2 rfl rfl dX10_lay_25 ?_
      refine j_callVv (pc := 26) (As := [vI c, vI n]) (na := 2) (st := []) C [0, 1, 2] [] (wr := []) (fun l => m_layAll l D Y _ h r S G c n (by first | assumption | omega) (by first | assumption | omega) (by first | assumption | omega)) rfl rfl rfl rfl (by decide) rfl (Or.inl (List.mem_of_getElem? (i := 0) rfl)) rfl gX10_lay_X10_layAll ⟨rfl, by decide +kernel⟩ (by decide) rfl rfl (Nat.le_of_ble_eq_true rfl) (by decide) dX10_lay_26 (fun w_10 h_11 => ?_)
      subst h_11
      refine j_perm (ws' := [(h, oC 9 [.ref (r 0), .ref (r 1), vI (ms_w (layS c n S)), vI (ms_l (layS c n S)), vL (ms_s (layS c n S)), vI (ms_a (layS c n S)), vI (ms_t (layS c n S)), vI (ms_p (layS c n S)), vI (g_np G), .ref (r 9), .ref (r 10), .ref (r 11), .ref (r 12), .ref (r 13), vI (g_nc G), .ref (r 15), .ref (r 16), .ref (r 17), vI (g_pl G), .ref (r 19), vI (g_ik G), vL (g_ks G), .ref (r 22), vL (g_ss G), .ref (r 24), vI (g_fa G), vI (g_iw G), vI (g_nw G), vI (g_ns G), vI (g_ne G), .ref (r 30), .ref (r 31), .ref (r 32), .ref (r 33), vL (g_h G)]), ((r 1), aI (Y 0) 7 (ms_h (layS c n S))), ((r 0), aI (Y 0) 420 (ms_m (layS c n S)))]) [0, 1, 2] rfl rfl ?_
      refine j_aload_n (pc := 29) C 0 0 rfl rfl dX10_lay_29 ?_
      refine j_get (pc := 30) C (Or.inl (List.mem_of_getElem? (i := 0) rfl)) rfl fX10_lay_X10 1 (by decide) (List.mem_of_getElem? (i := 1) rfl) (Or.inl rfl) rfl dX10_lay_30 ?_
      refine j_iload_n (pc := 33) C 1 1 rfl rfl dX10_lay_33 ?_
      refine j_iald (pc := 34) C (Or.inl (List.mem_of_getElem? (i := 1) rfl)) rfl (by omega) (by decide) dX10_lay_34 ?_
      exact Rt _ _ _ _ _ _ (by decide) (by decide) ⟨by unfold rLay; rw [if_neg (by omega), if_neg (by omega)], by unfold sLay; rw [if_neg (by omega), if_neg (by omega)]; first | done | rfl⟩ dX10_lay_35
    · skip
      refine j_bipush (pc := 20) (w := (-102)) C rfl dX10_lay_20 ?_
      exact Rt _ _ _ _ _ _ (by decide) (by decide) ⟨by unfold rLay; rw [if_neg (by omega), if_pos (by omega)], by unfold sLay; rw [if_neg (by omega), if_pos (by omega)]; first | done | rfl⟩ dX10_lay_22
  · skip
    refine j_bipush (pc := 7) (w := (-101)) C rfl dX10_lay_7 ?_
    exact Rt _ _ _ _ _ _ (by decide) (by decide) ⟨by unfold rLay; rw [if_pos (by omega)], by unfold sLay; rw [if_pos (by omega)]; first | done | rfl⟩ dX10_lay_9

theorem fX10_take_X10 : ∀ w ∈ u_ws RX10 TX10 35, w ∈ wsX10_take := j_words [14, 15, 16, 17, 18, 19, 20, 21, 22, 23, 24, 25, 26, 27, 28, 29, 30, 31, 32, 33, 34, 35, 36, 37, 38, 39, 40, 41, 42, 43, 44, 45, 46, 47, 48] (by decide +kernel)
set_option maxHeartbeats 4000000 in
set_option maxRecDepth 100000 in
theorem m_take (l : Launch) (D : va_G) (Y : Nat → ClassId) (RO : va_W) (h : Nat) (r : Nat → Nat) (S : MS) (G : GS) (c : Int) (n : Int)  (hS : okS S) (hc : -2147483648 ≤ c ∧ c ≤ 2147483647) (hn : -2147483648 ≤ n ∧ n ≤ 2147483647) : jMi l yX10_take wsX10_take { frames := 2, cells := 0, slots := 0, locals := 42 } D Y RO [.ref h, vI c, vI n] [(h, oC 9 [.ref (r 0), .ref (r 1), vI (ms_w S), vI (ms_l S), vL (ms_s S), vI (ms_a S), vI (ms_t S), vI (ms_p S), vI (g_np G), .ref (r 9), .ref (r 10), .ref (r 11), .ref (r 12), .ref (r 13), vI (g_nc G), .ref (r 15), .ref (r 16), .ref (r 17), vI (g_pl G), .ref (r 19), vI (g_ik G), vL (g_ks G), .ref (r 22), vL (g_ss G), .ref (r 24), vI (g_fa G), vI (g_iw G), vI (g_nw G), vI (g_ns G), vI (g_ne G), .ref (r 30), .ref (r 31), .ref (r 32), .ref (r 33), vL (g_h G)]), ((r 1), aI (Y 0) 7 (ms_h S)), ((r 0), aI (Y 0) 420 (ms_m S))] (fun e w1 => e = rTake c n S ∧ w1 = [(h, oC 9 [.ref (r 0), .ref (r 1), vI (ms_w (sTake c n S)), vI (ms_l (sTake c n S)), vL (ms_s (sTake c n S)), vI (ms_a (sTake c n S)), vI (ms_t (sTake c n S)), vI (ms_p (sTake c n S)), vI (g_np G), .ref (r 9), .ref (r 10), .ref (r 11), .ref (r 12), .ref (r 13), vI (g_nc G), .ref (r 15), .ref (r 16), .ref (r 17), vI (g_pl G), .ref (r 19), vI (g_ik G), vL (g_ks G), .ref (r 22), vL (g_ss G), .ref (r 24), vI (g_fa G), vI (g_iw G), vI (g_nw G), vI (g_ns G), vI (g_ne G), .ref (r 30), .ref (r 31), .ref (r 32), .ref (r 33), vL (g_h G)]), ((r 1), aI (Y 0) 7 (ms_h (sTake c n S))), ((r 0), aI (Y 0) 420 (ms_m (sTake c n S)))]) := by
  refine j_ofi RX10 rfl rfl rfl (Nat.le_of_ble_eq_true rfl) (fun X C Rt => ?_)
  refine j_iload_n (pc := 0) C 1 1 rfl rfl dX10_take_0 ?_
  refine j_callSi (pc := 1) (As := [vI c]) (na := 1) (st := []) C [] [0, 1, 2] (wr := [(h, oC 9 [.ref (r 0), .ref (r 1), vI (ms_w S), vI (ms_l S), vL (ms_s S), vI (ms_a S), vI (ms_t S), vI (ms_p S), vI (g_np G), .ref (r 9), .ref (r 10), .ref (r 11), .ref (r 12), .ref (r 13), vI (g_nc G), .ref (r 15), .ref (r 16), .ref (r 17), vI (g_pl G), .ref (r 19), vI (g_ik G), vL (g_ks G), .ref (r 22), vL (g_ss G), .ref (r 24), vI (g_fa G), vI (g_iw G), vI (g_nw G), vI (g_ns G), vI (g_ne G), .ref (r 30), .ref (r 31), .ref (r 32), .ref (r 33), vL (g_h G)]), ((r 1), aI (Y 0) 7 (ms_h S)), ((r 0), aI (Y 0) 420 (ms_m S))]) (fun l => m_isCairn l D Y _ c (by first | assumption | omega)) rfl rfl rfl rfl (by decide) rfl gX10_take_X10_isCairn (by decide +kernel) (by decide) rfl rfl (Nat.le_of_ble_eq_true rfl) (by decide) dX10_take_1 (fun e_1 w_2 h_3 => ?_)
  obtain ⟨rfl, rfl⟩ := h_3
  refine j_perm (ws' := [(h, oC 9 [.ref (r 0), .ref (r 1), vI (ms_w S), vI (ms_l S), vL (ms_s S), vI (ms_a S), vI (ms_t S), vI (ms_p S), vI (g_np G), .ref (r 9), .ref (r 10), .ref (r 11), .ref (r 12), .ref (r 13), vI (g_nc G), .ref (r 15), .ref (r 16), .ref (r 17), vI (g_pl G), .ref (r 19), vI (g_ik G), vL (g_ks G), .ref (r 22), vL (g_ss G), .ref (r 24), vI (g_fa G), vI (g_iw G), vI (g_nw G), vI (g_ns G), vI (g_ne G), .ref (r 30), .ref (r 31), .ref (r 32), .ref (r 33), vL (g_h G)]), ((r 1), aI (Y 0) 7 (ms_h S)), ((r 0), aI (Y 0) 420 (ms_m S))]) [0, 1, 2] rfl rfl ?_
  refine j_if_neb (pc := 4) C 10 rfl dX10_take_4 (fun h_4p4 => ?_) (fun h_4p4 => ?_)
  · skip
    refine j_iload_n (pc := 10) C 2 2 rfl rfl dX10_take_10 ?_
    refine j_iconst (pc := 11) C dX10_take_11 ?_
    refine j_bipush (pc := 12) (w := 60) C rfl dX10_take_12 ?_
    refine j_callSi (pc := 14) (As := [vI n, vI 1, vI 60]) (na := 3) (st := []) C [] [0, 1, 2] (wr := [(h, oC 9 [.ref (r 0), .ref (r 1), vI (ms_w S), vI (ms_l S), vL (ms_s S), vI (ms_a S), vI (ms_t S), vI (ms_p S), vI (g_np G), .ref (r 9), .ref (r 10), .ref (r 11), .ref (r 12), .ref (r 13), vI (g_nc G), .ref (r 15), .ref (r 16), .ref (r 17), vI (g_pl G), .ref (r 19), vI (g_ik G), vL (g_ks G), .ref (r 22), vL (g_ss G), .ref (r 24), vI (g_fa G), vI (g_iw G), vI (g_nw G), vI (g_ns G), vI (g_ne G), .ref (r 30), .ref (r 31), .ref (r 32), .ref (r 33), vL (g_h G)]), ((r 1), aI (Y 0) 7 (ms_h S)), ((r 0), aI (Y 0) 420 (ms_m S))]) (fun l => m_within l D Y _ n 1 60 (by first | assumption | omega) (by first | assumption | omega) (by first | assumption | omega)) rfl rfl rfl rfl (by decide) rfl gX10_take_X10_within (by decide +kernel) (by decide) rfl rfl (Nat.le_of_ble_eq_true rfl) (by decide) dX10_take_14 (fun e_5 w_6 h_7 => ?_)
    obtain ⟨rfl, rfl⟩ := h_7
    refine j_perm (ws' := [(h, oC 9 [.ref (r 0), .ref (r 1), vI (ms_w S), vI (ms_l S), vL (ms_s S), vI (ms_a S), vI (ms_t S), vI (ms_p S), vI (g_np G), .ref (r 9), .ref (r 10), .ref (r 11), .ref (r 12), .ref (r 13), vI (g_nc G), .ref (r 15), .ref (r 16), .ref (r 17), vI (g_pl G), .ref (r 19), vI (g_ik G), vL (g_ks G), .ref (r 22), vL (g_ss G), .ref (r 24), vI (g_fa G), vI (g_iw G), vI (g_nw G), vI (g_ns G), vI (g_ne G), .ref (r 30), .ref (r 31), .ref (r 32), .ref (r 33), vL (g_h G)]), ((r 1), aI (Y 0) 7 (ms_h S)), ((r 0), aI (Y 0) 420 (ms_m S))]) [0, 1, 2] rfl rfl ?_
    refine j_if_neb (pc := 17) C 23 rfl dX10_take_17 (fun h_8p17 => ?_) (fun h_8p17 => ?_)
    · skip
      refine j_aload_n (pc := 23) C 0 0 rfl rfl dX10_take_23 ?_
      refine j_iload_n (pc := 24) C 1 1 rfl rfl dX10_take_24 ?_
      refine j_iload_n (pc := 25) C 2 2 rfl rfl dX10_take_25 ?_
      refine j_callVv (pc := 26) (As := [vI c, vI n]) (na := 2) (st := []) C [0, 1, 2] [] (wr := []) (fun l => m_takeAll l D Y _ h r S G c n (by first | assumption | omega) (by first | assumption | omega) (by first | assumption | omega)) rfl rfl rfl rfl (by decide) rfl (Or.inl (List.mem_of_getElem? (i := 0) rfl)) rfl gX10_take_X10_takeAll ⟨rfl, by decide +kernel⟩ (by decide) rfl rfl (Nat.le_of_ble_eq_true rfl) (by decide) dX10_take_26 (fun w_10 h_11 => ?_)
      subst h_11
      refine j_perm (ws' := [(h, oC 9 [.ref (r 0), .ref (r 1), vI (ms_w (takeS c n S)), vI (ms_l (takeS c n S)), vL (ms_s (takeS c n S)), vI (ms_a (takeS c n S)), vI (ms_t (takeS c n S)), vI (ms_p (takeS c n S)), vI (g_np G), .ref (r 9), .ref (r 10), .ref (r 11), .ref (r 12), .ref (r 13), vI (g_nc G), .ref (r 15), .ref (r 16), .ref (r 17), vI (g_pl G), .ref (r 19), vI (g_ik G), vL (g_ks G), .ref (r 22), vL (g_ss G), .ref (r 24), vI (g_fa G), vI (g_iw G), vI (g_nw G), vI (g_ns G), vI (g_ne G), .ref (r 30), .ref (r 31), .ref (r 32), .ref (r 33), vL (g_h G)]), ((r 1), aI (Y 0) 7 (ms_h (takeS c n S))), ((r 0), aI (Y 0) 420 (ms_m (takeS c n S)))]) [0, 1, 2] rfl rfl ?_
      refine j_aload_n (pc := 29) C 0 0 rfl rfl dX10_take_29 ?_
      refine j_get (pc := 30) C (Or.inl (List.mem_of_getElem? (i := 0) rfl)) rfl fX10_take_X10 1 (by decide) (List.mem_of_getElem? (i := 1) rfl) (Or.inl rfl) rfl dX10_take_30 ?_
      refine j_iload_n (pc := 33) C 1 1 rfl rfl dX10_take_33 ?_
      refine j_iald (pc := 34) C (Or.inl (List.mem_of_getElem? (i := 1) rfl)) rfl (by omega) (by decide) dX10_take_34 ?_
      exact Rt _ _ _ _ _ _ (by decide) (by decide) ⟨by unfold rTake; rw [if_neg (by omega), if_neg (by omega)], by unfold sTake; rw [if_neg (by omega), if_neg (by omega)]; first | done | rfl⟩ dX10_take_35
    · skip
      refine j_bipush (pc := 20) (w := (-102)) C rfl dX10_take_20 ?_
      exact Rt _ _ _ _ _ _ (by decide) (by decide) ⟨by unfold rTake; rw [if_neg (by omega), if_pos (by omega)], by unfold sTake; rw [if_neg (by omega), if_pos (by omega)]; first | done | rfl⟩ dX10_take_22
  · skip
    refine j_bipush (pc := 7) (w := (-101)) C rfl dX10_take_7 ?_
    exact Rt _ _ _ _ _ _ (by decide) (by decide) ⟨by unfold rTake; rw [if_pos (by omega)], by unfold sTake; rw [if_pos (by omega)]; first | done | rfl⟩ dX10_take_9

theorem fX10_height_X10 : ∀ w ∈ u_ws RX10 TX10 35, w ∈ wsX10_height := j_words [9, 10, 11, 12, 13, 14, 15, 16, 17, 18, 19, 20, 21, 22, 23, 24, 25, 26, 27, 28, 29, 30, 31, 32, 33, 34, 35, 36, 37, 38, 39, 40, 41, 42, 43] (by decide +kernel)
set_option maxHeartbeats 4000000 in
set_option maxRecDepth 100000 in
theorem m_height (l : Launch) (D : va_G) (Y : Nat → ClassId) (RO : va_W) (h : Nat) (r : Nat → Nat) (S : MS) (G : GS) (c : Int) (r0 : (h, oC 9 [.ref (r 0), .ref (r 1), vI (ms_w S), vI (ms_l S), vL (ms_s S), vI (ms_a S), vI (ms_t S), vI (ms_p S), vI (g_np G), .ref (r 9), .ref (r 10), .ref (r 11), .ref (r 12), .ref (r 13), vI (g_nc G), .ref (r 15), .ref (r 16), .ref (r 17), vI (g_pl G), .ref (r 19), vI (g_ik G), vL (g_ks G), .ref (r 22), vL (g_ss G), .ref (r 24), vI (g_fa G), vI (g_iw G), vI (g_nw G), vI (g_ns G), vI (g_ne G), .ref (r 30), .ref (r 31), .ref (r 32), .ref (r 33), vL (g_h G)]) ∈ RO) (r1 : ((r 1), aI (Y 0) 7 (ms_h S)) ∈ RO) (hc : -2147483648 ≤ c ∧ c ≤ 2147483647) : jMi l yX10_height wsX10_height { frames := 2, cells := 0, slots := 0, locals := 42 } D Y RO [.ref h, vI c] [] (fun e w1 => e = rHeight c S ∧ w1 = []) := by
  refine j_ofi RX10 rfl rfl rfl (Nat.le_of_ble_eq_true rfl) (fun X C Rt => ?_)
  refine j_iload_n (pc := 0) C 1 1 rfl rfl dX10_height_0 ?_
  refine j_callSi (pc := 1) (As := [vI c]) (na := 1) (st := []) C [] [] (wr := []) (fun l => m_isCairn l D Y _ c (by first | assumption | omega)) rfl rfl rfl rfl (by decide) rfl gX10_height_X10_isCairn (by decide +kernel) (by decide) rfl rfl (Nat.le_of_ble_eq_true rfl) (by decide) dX10_height_1 (fun e_1 w_2 h_3 => ?_)
  obtain ⟨rfl, rfl⟩ := h_3
  refine j_perm (ws' := []) [] rfl rfl ?_
  refine j_if_eqb (pc := 4) C 16 rfl dX10_height_4 (fun h_4p4 => ?_) (fun h_4p4 => ?_)
  · skip
    refine j_bipush (pc := 16) (w := (-101)) C rfl dX10_height_16 ?_
    exact Rt _ _ _ _ _ _ (by decide) (by decide) ⟨by unfold rHeight; first | rw [if_pos (by omega)] | rw [if_neg (by omega)], rfl⟩ dX10_height_18
  · skip
    refine j_aload_n (pc := 7) C 0 0 rfl rfl dX10_height_7 ?_
    refine j_get (pc := 8) C (Or.inr r0) rfl fX10_height_X10 1 (by decide) (List.mem_of_getElem? (i := 1) rfl) (Or.inl rfl) rfl dX10_height_8 ?_
    refine j_iload_n (pc := 11) C 1 1 rfl rfl dX10_height_11 ?_
    refine j_iald (pc := 12) C (Or.inr r1) rfl (by omega) (by decide) dX10_height_12 ?_
    refine j_goto (pc := 13) C 18 rfl dX10_height_13 ?_
    exact Rt _ _ _ _ _ _ (by decide) (by decide) ⟨by unfold rHeight; first | rw [if_pos (by omega)] | rw [if_neg (by omega)], rfl⟩ dX10_height_18

set_option maxHeartbeats 4000000 in
set_option maxRecDepth 100000 in
theorem m_mark (l : Launch) (D : va_G) (Y : Nat → ClassId) (RO : va_W) (h : Nat) (r : Nat → Nat) (S : MS) (G : GS) (c : Int) (d : Int) (r0 : (h, oC 9 [.ref (r 0), .ref (r 1), vI (ms_w S), vI (ms_l S), vL (ms_s S), vI (ms_a S), vI (ms_t S), vI (ms_p S), vI (g_np G), .ref (r 9), .ref (r 10), .ref (r 11), .ref (r 12), .ref (r 13), vI (g_nc G), .ref (r 15), .ref (r 16), .ref (r 17), vI (g_pl G), .ref (r 19), vI (g_ik G), vL (g_ks G), .ref (r 22), vL (g_ss G), .ref (r 24), vI (g_fa G), vI (g_iw G), vI (g_nw G), vI (g_ns G), vI (g_ne G), .ref (r 30), .ref (r 31), .ref (r 32), .ref (r 33), vL (g_h G)]) ∈ RO) (r1 : ((r 1), aI (Y 0) 7 (ms_h S)) ∈ RO) (r2 : ((r 0), aI (Y 0) 420 (ms_m S)) ∈ RO) (hS : okS S) (hc : -2147483648 ≤ c ∧ c ≤ 2147483647) (hd : -2147483648 ≤ d ∧ d ≤ 2147483647) : jMi l yX10_mark wsX10_mark { frames := 2, cells := 0, slots := 0, locals := 42 } D Y RO [.ref h, vI c, vI d] [] (fun e w1 => e = rMark c d S ∧ w1 = []) := by
  refine j_ofi RX10 rfl rfl rfl (Nat.le_of_ble_eq_true rfl) (fun X C Rt => ?_)
  refine j_iload_n (pc := 0) C 1 1 rfl rfl dX10_mark_0 ?_
  refine j_callSi (pc := 1) (As := [vI c]) (na := 1) (st := []) C [] [] (wr := []) (fun l => m_isCairn l D Y _ c (by first | assumption | omega)) rfl rfl rfl rfl (by decide) rfl gX10_mark_X10_isCairn (by decide +kernel) (by decide) rfl rfl (Nat.le_of_ble_eq_true rfl) (by decide) dX10_mark_1 (fun e_1 w_2 h_3 => ?_)
  obtain ⟨rfl, rfl⟩ := h_3
  refine j_perm (ws' := []) [] rfl rfl ?_
  refine j_if_neb (pc := 4) C 12 rfl dX10_mark_4 (fun h_4p4 => ?_) (fun h_4p4 => ?_)
  · skip
    refine j_iload_n (pc := 12) C 2 2 rfl rfl dX10_mark_12 ?_
    refine j_iconst (pc := 13) C dX10_mark_13 ?_
    refine j_bipush (pc := 14) (w := 59) C rfl dX10_mark_14 ?_
    refine j_callSi (pc := 16) (As := [vI d, vI 0, vI 59]) (na := 3) (st := []) C [] [] (wr := []) (fun l => m_within l D Y _ d 0 59 (by first | assumption | omega) (by first | assumption | omega) (by first | assumption | omega)) rfl rfl rfl rfl (by decide) rfl gX10_mark_X10_within (by decide +kernel) (by decide) rfl rfl (Nat.le_of_ble_eq_true rfl) (by decide) dX10_mark_16 (fun e_5 w_6 h_7 => ?_)
    obtain ⟨rfl, rfl⟩ := h_7
    refine j_perm (ws' := []) [] rfl rfl ?_
    refine j_if_eqb (pc := 19) C 31 rfl dX10_mark_19 (fun h_8p19 => ?_) (fun h_8p19 => ?_)
    · skip
      refine j_bipush (pc := 31) (w := (-102)) C rfl dX10_mark_31 ?_
      exact Rt _ _ _ _ _ _ (by decide) (by decide) ⟨by unfold rMark; first | rw [if_pos (by omega)] | (rw [if_neg (by omega)]; first | rw [if_pos (by omega)] | rw [if_neg (by omega)]), rfl⟩ dX10_mark_33
    · skip
      refine j_aload_n (pc := 22) C 0 0 rfl rfl dX10_mark_22 ?_
      refine j_iload_n (pc := 23) C 1 1 rfl rfl dX10_mark_23 ?_
      refine j_iload_n (pc := 24) C 2 2 rfl rfl dX10_mark_24 ?_
      refine j_callVi (pc := 25) (As := [vI c, vI d]) (na := 2) (st := []) C [] [] (wr := []) (fun l => m_markOf l D Y _ h r S G c d (List.mem_append_right _ r0) (List.mem_append_right _ r1) (List.mem_append_right _ r2) (by first | assumption | omega) (by first | assumption | omega) (by first | assumption | omega)) rfl rfl rfl rfl (by decide) rfl (Or.inr (List.mem_append_right _ r0)) rfl gX10_mark_X10_markOf ⟨rfl, by decide +kernel⟩ (by decide) rfl rfl (Nat.le_of_ble_eq_true rfl) (by decide) dX10_mark_25 (fun e_9 w_10 h_11 => ?_)
      obtain ⟨rfl, rfl⟩ := h_11
      refine j_perm (ws' := []) [] rfl rfl ?_
      refine j_goto (pc := 28) C 33 rfl dX10_mark_28 ?_
      exact Rt _ _ _ _ _ _ (by decide) (by decide) ⟨by unfold rMark; first | rw [if_pos (by omega)] | (rw [if_neg (by omega)]; first | rw [if_pos (by omega)] | rw [if_neg (by omega)]), rfl⟩ dX10_mark_33
  · skip
    refine j_bipush (pc := 7) (w := (-101)) C rfl dX10_mark_7 ?_
    refine j_goto (pc := 9) C 33 rfl dX10_mark_9 ?_
    exact Rt _ _ _ _ _ _ (by decide) (by decide) ⟨by unfold rMark; first | rw [if_pos (by omega)] | (rw [if_neg (by omega)]; first | rw [if_pos (by omega)] | rw [if_neg (by omega)]), rfl⟩ dX10_mark_33

theorem fX10_dated_X10 : ∀ w ∈ u_ws RX10 TX10 35, w ∈ wsX10_dated := j_words [10, 11, 12, 13, 14, 15, 16, 17, 18, 19, 20, 21, 22, 23, 24, 25, 26, 27, 28, 29, 30, 31, 32, 33, 34, 35, 36, 37, 38, 39, 40, 41, 42, 43, 44] (by decide +kernel)
set_option maxHeartbeats 4000000 in
set_option maxRecDepth 100000 in
theorem m_dated (l : Launch) (D : va_G) (Y : Nat → ClassId) (RO : va_W) (h : Nat) (r : Nat → Nat) (S : MS) (G : GS) (c : Int) (w : Int) (r0 : (h, oC 9 [.ref (r 0), .ref (r 1), vI (ms_w S), vI (ms_l S), vL (ms_s S), vI (ms_a S), vI (ms_t S), vI (ms_p S), vI (g_np G), .ref (r 9), .ref (r 10), .ref (r 11), .ref (r 12), .ref (r 13), vI (g_nc G), .ref (r 15), .ref (r 16), .ref (r 17), vI (g_pl G), .ref (r 19), vI (g_ik G), vL (g_ks G), .ref (r 22), vL (g_ss G), .ref (r 24), vI (g_fa G), vI (g_iw G), vI (g_nw G), vI (g_ns G), vI (g_ne G), .ref (r 30), .ref (r 31), .ref (r 32), .ref (r 33), vL (g_h G)]) ∈ RO) (r1 : ((r 1), aI (Y 0) 7 (ms_h S)) ∈ RO) (r2 : ((r 0), aI (Y 0) 420 (ms_m S)) ∈ RO) (hS : okS S) (hc : -2147483648 ≤ c ∧ c ≤ 2147483647) (hd : -2147483648 ≤ w ∧ w ≤ 2147483647) (hw : ms_w S ≤ 2147482000) : jMi l yX10_dated wsX10_dated { frames := 2, cells := 0, slots := 0, locals := 42 } D Y RO [.ref h, vI c, vI w] [] (fun e w1 => e = rDated c w S ∧ w1 = []) := by
  refine j_ofi RX10 rfl rfl rfl (Nat.le_of_ble_eq_true rfl) (fun X C Rt => ?_)
  refine j_iload_n (pc := 0) C 1 1 rfl rfl dX10_dated_0 ?_
  refine j_callSi (pc := 1) (As := [vI c]) (na := 1) (st := []) C [] [] (wr := []) (fun l => m_isCairn l D Y _ c (by first | assumption | omega)) rfl rfl rfl rfl (by decide) rfl gX10_dated_X10_isCairn (by decide +kernel) (by decide) rfl rfl (Nat.le_of_ble_eq_true rfl) (by decide) dX10_dated_1 (fun e_1 w_2 h_3 => ?_)
  obtain ⟨rfl, rfl⟩ := h_3
  refine j_perm (ws' := []) [] rfl rfl ?_
  refine j_if_neb (pc := 4) C 10 rfl dX10_dated_4 (fun h_4p4 => ?_) (fun h_4p4 => ?_)
  · skip
    refine j_iload_n (pc := 10) C 2 2 rfl rfl dX10_dated_10 ?_
    refine j_iconst (pc := 11) C dX10_dated_11 ?_
    refine j_sipush (pc := 12) (w := 9999) C rfl dX10_dated_12 ?_
    refine j_callSi (pc := 15) (As := [vI w, vI 0, vI 9999]) (na := 3) (st := []) C [] [] (wr := []) (fun l => m_within l D Y _ w 0 9999 (by first | assumption | omega) (by first | assumption | omega) (by first | assumption | omega)) rfl rfl rfl rfl (by decide) rfl gX10_dated_X10_within (by decide +kernel) (by decide) rfl rfl (Nat.le_of_ble_eq_true rfl) (by decide) dX10_dated_15 (fun e_5 w_6 h_7 => ?_)
    obtain ⟨rfl, rfl⟩ := h_7
    refine j_perm (ws' := []) [] rfl rfl ?_
    refine j_if_neb (pc := 18) C 24 rfl dX10_dated_18 (fun h_8p18 => ?_) (fun h_8p18 => ?_)
    · skip
      have hh := hS.1 c (by omega)
      refine j_iconst (pc := 24) C dX10_dated_24 ?_
      refine j_istore_n (pc := 25) (lc' := [(3, vI 0), (0, .ref h), (1, vI c), (2, vI w)]) C 3 rfl (by decide) rfl dX10_dated_25 ?_
      refine j_iconst (pc := 26) C dX10_dated_26 ?_
      refine j_istore (pc := 27) (lc' := [(4, vI 0), (3, vI 0), (0, .ref h), (1, vI c), (2, vI w)]) C (by decide) rfl dX10_dated_27 ?_
      have hL29 : ∀ (N29 : Nat) (b : Int) (i : Int), ((ms_h S c - i).toNat) < N29 → (0 ≤ i ∧ i ≤ ms_h S c) → (b = cntI (fun k => ms_m S (60 * c + k)) w i) → jW X 5 0 0 [] [(0, .ref h), (1, vI c), (2, vI w), (3, vI b), (4, vI i)] 29 [] := by
        intro N29
        induction N29 with
        | zero => intro b i hm29 i29_0 i29_1; omega
        | succ N29 ih29 =>
          intro b i hm29 i29_0 i29_1
          refine j_iload (pc := 29) C 4 rfl dX10_dated_29 ?_
          refine j_aload_n (pc := 31) C 0 0 rfl rfl dX10_dated_31 ?_
          refine j_get (pc := 32) C (Or.inr r0) rfl fX10_dated_X10 1 (by decide) (List.mem_of_getElem? (i := 1) rfl) (Or.inl rfl) rfl dX10_dated_32 ?_
          refine j_iload_n (pc := 35) C 1 1 rfl rfl dX10_dated_35 ?_
          refine j_iald (pc := 36) C (Or.inr r1) rfl (by omega) (by decide) dX10_dated_36 ?_
          have f_9 := hS.1 c (by omega)
          refine j_icmp_ge (pc := 37) C 70 rfl (by omega) dX10_dated_37 (fun h_10p37 => ?_) (fun h_10p37 => ?_)
          · skip
            refine j_iload_n (pc := 70) C 3 3 rfl rfl dX10_dated_70 ?_
            exact Rt _ _ _ _ _ _ (by decide) (by decide) ⟨by unfold rDated; rw [if_neg (by omega), if_neg (by omega), cnt_mark hS (by omega), i29_1, show i = ms_h S c by omega], rfl⟩ dX10_dated_71
          · skip
            refine j_iload_n (pc := 40) C 3 3 rfl rfl dX10_dated_40 ?_
            refine j_aload_n (pc := 41) C 0 0 rfl rfl dX10_dated_41 ?_
            refine j_get (pc := 42) C (Or.inr r0) rfl fX10_dated_X10 0 (by decide) (List.mem_of_getElem? (i := 2) rfl) (Or.inl rfl) rfl dX10_dated_42 ?_
            refine j_bipush (pc := 45) (w := 60) C rfl dX10_dated_45 ?_
            refine j_iload_n (pc := 47) C 1 1 rfl rfl dX10_dated_47 ?_
            refine j_imul (pc := 48) C dX10_dated_48 ?_
            refine j_iload (pc := 49) C 4 rfl dX10_dated_49 ?_
            refine j_iadd (pc := 51) C dX10_dated_51 ?_
            refine j_iald (pc := 52) C (Or.inr r2) rfl (by omega) (by decide) dX10_dated_52 ?_
            have f_11 := hS.2.1 ((60 * c) + i)
            refine j_iload_n (pc := 53) C 2 2 rfl rfl dX10_dated_53 ?_
            refine j_icmp_ne (pc := 54) C 61 rfl (by omega) dX10_dated_54 (fun h_12p54 => ?_) (fun h_12p54 => ?_)
            · skip
              refine j_iconst (pc := 61) C dX10_dated_61 ?_
              refine j_iadd (pc := 62) C dX10_dated_62 ?_
              refine j_istore_n (pc := 63) (lc' := [(3, vI (b + 0)), (0, .ref h), (1, vI c), (2, vI w), (4, vI i)]) C 3 rfl (by decide) rfl dX10_dated_63 ?_
              refine j_iinc (pc := 64) (lc' := [(4, vI (i + 1)), (3, vI (b + 0)), (0, .ref h), (1, vI c), (2, vI w)]) C 4 rfl (by decide) rfl dX10_dated_64 ?_
              refine j_goto (pc := 67) C 29 rfl dX10_dated_67 ?_
              refine j_locals (lc' := [(0, .ref h), (1, vI c), (2, vI w), (3, vI (b + 0)), (4, vI (i + 1))]) [2, 3, 4, 1, 0] rfl ?_
              exact ih29 (b + 0) (i + 1) (by omega) (by omega) (by unfold cntI at i29_1 ⊢; rw [fo_succ _ (by omega), ← i29_1]; unfold cntF; first | rw [if_pos (by assumption)] | (rw [if_neg (by assumption)]; omega))
            · skip
              refine j_iconst (pc := 57) C dX10_dated_57 ?_
              refine j_goto (pc := 58) C 62 rfl dX10_dated_58 ?_
              refine j_iadd (pc := 62) C dX10_dated_62 ?_
              refine j_istore_n (pc := 63) (lc' := [(3, vI (b + 1)), (0, .ref h), (1, vI c), (2, vI w), (4, vI i)]) C 3 rfl (by decide) rfl dX10_dated_63 ?_
              refine j_iinc (pc := 64) (lc' := [(4, vI (i + 1)), (3, vI (b + 1)), (0, .ref h), (1, vI c), (2, vI w)]) C 4 rfl (by decide) rfl dX10_dated_64 ?_
              refine j_goto (pc := 67) C 29 rfl dX10_dated_67 ?_
              refine j_locals (lc' := [(0, .ref h), (1, vI c), (2, vI w), (3, vI (b + 1)), (4, vI (i + 1))]) [2, 3, 4, 1, 0] rfl ?_
              exact ih29 (b + 1) (i + 1) (by omega) (by omega) (by unfold cntI at i29_1 ⊢; rw [fo_succ _ (by omega), ← i29_1]; unfold cntF; first | rw [if_pos (by assumption)] | (rw [if_neg (by assumption)]; omega))
      refine j_locals (lc' := [(0, .ref h), (1, vI c), (2, vI w), (3, vI 0), (4, vI 0)]) [2, 3, 4, 1, 0] rfl ?_
      exact hL29 _ 0 0 (Nat.lt_succ_self _) (by omega) rfl
    · skip
      refine j_bipush (pc := 21) (w := (-102)) C rfl dX10_dated_21 ?_
      exact Rt _ _ _ _ _ _ (by decide) (by decide) ⟨by unfold rDated; rw [if_neg (by omega), if_pos (by omega)], rfl⟩ dX10_dated_23
  · skip
    refine j_bipush (pc := 7) (w := (-101)) C rfl dX10_dated_7 ?_
    exact Rt _ _ _ _ _ _ (by decide) (by decide) ⟨by unfold rDated; rw [if_pos (by omega)], rfl⟩ dX10_dated_9

theorem fX10_seed_X10 : ∀ w ∈ u_ws RX10 TX10 35, w ∈ wsX10_seed := j_words [2, 3, 4, 5, 6, 7, 8, 9, 10, 11, 12, 13, 14, 15, 16, 17, 18, 19, 20, 21, 22, 23, 24, 25, 26, 27, 28, 29, 30, 31, 32, 33, 34, 35, 36] (by decide +kernel)
set_option maxHeartbeats 4000000 in
set_option maxRecDepth 100000 in
theorem m_seed (l : Launch) (D : va_G) (Y : Nat → ClassId) (RO : va_W) (h : Nat) (r : Nat → Nat) (S : MS) (G : GS) (v : Int)  (hv : -2147483648 ≤ v ∧ v ≤ 2147483647) : jMi l yX10_seed wsX10_seed { frames := 0, cells := 0, slots := 0, locals := 0 } D Y RO [.ref h, vI v] [(h, oC 9 [.ref (r 0), .ref (r 1), vI (ms_w S), vI (ms_l S), vL (ms_s S), vI (ms_a S), vI (ms_t S), vI (ms_p S), vI (g_np G), .ref (r 9), .ref (r 10), .ref (r 11), .ref (r 12), .ref (r 13), vI (g_nc G), .ref (r 15), .ref (r 16), .ref (r 17), vI (g_pl G), .ref (r 19), vI (g_ik G), vL (g_ks G), .ref (r 22), vL (g_ss G), .ref (r 24), vI (g_fa G), vI (g_iw G), vI (g_nw G), vI (g_ns G), vI (g_ne G), .ref (r 30), .ref (r 31), .ref (r 32), .ref (r 33), vL (g_h G)])] (fun e w1 => e = rSeed v S ∧ w1 = [(h, oC 9 [.ref (r 0), .ref (r 1), vI (ms_w (sSeed v S)), vI (ms_l (sSeed v S)), vL (ms_s (sSeed v S)), vI (ms_a (sSeed v S)), vI (ms_t (sSeed v S)), vI (ms_p (sSeed v S)), vI (g_np G), .ref (r 9), .ref (r 10), .ref (r 11), .ref (r 12), .ref (r 13), vI (g_nc G), .ref (r 15), .ref (r 16), .ref (r 17), vI (g_pl G), .ref (r 19), vI (g_ik G), vL (g_ks G), .ref (r 22), vL (g_ss G), .ref (r 24), vI (g_fa G), vI (g_iw G), vI (g_nw G), vI (g_ns G), vI (g_ne G), .ref (r 30), .ref (r 31), .ref (r 32), .ref (r 33), vL (g_h G)])]) := by
  refine j_ofi RX10 rfl rfl rfl (Nat.le_of_ble_eq_true rfl) (fun X C Rt => ?_)
  refine j_iload_n (pc := 0) C 1 1 rfl rfl dX10_seed_0 ?_
  refine j_if_ge (pc := 1) C 7 rfl (by omega) dX10_seed_1 (fun h_1p1 => ?_) (fun h_1p1 => ?_)
  · skip
    refine j_aload_n (pc := 7) C 0 0 rfl rfl dX10_seed_7 ?_
    refine j_get (pc := 8) C (Or.inl (List.mem_of_getElem? (i := 0) rfl)) rfl fX10_seed_X10 4 (by decide) (List.mem_of_getElem? (i := 1) rfl) (Or.inl rfl) rfl dX10_seed_8 ?_
    refine j_l2i (pc := 11) C dX10_seed_11 ?_
    refine j_istore_n (pc := 12) (lc' := [(2, vI (ms_s S)), (0, .ref h), (1, vI v)]) C 2 rfl (by decide) rfl dX10_seed_12 ?_
    refine j_aload_n (pc := 13) C 0 1 rfl rfl dX10_seed_13 ?_
    refine j_iload_n (pc := 14) C 1 2 rfl rfl dX10_seed_14 ?_
    refine j_i2l (pc := 15) C (by omega) dX10_seed_15 ?_
    refine j_put (pc := 16) (ws' := [(h, oC 9 [.ref (r 0), .ref (r 1), vI (ms_w S), vI (ms_l S), vL v, vI (ms_a S), vI (ms_t S), vI (ms_p S), vI (g_np G), .ref (r 9), .ref (r 10), .ref (r 11), .ref (r 12), .ref (r 13), vI (g_nc G), .ref (r 15), .ref (r 16), .ref (r 17), vI (g_pl G), .ref (r 19), vI (g_ik G), vL (g_ks G), .ref (r 22), vL (g_ss G), .ref (r 24), vI (g_fa G), vI (g_iw G), vI (g_nw G), vI (g_ns G), vI (g_ne G), .ref (r 30), .ref (r 31), .ref (r 32), .ref (r 33), vL (g_h G)])]) C 0 rfl rfl fX10_seed_X10 tyX10_ok nmX10 4 (by decide) (List.mem_of_getElem? (i := 1) rfl) (Or.inl rfl) rfl rfl rfl rfl (Nat.le_of_ble_eq_true rfl) rfl dX10_seed_16 ?_
    refine j_iload_n (pc := 19) C 2 0 rfl rfl dX10_seed_19 ?_
    exact Rt _ _ _ _ _ _ (by decide) (by decide) ⟨by unfold rSeed; rw [if_neg (by omega)], by unfold sSeed; rw [if_neg (by omega)]; first | done | rfl⟩ dX10_seed_20
  · skip
    refine j_bipush (pc := 4) (w := (-102)) C rfl dX10_seed_4 ?_
    exact Rt _ _ _ _ _ _ (by decide) (by decide) ⟨by unfold rSeed; rw [if_pos (by omega)], by unfold sSeed; rw [if_pos (by omega)]; first | done | rfl⟩ dX10_seed_6

theorem fX10_weeks_X10 : ∀ w ∈ u_ws RX10 TX10 35, w ∈ wsX10_weeks := j_words [84, 85, 86, 87, 88, 89, 90, 91, 92, 93, 94, 95, 96, 97, 98, 99, 100, 101, 102, 103, 104, 105, 106, 107, 108, 109, 110, 111, 112, 113, 114, 115, 116, 117, 118] (by decide +kernel)
set_option maxHeartbeats 4000000 in
set_option maxRecDepth 100000 in
theorem m_weeks (l : Launch) (D : va_G) (Y : Nat → ClassId) (RO : va_W) (h : Nat) (r : Nat → Nat) (S : MS) (G : GS) (cs : Int → CT) (ps : Int → PT) (cu : Int) (n : Int) (k0 : ((r 9), aI (Y 0) 6 (kof ps)) ∈ RO) (k1 : ((r 10), aI (Y 0) 6 (nof ps)) ∈ RO) (k2 : ((r 11), aI (Y 0) 6 (wof ps)) ∈ RO) (k3 : ((r 12), aI (Y 0) 6 (iof ps)) ∈ RO) (k4 : ((r 13), aI (Y 0) 6 (zof ps)) ∈ RO) (q0 : ((r 15), aI (Y 0) 4 (cwof cs)) ∈ RO) (q1 : ((r 16), aI (Y 0) 4 (czof cs)) ∈ RO) (q2 : ((r 17), aI (Y 0) 4 (ceof cs)) ∈ RO) (hS : okS S) (hw : ms_w S ≤ 9999) (hnp : 0 ≤ g_np G ∧ g_np G ≤ 6) (hps : ∀ i, 0 ≤ i ∧ i < g_np G → okP (ps i)) (hnc : 0 ≤ g_nc G ∧ g_nc G ≤ 4) (hcs : ∀ i, 0 ≤ i ∧ i < g_nc G → okC (cs i)) (hcu : -2147483648 ≤ cu ∧ cu ≤ 2147483647) (hn : -2147483648 ≤ n ∧ n ≤ 2147483647) : jMi l yX10_weeks wsX10_weeks { frames := 4, cells := 0, slots := 0, locals := 91 } D Y RO [.ref h, vI cu, vI n] [(h, oC 9 [.ref (r 0), .ref (r 1), vI (ms_w S), vI (ms_l S), vL (ms_s S), vI (ms_a S), vI (ms_t S), vI (ms_p S), vI (g_np G), .ref (r 9), .ref (r 10), .ref (r 11), .ref (r 12), .ref (r 13), vI (g_nc G), .ref (r 15), .ref (r 16), .ref (r 17), vI (g_pl G), .ref (r 19), vI (g_ik G), vL (g_ks G), .ref (r 22), vL (g_ss G), .ref (r 24), vI (g_fa G), vI (g_iw G), vI (g_nw G), vI (g_ns G), vI (g_ne G), .ref (r 30), .ref (r 31), .ref (r 32), .ref (r 33), vL (g_h G)]), ((r 1), aI (Y 0) 7 (ms_h S)), ((r 0), aI (Y 0) 420 (ms_m S))] (fun e w1 => e = rWeeks cu n (g_nc G) cs (g_np G) ps S ∧ w1 = [(h, oC 9 [.ref (r 0), .ref (r 1), vI (ms_w (sWeeks cu n (g_nc G) cs (g_np G) ps S)), vI (ms_l (sWeeks cu n (g_nc G) cs (g_np G) ps S)), vL (ms_s (sWeeks cu n (g_nc G) cs (g_np G) ps S)), vI (ms_a (sWeeks cu n (g_nc G) cs (g_np G) ps S)), vI (ms_t (sWeeks cu n (g_nc G) cs (g_np G) ps S)), vI (ms_p (sWeeks cu n (g_nc G) cs (g_np G) ps S)), vI (g_np G), .ref (r 9), .ref (r 10), .ref (r 11), .ref (r 12), .ref (r 13), vI (g_nc G), .ref (r 15), .ref (r 16), .ref (r 17), vI (g_pl G), .ref (r 19), vI (g_ik G), vL (g_ks G), .ref (r 22), vL (g_ss G), .ref (r 24), vI (g_fa G), vI (g_iw G), vI (g_nw G), vI (g_ns G), vI (g_ne G), .ref (r 30), .ref (r 31), .ref (r 32), .ref (r 33), vL (g_h G)]), ((r 1), aI (Y 0) 7 (ms_h (sWeeks cu n (g_nc G) cs (g_np G) ps S))), ((r 0), aI (Y 0) 420 (ms_m (sWeeks cu n (g_nc G) cs (g_np G) ps S)))]) := by
  refine j_ofi RX10 rfl rfl rfl (Nat.le_of_ble_eq_true rfl) (fun X C Rt => ?_)
  have hw0 := hS.w
  refine j_aload_n (pc := 0) C 0 0 rfl rfl dX10_weeks_0 ?_
  refine j_iload_n (pc := 1) C 1 1 rfl rfl dX10_weeks_1 ?_
  refine j_callVi (pc := 2) (As := [vI cu]) (na := 1) (st := []) C [] [0, 1, 2] (wr := [(h, oC 9 [.ref (r 0), .ref (r 1), vI (ms_w S), vI (ms_l S), vL (ms_s S), vI (ms_a S), vI (ms_t S), vI (ms_p S), vI (g_np G), .ref (r 9), .ref (r 10), .ref (r 11), .ref (r 12), .ref (r 13), vI (g_nc G), .ref (r 15), .ref (r 16), .ref (r 17), vI (g_pl G), .ref (r 19), vI (g_ik G), vL (g_ks G), .ref (r 22), vL (g_ss G), .ref (r 24), vI (g_fa G), vI (g_iw G), vI (g_nw G), vI (g_ns G), vI (g_ne G), .ref (r 30), .ref (r 31), .ref (r 32), .ref (r 33), vL (g_h G)]), ((r 1), aI (Y 0) 7 (ms_h S)), ((r 0), aI (Y 0) 420 (ms_m S))]) (fun l => m_isCustom l D Y _ h r S G cu (List.mem_append_left _ (List.mem_of_getElem? (i := 0) rfl)) (by first | assumption | omega) (by first | assumption | omega)) rfl rfl rfl rfl (by decide) rfl (Or.inr (List.mem_append_left _ (List.mem_of_getElem? (i := 0) rfl))) rfl gX10_weeks_X10_isCustom ⟨rfl, by decide +kernel⟩ (by decide) rfl rfl (Nat.le_of_ble_eq_true rfl) (by decide) dX10_weeks_2 (fun e_1 w_2 h_3 => ?_)
  obtain ⟨rfl, rfl⟩ := h_3
  refine j_perm (ws' := [(h, oC 9 [.ref (r 0), .ref (r 1), vI (ms_w S), vI (ms_l S), vL (ms_s S), vI (ms_a S), vI (ms_t S), vI (ms_p S), vI (g_np G), .ref (r 9), .ref (r 10), .ref (r 11), .ref (r 12), .ref (r 13), vI (g_nc G), .ref (r 15), .ref (r 16), .ref (r 17), vI (g_pl G), .ref (r 19), vI (g_ik G), vL (g_ks G), .ref (r 22), vL (g_ss G), .ref (r 24), vI (g_fa G), vI (g_iw G), vI (g_nw G), vI (g_ns G), vI (g_ne G), .ref (r 30), .ref (r 31), .ref (r 32), .ref (r 33), vL (g_h G)]), ((r 1), aI (Y 0) 7 (ms_h S)), ((r 0), aI (Y 0) 420 (ms_m S))]) [0, 1, 2] rfl rfl ?_
  refine j_if_neb (pc := 5) C 11 rfl dX10_weeks_5 (fun h_4p5 => ?_) (fun h_4p5 => ?_)
  · skip
    refine j_iload_n (pc := 11) C 2 2 rfl rfl dX10_weeks_11 ?_
    refine j_iconst (pc := 12) C dX10_weeks_12 ?_
    refine j_bipush (pc := 13) (w := 60) C rfl dX10_weeks_13 ?_
    refine j_callSi (pc := 15) (As := [vI n, vI 1, vI 60]) (na := 3) (st := []) C [] [0, 1, 2] (wr := [(h, oC 9 [.ref (r 0), .ref (r 1), vI (ms_w S), vI (ms_l S), vL (ms_s S), vI (ms_a S), vI (ms_t S), vI (ms_p S), vI (g_np G), .ref (r 9), .ref (r 10), .ref (r 11), .ref (r 12), .ref (r 13), vI (g_nc G), .ref (r 15), .ref (r 16), .ref (r 17), vI (g_pl G), .ref (r 19), vI (g_ik G), vL (g_ks G), .ref (r 22), vL (g_ss G), .ref (r 24), vI (g_fa G), vI (g_iw G), vI (g_nw G), vI (g_ns G), vI (g_ne G), .ref (r 30), .ref (r 31), .ref (r 32), .ref (r 33), vL (g_h G)]), ((r 1), aI (Y 0) 7 (ms_h S)), ((r 0), aI (Y 0) 420 (ms_m S))]) (fun l => m_within l D Y _ n 1 60 (by first | assumption | omega) (by first | assumption | omega) (by first | assumption | omega)) rfl rfl rfl rfl (by decide) rfl gX10_weeks_X10_within (by decide +kernel) (by decide) rfl rfl (Nat.le_of_ble_eq_true rfl) (by decide) dX10_weeks_15 (fun e_5 w_6 h_7 => ?_)
    obtain ⟨rfl, rfl⟩ := h_7
    refine j_perm (ws' := [(h, oC 9 [.ref (r 0), .ref (r 1), vI (ms_w S), vI (ms_l S), vL (ms_s S), vI (ms_a S), vI (ms_t S), vI (ms_p S), vI (g_np G), .ref (r 9), .ref (r 10), .ref (r 11), .ref (r 12), .ref (r 13), vI (g_nc G), .ref (r 15), .ref (r 16), .ref (r 17), vI (g_pl G), .ref (r 19), vI (g_ik G), vL (g_ks G), .ref (r 22), vL (g_ss G), .ref (r 24), vI (g_fa G), vI (g_iw G), vI (g_nw G), vI (g_ns G), vI (g_ne G), .ref (r 30), .ref (r 31), .ref (r 32), .ref (r 33), vL (g_h G)]), ((r 1), aI (Y 0) 7 (ms_h S)), ((r 0), aI (Y 0) 420 (ms_m S))]) [0, 1, 2] rfl rfl ?_
    refine j_if_neb (pc := 18) C 24 rfl dX10_weeks_18 (fun h_8p18 => ?_) (fun h_8p18 => ?_)
    · skip
      refine j_aload_n (pc := 24) C 0 0 rfl rfl dX10_weeks_24 ?_
      refine j_get (pc := 25) C (Or.inl (List.mem_of_getElem? (i := 0) rfl)) rfl fX10_weeks_X10 2 (by decide) (List.mem_of_getElem? (i := 1) rfl) (Or.inl rfl) rfl dX10_weeks_25 ?_
      refine j_iload_n (pc := 28) C 2 2 rfl rfl dX10_weeks_28 ?_
      refine j_iadd (pc := 29) C dX10_weeks_29 ?_
      refine j_sipush (pc := 30) (w := 9999) C rfl dX10_weeks_30 ?_
      refine j_icmp_le (pc := 33) C 39 rfl (by omega) dX10_weeks_33 (fun h_9p33 => ?_) (fun h_9p33 => ?_)
      · skip
        refine j_iconst (pc := 39) C dX10_weeks_39 ?_
        refine j_istore_n (pc := 40) (lc' := [(3, vI 0), (0, .ref h), (1, vI cu), (2, vI n)]) C 3 rfl (by decide) rfl dX10_weeks_40 ?_
        have hL41 : ∀ (N41 : Nat) (i : Int) (T : MS), ((n - i).toNat) < N41 → (0 ≤ i ∧ i ≤ n) → (T = weeksS (cs cu) ps (g_np G) i S) → (okS T ∧ ms_w T = ms_w S + i) → jW X 4 0 0 [(h, oC 9 [.ref (r 0), .ref (r 1), vI (ms_w T), vI (ms_l T), vL (ms_s T), vI (ms_a T), vI (ms_t T), vI (ms_p T), vI (g_np G), .ref (r 9), .ref (r 10), .ref (r 11), .ref (r 12), .ref (r 13), vI (g_nc G), .ref (r 15), .ref (r 16), .ref (r 17), vI (g_pl G), .ref (r 19), vI (g_ik G), vL (g_ks G), .ref (r 22), vL (g_ss G), .ref (r 24), vI (g_fa G), vI (g_iw G), vI (g_nw G), vI (g_ns G), vI (g_ne G), .ref (r 30), .ref (r 31), .ref (r 32), .ref (r 33), vL (g_h G)]), ((r 1), aI (Y 0) 7 (ms_h T)), ((r 0), aI (Y 0) 420 (ms_m T))] [(0, .ref h), (1, vI cu), (2, vI n), (3, vI i)] 41 [] := by
          intro N41
          induction N41 with
          | zero => intro i T hm41 i41_0 i41_1 i41_2; omega
          | succ N41 ih41 =>
            intro i T hm41 i41_0 i41_1 i41_2
            refine j_iload_n (pc := 41) C 3 3 rfl rfl dX10_weeks_41 ?_
            refine j_iload_n (pc := 42) C 2 2 rfl rfl dX10_weeks_42 ?_
            refine j_icmp_ge (pc := 43) C 57 rfl (by omega) dX10_weeks_43 (fun h_10p43 => ?_) (fun h_10p43 => ?_)
            · skip
              refine j_aload_n (pc := 57) C 0 0 rfl rfl dX10_weeks_57 ?_
              refine j_callVi (pc := 58) (As := []) (na := 0) (st := []) C [] [0, 1, 2] (wr := [(h, oC 9 [.ref (r 0), .ref (r 1), vI (ms_w T), vI (ms_l T), vL (ms_s T), vI (ms_a T), vI (ms_t T), vI (ms_p T), vI (g_np G), .ref (r 9), .ref (r 10), .ref (r 11), .ref (r 12), .ref (r 13), vI (g_nc G), .ref (r 15), .ref (r 16), .ref (r 17), vI (g_pl G), .ref (r 19), vI (g_ik G), vL (g_ks G), .ref (r 22), vL (g_ss G), .ref (r 24), vI (g_fa G), vI (g_iw G), vI (g_nw G), vI (g_ns G), vI (g_ne G), .ref (r 30), .ref (r 31), .ref (r 32), .ref (r 33), vL (g_h G)]), ((r 1), aI (Y 0) 7 (ms_h T)), ((r 0), aI (Y 0) 420 (ms_m T))]) (fun l => m_pebbles l D Y _ h r T G (List.mem_append_left _ (List.mem_of_getElem? (i := 0) rfl)) (List.mem_append_left _ (List.mem_of_getElem? (i := 1) rfl)) ) rfl rfl rfl rfl (by decide) rfl (Or.inr (List.mem_append_left _ (List.mem_of_getElem? (i := 0) rfl))) rfl gX10_weeks_X10_pebbles ⟨rfl, by decide +kernel⟩ (by decide) rfl rfl (Nat.le_of_ble_eq_true rfl) (by decide) dX10_weeks_58 (fun e_11 w_12 h_13 => ?_)
              obtain ⟨rfl, rfl⟩ := h_13
              refine j_perm (ws' := [(h, oC 9 [.ref (r 0), .ref (r 1), vI (ms_w T), vI (ms_l T), vL (ms_s T), vI (ms_a T), vI (ms_t T), vI (ms_p T), vI (g_np G), .ref (r 9), .ref (r 10), .ref (r 11), .ref (r 12), .ref (r 13), vI (g_nc G), .ref (r 15), .ref (r 16), .ref (r 17), vI (g_pl G), .ref (r 19), vI (g_ik G), vL (g_ks G), .ref (r 22), vL (g_ss G), .ref (r 24), vI (g_fa G), vI (g_iw G), vI (g_nw G), vI (g_ns G), vI (g_ne G), .ref (r 30), .ref (r 31), .ref (r 32), .ref (r 33), vL (g_h G)]), ((r 1), aI (Y 0) 7 (ms_h T)), ((r 0), aI (Y 0) 420 (ms_m T))]) [0, 1, 2] rfl rfl ?_
              exact Rt _ _ _ _ _ _ (by decide) (by decide) ⟨by unfold rWeeks; rw [if_neg (by omega), if_neg (by omega), if_neg (by omega), show n = i by omega, ← i41_1], by unfold sWeeks; rw [if_neg (by omega), if_neg (by omega), if_neg (by omega), show n = i by omega, ← i41_1]⟩ dX10_weeks_61
            · skip
              refine j_aload_n (pc := 46) C 0 0 rfl rfl dX10_weeks_46 ?_
              refine j_iload_n (pc := 47) C 1 1 rfl rfl dX10_weeks_47 ?_
              refine j_callVv (pc := 48) (As := [vI cu]) (na := 1) (st := []) C [0, 1, 2] [] (wr := []) (fun l => m_goWeek l D Y _ h r T G cs ps cu (List.mem_append_right _ k0) (List.mem_append_right _ k1) (List.mem_append_right _ k2) (List.mem_append_right _ k3) (List.mem_append_right _ k4) (List.mem_append_right _ q0) (List.mem_append_right _ q1) (List.mem_append_right _ q2) i41_2.1 (by omega) (hcs cu (by omega)) (by first | assumption | omega) (by first | assumption | omega) (by omega)) rfl rfl rfl rfl (by decide) rfl (Or.inl (List.mem_of_getElem? (i := 0) rfl)) rfl gX10_weeks_X10_goWeek ⟨rfl, by decide +kernel⟩ (by decide) rfl rfl (Nat.le_of_ble_eq_true rfl) (by decide) dX10_weeks_48 (fun w_15 h_16 => ?_)
              subst h_16
              refine j_perm (ws' := [(h, oC 9 [.ref (r 0), .ref (r 1), vI (ms_w (goS (cs cu) ps (g_np G) T)), vI (ms_l (goS (cs cu) ps (g_np G) T)), vL (ms_s (goS (cs cu) ps (g_np G) T)), vI (ms_a (goS (cs cu) ps (g_np G) T)), vI (ms_t (goS (cs cu) ps (g_np G) T)), vI (ms_p (goS (cs cu) ps (g_np G) T)), vI (g_np G), .ref (r 9), .ref (r 10), .ref (r 11), .ref (r 12), .ref (r 13), vI (g_nc G), .ref (r 15), .ref (r 16), .ref (r 17), vI (g_pl G), .ref (r 19), vI (g_ik G), vL (g_ks G), .ref (r 22), vL (g_ss G), .ref (r 24), vI (g_fa G), vI (g_iw G), vI (g_nw G), vI (g_ns G), vI (g_ne G), .ref (r 30), .ref (r 31), .ref (r 32), .ref (r 33), vL (g_h G)]), ((r 1), aI (Y 0) 7 (ms_h (goS (cs cu) ps (g_np G) T))), ((r 0), aI (Y 0) 420 (ms_m (goS (cs cu) ps (g_np G) T)))]) [0, 1, 2] rfl rfl ?_
              refine j_iinc (pc := 51) (lc' := [(3, vI (i + 1)), (0, .ref h), (1, vI cu), (2, vI n)]) C 3 rfl (by decide) rfl dX10_weeks_51 ?_
              refine j_goto (pc := 54) C 41 rfl dX10_weeks_54 ?_
              refine j_locals (lc' := [(0, .ref h), (1, vI cu), (2, vI n), (3, vI (i + 1))]) [1, 2, 3, 0] rfl ?_
              exact ih41 (i + 1) (goS (cs cu) ps (g_np G) T) (by omega) (by omega) (by rw [i41_1]; exact (weeksS_succ (by omega)).symm) (by have := okS_go i41_2.1 (hcs cu (by omega)) hps hnp; exact ⟨this.1, by rw [this.2, i41_2.2]; omega⟩)
        refine j_locals (lc' := [(0, .ref h), (1, vI cu), (2, vI n), (3, vI 0)]) [1, 2, 3, 0] rfl ?_
        exact hL41 _ 0 S (Nat.lt_succ_self _) (by omega) rfl ⟨hS, by omega⟩
      · skip
        refine j_bipush (pc := 36) (w := (-103)) C rfl dX10_weeks_36 ?_
        exact Rt _ _ _ _ _ _ (by decide) (by decide) ⟨by unfold rWeeks; rw [if_neg (by omega), if_neg (by omega), if_pos (by omega)], by unfold sWeeks; rw [if_neg (by omega), if_neg (by omega), if_pos (by omega)]; first | done | rfl⟩ dX10_weeks_38
    · skip
      refine j_bipush (pc := 21) (w := (-102)) C rfl dX10_weeks_21 ?_
      exact Rt _ _ _ _ _ _ (by decide) (by decide) ⟨by unfold rWeeks; rw [if_neg (by omega), if_pos (by omega)], by unfold sWeeks; rw [if_neg (by omega), if_pos (by omega)]; first | done | rfl⟩ dX10_weeks_23
  · skip
    refine j_bipush (pc := 8) (w := (-101)) C rfl dX10_weeks_8 ?_
    exact Rt _ _ _ _ _ _ (by decide) (by decide) ⟨by unfold rWeeks; rw [if_pos (by omega)], by unfold sWeeks; rw [if_pos (by omega)]; first | done | rfl⟩ dX10_weeks_10

theorem fX10_wouldOf_X10 : ∀ w ∈ u_ws RX10 TX10 35, w ∈ wsX10_wouldOf := j_words [82, 83, 84, 85, 86, 87, 88, 89, 90, 91, 92, 93, 94, 95, 96, 97, 98, 99, 100, 101, 102, 103, 104, 105, 106, 107, 108, 109, 110, 111, 112, 113, 114, 115, 116] (by decide +kernel)
set_option maxHeartbeats 4000000 in
set_option maxRecDepth 100000 in
theorem m_wouldOf (l : Launch) (D : va_G) (Y : Nat → ClassId) (RO : va_W) (h : Nat) (r : Nat → Nat) (S : MS) (G : GS) (cs : Int → CT) (ps : Int → PT) (v : Int → Int) (cu : Int) (c : Int) (n : Int) (k0 : ((r 9), aI (Y 0) 6 (kof ps)) ∈ RO) (k1 : ((r 10), aI (Y 0) 6 (nof ps)) ∈ RO) (k2 : ((r 11), aI (Y 0) 6 (wof ps)) ∈ RO) (k3 : ((r 12), aI (Y 0) 6 (iof ps)) ∈ RO) (k4 : ((r 13), aI (Y 0) 6 (zof ps)) ∈ RO) (q0 : ((r 15), aI (Y 0) 4 (cwof cs)) ∈ RO) (q1 : ((r 16), aI (Y 0) 4 (czof cs)) ∈ RO) (q2 : ((r 17), aI (Y 0) 4 (ceof cs)) ∈ RO) (hS : okS S) (hw : ms_w S ≤ 10100) (hnp : 0 ≤ g_np G ∧ g_np G ≤ 6) (hps : ∀ i, 0 ≤ i ∧ i < g_np G → okP (ps i)) (hnc : 0 ≤ g_nc G ∧ g_nc G ≤ 4) (hcs : ∀ i, 0 ≤ i ∧ i < g_nc G → okC (cs i)) (hcu : 0 ≤ cu ∧ cu < g_nc G) (hc : 0 ≤ c ∧ c < 7) (hn : 0 ≤ n ∧ n ≤ 60) : jMi l yX10_wouldOf wsX10_wouldOf { frames := 4, cells := 0, slots := 0, locals := 91 } D Y RO [.ref h, vI cu, vI c, vI n] [(h, oC 9 [.ref (r 0), .ref (r 1), vI (ms_w S), vI (ms_l S), vL (ms_s S), vI (ms_a S), vI (ms_t S), vI (ms_p S), vI (g_np G), .ref (r 9), .ref (r 10), .ref (r 11), .ref (r 12), .ref (r 13), vI (g_nc G), .ref (r 15), .ref (r 16), .ref (r 17), vI (g_pl G), .ref (r 19), vI (g_ik G), vL (g_ks G), .ref (r 22), vL (g_ss G), .ref (r 24), vI (g_fa G), vI (g_iw G), vI (g_nw G), vI (g_ns G), vI (g_ne G), .ref (r 30), .ref (r 31), .ref (r 32), .ref (r 33), vL (g_h G)]), ((r 1), aI (Y 0) 7 (ms_h S)), ((r 0), aI (Y 0) 420 (ms_m S)), ((r 24), aI (Y 0) 432 v)] (fun e w1 => e = ms_h (weeksS (cs cu) ps (g_np G) n S) c ∧ w1 = [(h, oC 9 [.ref (r 0), .ref (r 1), vI (ms_w S), vI (ms_l S), vL (ms_s S), vI (ms_a S), vI (ms_t S), vI (ms_p S), vI (g_np (gSS G (ms_s S))), .ref (r 9), .ref (r 10), .ref (r 11), .ref (r 12), .ref (r 13), vI (g_nc (gSS G (ms_s S))), .ref (r 15), .ref (r 16), .ref (r 17), vI (g_pl (gSS G (ms_s S))), .ref (r 19), vI (g_ik (gSS G (ms_s S))), vL (g_ks (gSS G (ms_s S))), .ref (r 22), vL (g_ss (gSS G (ms_s S))), .ref (r 24), vI (g_fa (gSS G (ms_s S))), vI (g_iw (gSS G (ms_s S))), vI (g_nw (gSS G (ms_s S))), vI (g_ns (gSS G (ms_s S))), vI (g_ne (gSS G (ms_s S))), .ref (r 30), .ref (r 31), .ref (r 32), .ref (r 33), vL (g_h (gSS G (ms_s S)))]), ((r 1), aI (Y 0) 7 (ms_h S)), ((r 0), aI (Y 0) 420 (ms_m S)), ((r 24), aI (Y 0) 432 (packS S))]) := by
  refine j_ofi RX10 rfl rfl rfl (Nat.le_of_ble_eq_true rfl) (fun X C Rt => ?_)
  refine j_aload_n (pc := 0) C 0 0 rfl rfl dX10_wouldOf_0 ?_
  refine j_callVv (pc := 1) (As := []) (na := 0) (st := []) C [0, 3] [1, 2] (wr := [((r 1), aI (Y 0) 7 (ms_h S)), ((r 0), aI (Y 0) 420 (ms_m S))]) (fun l => m_save l D Y _ h r S G v (List.mem_append_left _ (List.mem_of_getElem? (i := 0) rfl)) (List.mem_append_left _ (List.mem_of_getElem? (i := 1) rfl)) ) rfl rfl rfl rfl (by decide) rfl (Or.inl (List.mem_of_getElem? (i := 0) rfl)) rfl gX10_wouldOf_X10_save ⟨rfl, by decide +kernel⟩ (by decide) rfl rfl (Nat.le_of_ble_eq_true rfl) (by decide) dX10_wouldOf_1 (fun w_2 h_3 => ?_)
  subst h_3
  refine j_perm (ws' := [(h, oC 9 [.ref (r 0), .ref (r 1), vI (ms_w S), vI (ms_l S), vL (ms_s S), vI (ms_a S), vI (ms_t S), vI (ms_p S), vI (g_np (gSS G (ms_s S))), .ref (r 9), .ref (r 10), .ref (r 11), .ref (r 12), .ref (r 13), vI (g_nc (gSS G (ms_s S))), .ref (r 15), .ref (r 16), .ref (r 17), vI (g_pl (gSS G (ms_s S))), .ref (r 19), vI (g_ik (gSS G (ms_s S))), vL (g_ks (gSS G (ms_s S))), .ref (r 22), vL (g_ss (gSS G (ms_s S))), .ref (r 24), vI (g_fa (gSS G (ms_s S))), vI (g_iw (gSS G (ms_s S))), vI (g_nw (gSS G (ms_s S))), vI (g_ns (gSS G (ms_s S))), vI (g_ne (gSS G (ms_s S))), .ref (r 30), .ref (r 31), .ref (r 32), .ref (r 33), vL (g_h (gSS G (ms_s S)))]), ((r 1), aI (Y 0) 7 (ms_h S)), ((r 0), aI (Y 0) 420 (ms_m S)), ((r 24), aI (Y 0) 432 (packS S))]) [2, 0, 1, 3] rfl rfl ?_
  refine j_iconst (pc := 4) C dX10_wouldOf_4 ?_
  refine j_istore (pc := 5) (lc' := [(4, vI 0), (0, .ref h), (1, vI cu), (2, vI c), (3, vI n)]) C (by decide) rfl dX10_wouldOf_5 ?_
  have hL7 : ∀ (N7 : Nat) (i : Int) (T : MS), ((n - i).toNat) < N7 → (0 ≤ i ∧ i ≤ n) → (T = weeksS (cs cu) ps (g_np G) i S) → (okS T ∧ ms_w T = ms_w S + i) → jW X 5 0 0 [(h, oC 9 [.ref (r 0), .ref (r 1), vI (ms_w T), vI (ms_l T), vL (ms_s T), vI (ms_a T), vI (ms_t T), vI (ms_p T), vI (g_np (gSS G (ms_s S))), .ref (r 9), .ref (r 10), .ref (r 11), .ref (r 12), .ref (r 13), vI (g_nc (gSS G (ms_s S))), .ref (r 15), .ref (r 16), .ref (r 17), vI (g_pl (gSS G (ms_s S))), .ref (r 19), vI (g_ik (gSS G (ms_s S))), vL (g_ks (gSS G (ms_s S))), .ref (r 22), vL (g_ss (gSS G (ms_s S))), .ref (r 24), vI (g_fa (gSS G (ms_s S))), vI (g_iw (gSS G (ms_s S))), vI (g_nw (gSS G (ms_s S))), vI (g_ns (gSS G (ms_s S))), vI (g_ne (gSS G (ms_s S))), .ref (r 30), .ref (r 31), .ref (r 32), .ref (r 33), vL (g_h (gSS G (ms_s S)))]), ((r 1), aI (Y 0) 7 (ms_h T)), ((r 0), aI (Y 0) 420 (ms_m T)), ((r 24), aI (Y 0) 432 (packS S))] [(0, .ref h), (1, vI cu), (2, vI c), (3, vI n), (4, vI i)] 7 [] := by
    intro N7
    induction N7 with
    | zero => intro i T hm7 i7_0 i7_1 i7_2; omega
    | succ N7 ih7 =>
      intro i T hm7 i7_0 i7_1 i7_2
      refine j_iload (pc := 7) C 4 rfl dX10_wouldOf_7 ?_
      refine j_iload_n (pc := 9) C 3 3 rfl rfl dX10_wouldOf_9 ?_
      refine j_icmp_ge (pc := 10) C 24 rfl (by omega) dX10_wouldOf_10 (fun h_4p10 => ?_) (fun h_4p10 => ?_)
      · skip
        refine j_aload_n (pc := 24) C 0 0 rfl rfl dX10_wouldOf_24 ?_
        refine j_get (pc := 25) C (Or.inl (List.mem_of_getElem? (i := 0) rfl)) rfl fX10_wouldOf_X10 1 (by decide) (List.mem_of_getElem? (i := 1) rfl) (Or.inl rfl) rfl dX10_wouldOf_25 ?_
        refine j_iload_n (pc := 28) C 2 2 rfl rfl dX10_wouldOf_28 ?_
        refine j_iald (pc := 29) C (Or.inl (List.mem_of_getElem? (i := 1) rfl)) rfl (by omega) (by decide) dX10_wouldOf_29 ?_
        have f_5 := i7_2.1.1 c hc
        refine j_istore (pc := 30) (lc' := [(4, vI (ms_h T c)), (0, .ref h), (1, vI cu), (2, vI c), (3, vI n)]) C (by decide) rfl dX10_wouldOf_30 ?_
        refine j_aload_n (pc := 32) C 0 1 rfl rfl dX10_wouldOf_32 ?_
        refine j_callVv (pc := 33) (As := []) (na := 0) (st := []) C [0, 1, 2] [3] (wr := [((r 24), aI (Y 0) 432 (packS S))]) (fun l => m_back l D Y _ h r S T (gSS G (ms_s S)) (List.mem_append_left _ (List.mem_of_getElem? (i := 0) rfl)) rfl) rfl rfl rfl rfl (by decide) rfl (Or.inl (List.mem_of_getElem? (i := 0) rfl)) rfl gX10_wouldOf_X10_back ⟨rfl, by decide +kernel⟩ (by decide) rfl rfl (Nat.le_of_ble_eq_true rfl) (by decide) dX10_wouldOf_33 (fun w_7 h_8 => ?_)
        subst h_8
        refine j_perm (ws' := [(h, oC 9 [.ref (r 0), .ref (r 1), vI (ms_w S), vI (ms_l S), vL (ms_s S), vI (ms_a S), vI (ms_t S), vI (ms_p S), vI (g_np (gSS G (ms_s S))), .ref (r 9), .ref (r 10), .ref (r 11), .ref (r 12), .ref (r 13), vI (g_nc (gSS G (ms_s S))), .ref (r 15), .ref (r 16), .ref (r 17), vI (g_pl (gSS G (ms_s S))), .ref (r 19), vI (g_ik (gSS G (ms_s S))), vL (g_ks (gSS G (ms_s S))), .ref (r 22), vL (g_ss (gSS G (ms_s S))), .ref (r 24), vI (g_fa (gSS G (ms_s S))), vI (g_iw (gSS G (ms_s S))), vI (g_nw (gSS G (ms_s S))), vI (g_ns (gSS G (ms_s S))), vI (g_ne (gSS G (ms_s S))), .ref (r 30), .ref (r 31), .ref (r 32), .ref (r 33), vL (g_h (gSS G (ms_s S)))]), ((r 1), aI (Y 0) 7 (ms_h S)), ((r 0), aI (Y 0) 420 (ms_m S)), ((r 24), aI (Y 0) 432 (packS S))]) [1, 2, 3, 0] rfl rfl ?_
        refine j_iload (pc := 36) C 0 rfl dX10_wouldOf_36 ?_
        exact Rt _ _ _ _ _ _ (by decide) (by decide) ⟨by rw [i7_1, show i = n by omega], rfl⟩ dX10_wouldOf_38
      · skip
        refine j_aload_n (pc := 13) C 0 0 rfl rfl dX10_wouldOf_13 ?_
        refine j_iload_n (pc := 14) C 1 1 rfl rfl dX10_wouldOf_14 ?_
        refine j_callVv (pc := 15) (As := [vI cu]) (na := 1) (st := []) C [0, 1, 2] [3] (wr := [((r 24), aI (Y 0) 432 (packS S))]) (fun l => m_goWeek l D Y _ h r T (gSS G (ms_s S)) cs ps cu (List.mem_append_right _ k0) (List.mem_append_right _ k1) (List.mem_append_right _ k2) (List.mem_append_right _ k3) (List.mem_append_right _ k4) (List.mem_append_right _ q0) (List.mem_append_right _ q1) (List.mem_append_right _ q2) i7_2.1 (by omega) (hcs cu hcu) hnp hps (by omega)) rfl rfl rfl rfl (by decide) rfl (Or.inl (List.mem_of_getElem? (i := 0) rfl)) rfl gX10_wouldOf_X10_goWeek ⟨rfl, by decide +kernel⟩ (by decide) rfl rfl (Nat.le_of_ble_eq_true rfl) (by decide) dX10_wouldOf_15 (fun w_10 h_11 => ?_)
        subst h_11
        refine j_perm (ws' := [(h, oC 9 [.ref (r 0), .ref (r 1), vI (ms_w (goS (cs cu) ps (g_np (gSS G (ms_s S))) T)), vI (ms_l (goS (cs cu) ps (g_np (gSS G (ms_s S))) T)), vL (ms_s (goS (cs cu) ps (g_np (gSS G (ms_s S))) T)), vI (ms_a (goS (cs cu) ps (g_np (gSS G (ms_s S))) T)), vI (ms_t (goS (cs cu) ps (g_np (gSS G (ms_s S))) T)), vI (ms_p (goS (cs cu) ps (g_np (gSS G (ms_s S))) T)), vI (g_np (gSS G (ms_s S))), .ref (r 9), .ref (r 10), .ref (r 11), .ref (r 12), .ref (r 13), vI (g_nc (gSS G (ms_s S))), .ref (r 15), .ref (r 16), .ref (r 17), vI (g_pl (gSS G (ms_s S))), .ref (r 19), vI (g_ik (gSS G (ms_s S))), vL (g_ks (gSS G (ms_s S))), .ref (r 22), vL (g_ss (gSS G (ms_s S))), .ref (r 24), vI (g_fa (gSS G (ms_s S))), vI (g_iw (gSS G (ms_s S))), vI (g_nw (gSS G (ms_s S))), vI (g_ns (gSS G (ms_s S))), vI (g_ne (gSS G (ms_s S))), .ref (r 30), .ref (r 31), .ref (r 32), .ref (r 33), vL (g_h (gSS G (ms_s S)))]), ((r 1), aI (Y 0) 7 (ms_h (goS (cs cu) ps (g_np (gSS G (ms_s S))) T))), ((r 0), aI (Y 0) 420 (ms_m (goS (cs cu) ps (g_np (gSS G (ms_s S))) T))), ((r 24), aI (Y 0) 432 (packS S))]) [1, 2, 3, 0] rfl rfl ?_
        refine j_iinc (pc := 18) (lc' := [(4, vI (i + 1)), (0, .ref h), (1, vI cu), (2, vI c), (3, vI n)]) C 4 rfl (by decide) rfl dX10_wouldOf_18 ?_
        refine j_goto (pc := 21) C 7 rfl dX10_wouldOf_21 ?_
        refine j_locals (lc' := [(0, .ref h), (1, vI cu), (2, vI c), (3, vI n), (4, vI (i + 1))]) [1, 2, 3, 4, 0] rfl ?_
        exact ih7 (i + 1) (goS (cs cu) ps (g_np (gSS G (ms_s S))) T) (by omega) (by omega) (by rw [i7_1]; exact (weeksS_succ (by omega)).symm) (by have := okS_go i7_2.1 (hcs cu hcu) hps hnp; exact ⟨this.1, show ms_w (goS (cs cu) ps (g_np G) T) = ms_w S + (i + 1) from by rw [this.2, i7_2.2]; omega⟩)
  refine j_locals (lc' := [(0, .ref h), (1, vI cu), (2, vI c), (3, vI n), (4, vI 0)]) [1, 2, 3, 4, 0] rfl ?_
  exact hL7 _ 0 S (Nat.lt_succ_self _) (by omega) rfl ⟨hS, by omega⟩

set_option maxHeartbeats 4000000 in
set_option maxRecDepth 100000 in
theorem m_would (l : Launch) (D : va_G) (Y : Nat → ClassId) (RO : va_W) (h : Nat) (r : Nat → Nat) (S : MS) (G : GS) (cs : Int → CT) (ps : Int → PT) (v : Int → Int) (cu : Int) (c : Int) (n : Int) (k0 : ((r 9), aI (Y 0) 6 (kof ps)) ∈ RO) (k1 : ((r 10), aI (Y 0) 6 (nof ps)) ∈ RO) (k2 : ((r 11), aI (Y 0) 6 (wof ps)) ∈ RO) (k3 : ((r 12), aI (Y 0) 6 (iof ps)) ∈ RO) (k4 : ((r 13), aI (Y 0) 6 (zof ps)) ∈ RO) (q0 : ((r 15), aI (Y 0) 4 (cwof cs)) ∈ RO) (q1 : ((r 16), aI (Y 0) 4 (czof cs)) ∈ RO) (q2 : ((r 17), aI (Y 0) 4 (ceof cs)) ∈ RO) (hS : okS S) (hw : ms_w S ≤ 9999) (hnp : 0 ≤ g_np G ∧ g_np G ≤ 6) (hps : ∀ i, 0 ≤ i ∧ i < g_np G → okP (ps i)) (hnc : 0 ≤ g_nc G ∧ g_nc G ≤ 4) (hcs : ∀ i, 0 ≤ i ∧ i < g_nc G → okC (cs i)) (hcu : -2147483648 ≤ cu ∧ cu ≤ 2147483647) (hc : -2147483648 ≤ c ∧ c ≤ 2147483647) (hn : -2147483648 ≤ n ∧ n ≤ 2147483647) : jMi l yX10_would wsX10_would { frames := 5, cells := 0, slots := 0, locals := 115 } D Y RO [.ref h, vI cu, vI c, vI n] [(h, oC 9 [.ref (r 0), .ref (r 1), vI (ms_w S), vI (ms_l S), vL (ms_s S), vI (ms_a S), vI (ms_t S), vI (ms_p S), vI (g_np G), .ref (r 9), .ref (r 10), .ref (r 11), .ref (r 12), .ref (r 13), vI (g_nc G), .ref (r 15), .ref (r 16), .ref (r 17), vI (g_pl G), .ref (r 19), vI (g_ik G), vL (g_ks G), .ref (r 22), vL (g_ss G), .ref (r 24), vI (g_fa G), vI (g_iw G), vI (g_nw G), vI (g_ns G), vI (g_ne G), .ref (r 30), .ref (r 31), .ref (r 32), .ref (r 33), vL (g_h G)]), ((r 1), aI (Y 0) 7 (ms_h S)), ((r 0), aI (Y 0) 420 (ms_m S)), ((r 24), aI (Y 0) 432 v)] (fun e w1 => e = rWould cu c n (g_nc G) cs (g_np G) ps S ∧ ∃ (G1 : GS) (v1 : Int → Int), gEq G G1 ∧ w1 = [(h, oC 9 [.ref (r 0), .ref (r 1), vI (ms_w S), vI (ms_l S), vL (ms_s S), vI (ms_a S), vI (ms_t S), vI (ms_p S), vI (g_np G1), .ref (r 9), .ref (r 10), .ref (r 11), .ref (r 12), .ref (r 13), vI (g_nc G1), .ref (r 15), .ref (r 16), .ref (r 17), vI (g_pl G1), .ref (r 19), vI (g_ik G1), vL (g_ks G1), .ref (r 22), vL (g_ss G1), .ref (r 24), vI (g_fa G1), vI (g_iw G1), vI (g_nw G1), vI (g_ns G1), vI (g_ne G1), .ref (r 30), .ref (r 31), .ref (r 32), .ref (r 33), vL (g_h G1)]), ((r 1), aI (Y 0) 7 (ms_h S)), ((r 0), aI (Y 0) 420 (ms_m S)), ((r 24), aI (Y 0) 432 v1)]) := by
  refine j_ofi RX10 rfl rfl rfl (Nat.le_of_ble_eq_true rfl) (fun X C Rt => ?_)
  refine j_aload_n (pc := 0) C 0 0 rfl rfl dX10_would_0 ?_
  refine j_iload_n (pc := 1) C 1 1 rfl rfl dX10_would_1 ?_
  refine j_callVi (pc := 2) (As := [vI cu]) (na := 1) (st := []) C [] [0, 1, 2, 3] (wr := [(h, oC 9 [.ref (r 0), .ref (r 1), vI (ms_w S), vI (ms_l S), vL (ms_s S), vI (ms_a S), vI (ms_t S), vI (ms_p S), vI (g_np G), .ref (r 9), .ref (r 10), .ref (r 11), .ref (r 12), .ref (r 13), vI (g_nc G), .ref (r 15), .ref (r 16), .ref (r 17), vI (g_pl G), .ref (r 19), vI (g_ik G), vL (g_ks G), .ref (r 22), vL (g_ss G), .ref (r 24), vI (g_fa G), vI (g_iw G), vI (g_nw G), vI (g_ns G), vI (g_ne G), .ref (r 30), .ref (r 31), .ref (r 32), .ref (r 33), vL (g_h G)]), ((r 1), aI (Y 0) 7 (ms_h S)), ((r 0), aI (Y 0) 420 (ms_m S)), ((r 24), aI (Y 0) 432 v)]) (fun l => m_isCustom l D Y _ h r S G cu (List.mem_append_left _ (List.mem_of_getElem? (i := 0) rfl)) (by first | assumption | omega) (by first | assumption | omega)) rfl rfl rfl rfl (by decide) rfl (Or.inr (List.mem_append_left _ (List.mem_of_getElem? (i := 0) rfl))) rfl gX10_would_X10_isCustom ⟨rfl, by decide +kernel⟩ (by decide) rfl rfl (Nat.le_of_ble_eq_true rfl) (by decide) dX10_would_2 (fun e_1 w_2 h_3 => ?_)
  obtain ⟨rfl, rfl⟩ := h_3
  refine j_perm (ws' := [(h, oC 9 [.ref (r 0), .ref (r 1), vI (ms_w S), vI (ms_l S), vL (ms_s S), vI (ms_a S), vI (ms_t S), vI (ms_p S), vI (g_np G), .ref (r 9), .ref (r 10), .ref (r 11), .ref (r 12), .ref (r 13), vI (g_nc G), .ref (r 15), .ref (r 16), .ref (r 17), vI (g_pl G), .ref (r 19), vI (g_ik G), vL (g_ks G), .ref (r 22), vL (g_ss G), .ref (r 24), vI (g_fa G), vI (g_iw G), vI (g_nw G), vI (g_ns G), vI (g_ne G), .ref (r 30), .ref (r 31), .ref (r 32), .ref (r 33), vL (g_h G)]), ((r 1), aI (Y 0) 7 (ms_h S)), ((r 0), aI (Y 0) 420 (ms_m S)), ((r 24), aI (Y 0) 432 v)]) [0, 1, 2, 3] rfl rfl ?_
  refine j_if_eqb (pc := 5) C 15 rfl dX10_would_5 (fun h_4p5 => ?_) (fun h_4p5 => ?_)
  · skip
    refine j_bipush (pc := 15) (w := (-101)) C rfl dX10_would_15 ?_
    exact Rt _ _ _ _ _ _ (by decide) (by decide) ⟨by unfold rWould; rw [if_pos (by omega)], _, _, gEq.rf G, rfl⟩ dX10_would_17
  · skip
    refine j_iload_n (pc := 8) C 2 2 rfl rfl dX10_would_8 ?_
    refine j_callSi (pc := 9) (As := [vI c]) (na := 1) (st := []) C [] [0, 1, 2, 3] (wr := [(h, oC 9 [.ref (r 0), .ref (r 1), vI (ms_w S), vI (ms_l S), vL (ms_s S), vI (ms_a S), vI (ms_t S), vI (ms_p S), vI (g_np G), .ref (r 9), .ref (r 10), .ref (r 11), .ref (r 12), .ref (r 13), vI (g_nc G), .ref (r 15), .ref (r 16), .ref (r 17), vI (g_pl G), .ref (r 19), vI (g_ik G), vL (g_ks G), .ref (r 22), vL (g_ss G), .ref (r 24), vI (g_fa G), vI (g_iw G), vI (g_nw G), vI (g_ns G), vI (g_ne G), .ref (r 30), .ref (r 31), .ref (r 32), .ref (r 33), vL (g_h G)]), ((r 1), aI (Y 0) 7 (ms_h S)), ((r 0), aI (Y 0) 420 (ms_m S)), ((r 24), aI (Y 0) 432 v)]) (fun l => m_isCairn l D Y _ c (by first | assumption | omega)) rfl rfl rfl rfl (by decide) rfl gX10_would_X10_isCairn (by decide +kernel) (by decide) rfl rfl (Nat.le_of_ble_eq_true rfl) (by decide) dX10_would_9 (fun e_5 w_6 h_7 => ?_)
    obtain ⟨rfl, rfl⟩ := h_7
    refine j_perm (ws' := [(h, oC 9 [.ref (r 0), .ref (r 1), vI (ms_w S), vI (ms_l S), vL (ms_s S), vI (ms_a S), vI (ms_t S), vI (ms_p S), vI (g_np G), .ref (r 9), .ref (r 10), .ref (r 11), .ref (r 12), .ref (r 13), vI (g_nc G), .ref (r 15), .ref (r 16), .ref (r 17), vI (g_pl G), .ref (r 19), vI (g_ik G), vL (g_ks G), .ref (r 22), vL (g_ss G), .ref (r 24), vI (g_fa G), vI (g_iw G), vI (g_nw G), vI (g_ns G), vI (g_ne G), .ref (r 30), .ref (r 31), .ref (r 32), .ref (r 33), vL (g_h G)]), ((r 1), aI (Y 0) 7 (ms_h S)), ((r 0), aI (Y 0) 420 (ms_m S)), ((r 24), aI (Y 0) 432 v)]) [0, 1, 2, 3] rfl rfl ?_
    refine j_if_neb (pc := 12) C 18 rfl dX10_would_12 (fun h_8p12 => ?_) (fun h_8p12 => ?_)
    · skip
      refine j_iload_n (pc := 18) C 3 3 rfl rfl dX10_would_18 ?_
      refine j_iconst (pc := 19) C dX10_would_19 ?_
      refine j_bipush (pc := 20) (w := 60) C rfl dX10_would_20 ?_
      refine j_callSi (pc := 22) (As := [vI n, vI 0, vI 60]) (na := 3) (st := []) C [] [0, 1, 2, 3] (wr := [(h, oC 9 [.ref (r 0), .ref (r 1), vI (ms_w S), vI (ms_l S), vL (ms_s S), vI (ms_a S), vI (ms_t S), vI (ms_p S), vI (g_np G), .ref (r 9), .ref (r 10), .ref (r 11), .ref (r 12), .ref (r 13), vI (g_nc G), .ref (r 15), .ref (r 16), .ref (r 17), vI (g_pl G), .ref (r 19), vI (g_ik G), vL (g_ks G), .ref (r 22), vL (g_ss G), .ref (r 24), vI (g_fa G), vI (g_iw G), vI (g_nw G), vI (g_ns G), vI (g_ne G), .ref (r 30), .ref (r 31), .ref (r 32), .ref (r 33), vL (g_h G)]), ((r 1), aI (Y 0) 7 (ms_h S)), ((r 0), aI (Y 0) 420 (ms_m S)), ((r 24), aI (Y 0) 432 v)]) (fun l => m_within l D Y _ n 0 60 (by first | assumption | omega) (by first | assumption | omega) (by first | assumption | omega)) rfl rfl rfl rfl (by decide) rfl gX10_would_X10_within (by decide +kernel) (by decide) rfl rfl (Nat.le_of_ble_eq_true rfl) (by decide) dX10_would_22 (fun e_9 w_10 h_11 => ?_)
      obtain ⟨rfl, rfl⟩ := h_11
      refine j_perm (ws' := [(h, oC 9 [.ref (r 0), .ref (r 1), vI (ms_w S), vI (ms_l S), vL (ms_s S), vI (ms_a S), vI (ms_t S), vI (ms_p S), vI (g_np G), .ref (r 9), .ref (r 10), .ref (r 11), .ref (r 12), .ref (r 13), vI (g_nc G), .ref (r 15), .ref (r 16), .ref (r 17), vI (g_pl G), .ref (r 19), vI (g_ik G), vL (g_ks G), .ref (r 22), vL (g_ss G), .ref (r 24), vI (g_fa G), vI (g_iw G), vI (g_nw G), vI (g_ns G), vI (g_ne G), .ref (r 30), .ref (r 31), .ref (r 32), .ref (r 33), vL (g_h G)]), ((r 1), aI (Y 0) 7 (ms_h S)), ((r 0), aI (Y 0) 420 (ms_m S)), ((r 24), aI (Y 0) 432 v)]) [0, 1, 2, 3] rfl rfl ?_
      refine j_if_eqb (pc := 25) C 38 rfl dX10_would_25 (fun h_12p25 => ?_) (fun h_12p25 => ?_)
      · skip
        refine j_bipush (pc := 38) (w := (-102)) C rfl dX10_would_38 ?_
        exact Rt _ _ _ _ _ _ (by decide) (by decide) ⟨by unfold rWould; rw [if_neg (by omega), if_pos (by omega)], _, _, gEq.rf G, rfl⟩ dX10_would_40
      · skip
        refine j_aload_n (pc := 28) C 0 0 rfl rfl dX10_would_28 ?_
        refine j_iload_n (pc := 29) C 1 1 rfl rfl dX10_would_29 ?_
        refine j_iload_n (pc := 30) C 2 2 rfl rfl dX10_would_30 ?_
        refine j_iload_n (pc := 31) C 3 3 rfl rfl dX10_would_31 ?_
        refine j_callVi (pc := 32) (As := [vI cu, vI c, vI n]) (na := 3) (st := []) C [0, 1, 2, 3] [] (wr := []) (fun l => m_wouldOf l D Y _ h r S G cs ps v cu c n (List.mem_append_right _ k0) (List.mem_append_right _ k1) (List.mem_append_right _ k2) (List.mem_append_right _ k3) (List.mem_append_right _ k4) (List.mem_append_right _ q0) (List.mem_append_right _ q1) (List.mem_append_right _ q2) (by first | assumption | omega) (by first | assumption | omega) (by first | assumption | omega) (by first | assumption | omega) (by first | assumption | omega) (by first | assumption | omega) (by first | assumption | omega) (by first | assumption | omega) (by first | assumption | omega)) rfl rfl rfl rfl (by decide) rfl (Or.inl (List.mem_of_getElem? (i := 0) rfl)) rfl gX10_would_X10_wouldOf ⟨rfl, by decide +kernel⟩ (by decide) rfl rfl (Nat.le_of_ble_eq_true rfl) (by decide) dX10_would_32 (fun e_13 w_14 h_15 => ?_)
        obtain ⟨rfl, rfl⟩ := h_15
        refine j_perm (ws' := [(h, oC 9 [.ref (r 0), .ref (r 1), vI (ms_w S), vI (ms_l S), vL (ms_s S), vI (ms_a S), vI (ms_t S), vI (ms_p S), vI (g_np (gSS G (ms_s S))), .ref (r 9), .ref (r 10), .ref (r 11), .ref (r 12), .ref (r 13), vI (g_nc (gSS G (ms_s S))), .ref (r 15), .ref (r 16), .ref (r 17), vI (g_pl (gSS G (ms_s S))), .ref (r 19), vI (g_ik (gSS G (ms_s S))), vL (g_ks (gSS G (ms_s S))), .ref (r 22), vL (g_ss (gSS G (ms_s S))), .ref (r 24), vI (g_fa (gSS G (ms_s S))), vI (g_iw (gSS G (ms_s S))), vI (g_nw (gSS G (ms_s S))), vI (g_ns (gSS G (ms_s S))), vI (g_ne (gSS G (ms_s S))), .ref (r 30), .ref (r 31), .ref (r 32), .ref (r 33), vL (g_h (gSS G (ms_s S)))]), ((r 1), aI (Y 0) 7 (ms_h S)), ((r 0), aI (Y 0) 420 (ms_m S)), ((r 24), aI (Y 0) 432 (packS S))]) [0, 1, 2, 3] rfl rfl ?_
        refine j_goto (pc := 35) C 40 rfl dX10_would_35 ?_
        exact Rt _ _ _ _ _ _ (by decide) (by decide) ⟨by unfold rWould; rw [if_neg (by omega), if_neg (by omega)], _, _, gEq.ss _ _, rfl⟩ dX10_would_40
    · skip
      refine j_bipush (pc := 15) (w := (-101)) C rfl dX10_would_15 ?_
      exact Rt _ _ _ _ _ _ (by decide) (by decide) ⟨by unfold rWould; rw [if_pos (by omega)], _, _, gEq.rf G, rfl⟩ dX10_would_17

theorem fX10_order_X10 : ∀ w ∈ u_ws RX10 TX10 35, w ∈ wsX10_order := j_words [9, 10, 11, 12, 13, 14, 15, 16, 17, 18, 19, 20, 21, 22, 23, 24, 25, 26, 27, 28, 29, 30, 31, 32, 33, 34, 35, 36, 37, 38, 39, 40, 41, 42, 43] (by decide +kernel)
set_option maxHeartbeats 4000000 in
set_option maxRecDepth 100000 in
theorem m_order (l : Launch) (D : va_G) (Y : Nat → ClassId) (RO : va_W) (h : Nat) (r : Nat → Nat) (S : MS) (G : GS) (i : Int) (r0 : (h, oC 9 [.ref (r 0), .ref (r 1), vI (ms_w S), vI (ms_l S), vL (ms_s S), vI (ms_a S), vI (ms_t S), vI (ms_p S), vI (g_np G), .ref (r 9), .ref (r 10), .ref (r 11), .ref (r 12), .ref (r 13), vI (g_nc G), .ref (r 15), .ref (r 16), .ref (r 17), vI (g_pl G), .ref (r 19), vI (g_ik G), vL (g_ks G), .ref (r 22), vL (g_ss G), .ref (r 24), vI (g_fa G), vI (g_iw G), vI (g_nw G), vI (g_ns G), vI (g_ne G), .ref (r 30), .ref (r 31), .ref (r 32), .ref (r 33), vL (g_h G)]) ∈ RO) (r1 : ((r 1), aI (Y 0) 7 (ms_h S)) ∈ RO) (hS : okS S) (hi : -2147483648 ≤ i ∧ i ≤ 2147483647) : jMi l yX10_order wsX10_order { frames := 2, cells := 0, slots := 0, locals := 42 } D Y RO [.ref h, vI i] [] (fun e w1 => e = rOrder i S ∧ w1 = []) := by
  refine j_ofi RX10 rfl rfl rfl (Nat.le_of_ble_eq_true rfl) (fun X C Rt => ?_)
  refine j_iload_n (pc := 0) C 1 1 rfl rfl dX10_order_0 ?_
  refine j_callSi (pc := 1) (As := [vI i]) (na := 1) (st := []) C [] [] (wr := []) (fun l => m_isCairn l D Y _ i (by first | assumption | omega)) rfl rfl rfl rfl (by decide) rfl gX10_order_X10_isCairn (by decide +kernel) (by decide) rfl rfl (Nat.le_of_ble_eq_true rfl) (by decide) dX10_order_1 (fun e_1 w_2 h_3 => ?_)
  obtain ⟨rfl, rfl⟩ := h_3
  refine j_perm (ws' := []) [] rfl rfl ?_
  refine j_if_neb (pc := 4) C 10 rfl dX10_order_4 (fun h_4p4 => ?_) (fun h_4p4 => ?_)
  · skip
    refine j_iconst (pc := 10) C dX10_order_10 ?_
    refine j_istore_n (pc := 11) (lc' := [(2, vI 0), (0, .ref h), (1, vI i)]) C 2 rfl (by decide) rfl dX10_order_11 ?_
    have hL12 : ∀ (N12 : Nat) (c : Int), ((7 - c).toNat) < N12 → (0 ≤ c ∧ c ≤ 7) → (fstI (fun c => aheadI (ms_h S) c = i) c = -1) → jW X 5 0 0 [] [(0, .ref h), (1, vI i), (2, vI c)] 12 [] := by
      intro N12
      induction N12 with
      | zero => intro c hm12 i12_0 i12_1; omega
      | succ N12 ih12 =>
        intro c hm12 i12_0 i12_1
        refine j_iload_n (pc := 12) C 2 2 rfl rfl dX10_order_12 ?_
        refine j_bipush (pc := 13) (w := 7) C rfl dX10_order_13 ?_
        refine j_icmp_ge (pc := 15) C 95 rfl (by omega) dX10_order_15 (fun h_5p15 => ?_) (fun h_5p15 => ?_)
        · skip
          refine j_iconst (pc := 95) C dX10_order_95 ?_
          exact Rt _ _ _ _ _ _ (by decide) (by decide) ⟨by unfold rOrder; rw [if_neg (by omega)]; rw [show c = 7 by omega] at i12_1; exact i12_1.symm, rfl⟩ dX10_order_96
        · skip
          refine j_iconst (pc := 18) C dX10_order_18 ?_
          refine j_istore_n (pc := 19) (lc' := [(3, vI 0), (0, .ref h), (1, vI i), (2, vI c)]) C 3 rfl (by decide) rfl dX10_order_19 ?_
          refine j_iconst (pc := 20) C dX10_order_20 ?_
          refine j_istore (pc := 21) (lc' := [(4, vI 0), (3, vI 0), (0, .ref h), (1, vI i), (2, vI c)]) C (by decide) rfl dX10_order_21 ?_
          have hL23 : ∀ (N23 : Nat) (b : Int) (d : Int), ((7 - d).toNat) < N23 → (0 ≤ d ∧ d ≤ 7) → (b = fo (aheadF (ms_h S) c) d 0 ∧ 0 ≤ b ∧ b ≤ d) → jW X 5 0 0 [] [(0, .ref h), (1, vI i), (2, vI c), (3, vI b), (4, vI d)] 23 [] := by
            intro N23
            induction N23 with
            | zero => intro b d hm23 i23_0 i23_1; omega
            | succ N23 ih23 =>
              intro b d hm23 i23_0 i23_1
              refine j_iload (pc := 23) C 4 rfl dX10_order_23 ?_
              refine j_bipush (pc := 25) (w := 7) C rfl dX10_order_25 ?_
              refine j_icmp_ge (pc := 27) C 82 rfl (by omega) dX10_order_27 (fun h_6p27 => ?_) (fun h_6p27 => ?_)
              · skip
                have eb : b = aheadI (ms_h S) c := by rw [i23_1.1, show d = 7 by omega]; rfl
                refine j_iload_n (pc := 82) C 3 3 rfl rfl dX10_order_82 ?_
                refine j_iload_n (pc := 83) C 1 1 rfl rfl dX10_order_83 ?_
                refine j_icmp_ne (pc := 84) C 89 rfl (by omega) dX10_order_84 (fun h_7p84 => ?_) (fun h_7p84 => ?_)
                · skip
                  refine j_iinc (pc := 89) (lc' := [(2, vI (c + 1)), (0, .ref h), (1, vI i), (3, vI b), (4, vI d)]) C 2 rfl (by decide) rfl dX10_order_89 ?_
                  refine j_goto (pc := 92) C 12 rfl dX10_order_92 ?_
                  refine j_locals (lc' := [(0, .ref h), (1, vI i), (2, vI (c + 1))]) [1, 2, 0] rfl ?_
                  exact ih12 (c + 1) (by omega) (by omega) (fst_step (P := fun c => aheadI (ms_h S) c = i) (by omega) i12_1 (by (try dsimp only); rw [← eb]; assumption))
                · skip
                  refine j_iload_n (pc := 87) C 2 2 rfl rfl dX10_order_87 ?_
                  exact Rt _ _ _ _ _ _ (by decide) (by decide) ⟨by unfold rOrder; rw [if_neg (by omega)]; exact (fst_hit (P := fun c => aheadI (ms_h S) c = i) (by omega) (by omega) i12_1 (by (try dsimp only); rw [← eb]; assumption)).symm, rfl⟩ dX10_order_88
              · skip
                refine j_iload_n (pc := 30) C 3 3 rfl rfl dX10_order_30 ?_
                refine j_aload_n (pc := 31) C 0 0 rfl rfl dX10_order_31 ?_
                refine j_get (pc := 32) C (Or.inr r0) rfl fX10_order_X10 1 (by decide) (List.mem_of_getElem? (i := 1) rfl) (Or.inl rfl) rfl dX10_order_32 ?_
                refine j_iload (pc := 35) C 4 rfl dX10_order_35 ?_
                refine j_iald (pc := 37) C (Or.inr r1) rfl (by omega) (by decide) dX10_order_37 ?_
                have f_8 := hS.1 d (by omega)
                refine j_aload_n (pc := 38) C 0 0 rfl rfl dX10_order_38 ?_
                refine j_get (pc := 39) C (Or.inr r0) rfl fX10_order_X10 1 (by decide) (List.mem_of_getElem? (i := 1) rfl) (Or.inl rfl) rfl dX10_order_39 ?_
                refine j_iload_n (pc := 42) C 2 2 rfl rfl dX10_order_42 ?_
                refine j_iald (pc := 43) C (Or.inr r1) rfl (by omega) (by decide) dX10_order_43 ?_
                have f_9 := hS.1 c (by omega)
                refine j_icmp_gt (pc := 44) C 69 rfl (by omega) dX10_order_44 (fun h_10p44 => ?_) (fun h_10p44 => ?_)
                · skip
                  refine j_iconst (pc := 69) C dX10_order_69 ?_
                  refine j_goto (pc := 70) C 74 rfl dX10_order_70 ?_
                  refine j_iadd (pc := 74) C dX10_order_74 ?_
                  refine j_istore_n (pc := 75) (lc' := [(3, vI (b + 1)), (0, .ref h), (1, vI i), (2, vI c), (4, vI d)]) C 3 rfl (by decide) rfl dX10_order_75 ?_
                  refine j_iinc (pc := 76) (lc' := [(4, vI (d + 1)), (3, vI (b + 1)), (0, .ref h), (1, vI i), (2, vI c)]) C 4 rfl (by decide) rfl dX10_order_76 ?_
                  refine j_goto (pc := 79) C 23 rfl dX10_order_79 ?_
                  refine j_locals (lc' := [(0, .ref h), (1, vI i), (2, vI c), (3, vI (b + 1)), (4, vI (d + 1))]) [2, 3, 4, 1, 0] rfl ?_
                  exact ih23 (b + 1) (d + 1) (by omega) (by omega) ⟨by rw [fo_succ _ (by omega), ← i23_1.1]; unfold aheadF; first | rw [if_pos (by omega)] | (rw [if_neg (by omega)]; omega), by omega⟩
                · skip
                  refine j_aload_n (pc := 47) C 0 0 rfl rfl dX10_order_47 ?_
                  refine j_get (pc := 48) C (Or.inr r0) rfl fX10_order_X10 1 (by decide) (List.mem_of_getElem? (i := 1) rfl) (Or.inl rfl) rfl dX10_order_48 ?_
                  refine j_iload (pc := 51) C 4 rfl dX10_order_51 ?_
                  refine j_iald (pc := 53) C (Or.inr r1) rfl (by omega) (by decide) dX10_order_53 ?_
                  have f_11 := hS.1 d (by omega)
                  refine j_aload_n (pc := 54) C 0 0 rfl rfl dX10_order_54 ?_
                  refine j_get (pc := 55) C (Or.inr r0) rfl fX10_order_X10 1 (by decide) (List.mem_of_getElem? (i := 1) rfl) (Or.inl rfl) rfl dX10_order_55 ?_
                  refine j_iload_n (pc := 58) C 2 2 rfl rfl dX10_order_58 ?_
                  refine j_iald (pc := 59) C (Or.inr r1) rfl (by omega) (by decide) dX10_order_59 ?_
                  have f_12 := hS.1 c (by omega)
                  refine j_icmp_ne (pc := 60) C 73 rfl (by omega) dX10_order_60 (fun h_13p60 => ?_) (fun h_13p60 => ?_)
                  · skip
                    refine j_iconst (pc := 73) C dX10_order_73 ?_
                    refine j_iadd (pc := 74) C dX10_order_74 ?_
                    refine j_istore_n (pc := 75) (lc' := [(3, vI (b + 0)), (0, .ref h), (1, vI i), (2, vI c), (4, vI d)]) C 3 rfl (by decide) rfl dX10_order_75 ?_
                    refine j_iinc (pc := 76) (lc' := [(4, vI (d + 1)), (3, vI (b + 0)), (0, .ref h), (1, vI i), (2, vI c)]) C 4 rfl (by decide) rfl dX10_order_76 ?_
                    refine j_goto (pc := 79) C 23 rfl dX10_order_79 ?_
                    refine j_locals (lc' := [(0, .ref h), (1, vI i), (2, vI c), (3, vI (b + 0)), (4, vI (d + 1))]) [2, 3, 4, 1, 0] rfl ?_
                    exact ih23 (b + 0) (d + 1) (by omega) (by omega) ⟨by rw [fo_succ _ (by omega), ← i23_1.1]; unfold aheadF; first | rw [if_pos (by omega)] | (rw [if_neg (by omega)]; omega), by omega⟩
                  · skip
                    refine j_iload (pc := 63) C 4 rfl dX10_order_63 ?_
                    refine j_iload_n (pc := 65) C 2 2 rfl rfl dX10_order_65 ?_
                    refine j_icmp_ge (pc := 66) C 73 rfl (by omega) dX10_order_66 (fun h_14p66 => ?_) (fun h_14p66 => ?_)
                    · skip
                      refine j_iconst (pc := 73) C dX10_order_73 ?_
                      refine j_iadd (pc := 74) C dX10_order_74 ?_
                      refine j_istore_n (pc := 75) (lc' := [(3, vI (b + 0)), (0, .ref h), (1, vI i), (2, vI c), (4, vI d)]) C 3 rfl (by decide) rfl dX10_order_75 ?_
                      refine j_iinc (pc := 76) (lc' := [(4, vI (d + 1)), (3, vI (b + 0)), (0, .ref h), (1, vI i), (2, vI c)]) C 4 rfl (by decide) rfl dX10_order_76 ?_
                      refine j_goto (pc := 79) C 23 rfl dX10_order_79 ?_
                      refine j_locals (lc' := [(0, .ref h), (1, vI i), (2, vI c), (3, vI (b + 0)), (4, vI (d + 1))]) [2, 3, 4, 1, 0] rfl ?_
                      exact ih23 (b + 0) (d + 1) (by omega) (by omega) ⟨by rw [fo_succ _ (by omega), ← i23_1.1]; unfold aheadF; first | rw [if_pos (by omega)] | (rw [if_neg (by omega)]; omega), by omega⟩
                    · skip
                      refine j_iconst (pc := 69) C dX10_order_69 ?_
                      refine j_goto (pc := 70) C 74 rfl dX10_order_70 ?_
                      refine j_iadd (pc := 74) C dX10_order_74 ?_
                      refine j_istore_n (pc := 75) (lc' := [(3, vI (b + 1)), (0, .ref h), (1, vI i), (2, vI c), (4, vI d)]) C 3 rfl (by decide) rfl dX10_order_75 ?_
                      refine j_iinc (pc := 76) (lc' := [(4, vI (d + 1)), (3, vI (b + 1)), (0, .ref h), (1, vI i), (2, vI c)]) C 4 rfl (by decide) rfl dX10_order_76 ?_
                      refine j_goto (pc := 79) C 23 rfl dX10_order_79 ?_
                      refine j_locals (lc' := [(0, .ref h), (1, vI i), (2, vI c), (3, vI (b + 1)), (4, vI (d + 1))]) [2, 3, 4, 1, 0] rfl ?_
                      exact ih23 (b + 1) (d + 1) (by omega) (by omega) ⟨by rw [fo_succ _ (by omega), ← i23_1.1]; unfold aheadF; first | rw [if_pos (by omega)] | (rw [if_neg (by omega)]; omega), by omega⟩
          refine j_locals (lc' := [(0, .ref h), (1, vI i), (2, vI c), (3, vI 0), (4, vI 0)]) [2, 3, 4, 1, 0] rfl ?_
          exact hL23 _ 0 0 (Nat.lt_succ_self _) (by omega) ⟨rfl, by omega⟩
    refine j_locals (lc' := [(0, .ref h), (1, vI i), (2, vI 0)]) [1, 2, 0] rfl ?_
    exact hL12 _ 0 (Nat.lt_succ_self _) (by omega) rfl
  · skip
    refine j_bipush (pc := 7) (w := (-102)) C rfl dX10_order_7 ?_
    exact Rt _ _ _ _ _ _ (by decide) (by decide) ⟨by unfold rOrder; rw [if_pos (by omega)], rfl⟩ dX10_order_9

theorem fX10_isAlone_X10 : ∀ w ∈ u_ws RX10 TX10 35, w ∈ wsX10_isAlone := j_words [2, 3, 4, 5, 6, 7, 8, 9, 10, 11, 12, 13, 14, 15, 16, 17, 18, 19, 20, 21, 22, 23, 24, 25, 26, 27, 28, 29, 30, 31, 32, 33, 34, 35, 36] (by decide +kernel)
set_option maxHeartbeats 4000000 in
set_option maxRecDepth 100000 in
theorem m_isAlone (l : Launch) (D : va_G) (Y : Nat → ClassId) (RO : va_W) (h : Nat) (r : Nat → Nat) (S : MS) (G : GS) (c : Int) (r0 : (h, oC 9 [.ref (r 0), .ref (r 1), vI (ms_w S), vI (ms_l S), vL (ms_s S), vI (ms_a S), vI (ms_t S), vI (ms_p S), vI (g_np G), .ref (r 9), .ref (r 10), .ref (r 11), .ref (r 12), .ref (r 13), vI (g_nc G), .ref (r 15), .ref (r 16), .ref (r 17), vI (g_pl G), .ref (r 19), vI (g_ik G), vL (g_ks G), .ref (r 22), vL (g_ss G), .ref (r 24), vI (g_fa G), vI (g_iw G), vI (g_nw G), vI (g_ns G), vI (g_ne G), .ref (r 30), .ref (r 31), .ref (r 32), .ref (r 33), vL (g_h G)]) ∈ RO) (r1 : ((r 1), aI (Y 0) 7 (ms_h S)) ∈ RO) (hS : okS S) (hc : 0 ≤ c ∧ c < 7) : jMi l yX10_isAlone wsX10_isAlone { frames := 0, cells := 0, slots := 0, locals := 0 } D Y RO [.ref h, vI c] [] (fun e w1 => e = (if surI (ms_h S) (ms_h S c - 1) c = 0 then 1 else 0) ∧ w1 = []) := by
  refine j_ofz RX10 rfl rfl rfl (Nat.le_of_ble_eq_true rfl) (fun X C Rt => ?_)
  refine j_iconst (pc := 0) C dX10_isAlone_0 ?_
  refine j_istore_n (pc := 1) (lc' := [(2, vI 1), (0, .ref h), (1, vI c)]) C 2 rfl (by decide) rfl dX10_isAlone_1 ?_
  refine j_iconst (pc := 2) C dX10_isAlone_2 ?_
  refine j_istore_n (pc := 3) (lc' := [(3, vI 0), (2, vI 1), (0, .ref h), (1, vI c)]) C 3 rfl (by decide) rfl dX10_isAlone_3 ?_
  have hL4 : ∀ (N4 : Nat) (b : Int) (i : Int), ((7 - i).toNat) < N4 → (0 ≤ i ∧ i ≤ 7) → (0 ≤ b ∧ b ≤ 1) → (0 ≤ fo (surF (ms_h S) (ms_h S c - 1) c) i 0 ∧ (b = 1 ↔ fo (surF (ms_h S) (ms_h S c - 1) c) i 0 = 0)) → jW X 4 0 0 [] [(0, .ref h), (1, vI c), (2, vI b), (3, vI i)] 4 [] := by
    intro N4
    induction N4 with
    | zero => intro b i hm4 i4_0 i4_1 i4_2; omega
    | succ N4 ih4 =>
      intro b i hm4 i4_0 i4_1 i4_2
      refine j_iload_n (pc := 4) C 3 3 rfl rfl dX10_isAlone_4 ?_
      refine j_bipush (pc := 5) (w := 7) C rfl dX10_isAlone_5 ?_
      refine j_icmp_ge (pc := 7) C 46 rfl (by omega) dX10_isAlone_7 (fun h_1p7 => ?_) (fun h_1p7 => ?_)
      · skip
        refine j_iload_n (pc := 46) C 2 2 rfl rfl dX10_isAlone_46 ?_
        exact Rt _ _ _ _ _ _ (by decide) (by decide) (by omega) ⟨by have e7 : i = 7 := (by omega); subst e7; unfold surI; split <;> omega, rfl⟩ dX10_isAlone_47
      · skip
        refine j_iload_n (pc := 10) C 2 2 rfl rfl dX10_isAlone_10 ?_
        refine j_if_eq (pc := 11) C 38 rfl (by omega) dX10_isAlone_11 (fun h_2p11 => ?_) (fun h_2p11 => ?_)
        · skip
          refine j_iconst (pc := 38) C dX10_isAlone_38 ?_
          refine j_istore_n (pc := 39) (lc' := [(2, vI 0), (0, .ref h), (1, vI c), (3, vI i)]) C 2 rfl (by decide) rfl dX10_isAlone_39 ?_
          refine j_iinc (pc := 40) (lc' := [(3, vI (i + 1)), (2, vI 0), (0, .ref h), (1, vI c)]) C 3 rfl (by decide) rfl dX10_isAlone_40 ?_
          refine j_goto (pc := 43) C 4 rfl dX10_isAlone_43 ?_
          refine j_locals (lc' := [(0, .ref h), (1, vI c), (2, vI 0), (3, vI (i + 1))]) [2, 3, 1, 0] rfl ?_
          have as := alone_step (h := ms_h S) (c := c) (i := i) (by omega) i4_2.1
          exact ih4 0 (i + 1) (by omega) (by omega) (by omega) (by omega)
        · skip
          refine j_iload_n (pc := 14) C 3 3 rfl rfl dX10_isAlone_14 ?_
          refine j_iload_n (pc := 15) C 1 1 rfl rfl dX10_isAlone_15 ?_
          refine j_icmp_eq (pc := 16) C 34 rfl (by omega) dX10_isAlone_16 (fun h_3p16 => ?_) (fun h_3p16 => ?_)
          · skip
            refine j_iconst (pc := 34) C dX10_isAlone_34 ?_
            refine j_goto (pc := 35) C 39 rfl dX10_isAlone_35 ?_
            refine j_istore_n (pc := 39) (lc' := [(2, vI 1), (0, .ref h), (1, vI c), (3, vI i)]) C 2 rfl (by decide) rfl dX10_isAlone_39 ?_
            refine j_iinc (pc := 40) (lc' := [(3, vI (i + 1)), (2, vI 1), (0, .ref h), (1, vI c)]) C 3 rfl (by decide) rfl dX10_isAlone_40 ?_
            refine j_goto (pc := 43) C 4 rfl dX10_isAlone_43 ?_
            refine j_locals (lc' := [(0, .ref h), (1, vI c), (2, vI 1), (3, vI (i + 1))]) [2, 3, 1, 0] rfl ?_
            have as := alone_step (h := ms_h S) (c := c) (i := i) (by omega) i4_2.1
            exact ih4 1 (i + 1) (by omega) (by omega) (by omega) (by omega)
          · skip
            refine j_aload_n (pc := 19) C 0 0 rfl rfl dX10_isAlone_19 ?_
            refine j_get (pc := 20) C (Or.inr r0) rfl fX10_isAlone_X10 1 (by decide) (List.mem_of_getElem? (i := 1) rfl) (Or.inl rfl) rfl dX10_isAlone_20 ?_
            refine j_iload_n (pc := 23) C 3 3 rfl rfl dX10_isAlone_23 ?_
            refine j_iald (pc := 24) C (Or.inr r1) rfl (by omega) (by decide) dX10_isAlone_24 ?_
            have f_4 := hS.1 i (by omega)
            refine j_aload_n (pc := 25) C 0 0 rfl rfl dX10_isAlone_25 ?_
            refine j_get (pc := 26) C (Or.inr r0) rfl fX10_isAlone_X10 1 (by decide) (List.mem_of_getElem? (i := 1) rfl) (Or.inl rfl) rfl dX10_isAlone_26 ?_
            refine j_iload_n (pc := 29) C 1 1 rfl rfl dX10_isAlone_29 ?_
            refine j_iald (pc := 30) C (Or.inr r1) rfl (by omega) (by decide) dX10_isAlone_30 ?_
            have f_5 := hS.1 c (by omega)
            refine j_icmp_ge (pc := 31) C 38 rfl (by omega) dX10_isAlone_31 (fun h_6p31 => ?_) (fun h_6p31 => ?_)
            · skip
              refine j_iconst (pc := 38) C dX10_isAlone_38 ?_
              refine j_istore_n (pc := 39) (lc' := [(2, vI 0), (0, .ref h), (1, vI c), (3, vI i)]) C 2 rfl (by decide) rfl dX10_isAlone_39 ?_
              refine j_iinc (pc := 40) (lc' := [(3, vI (i + 1)), (2, vI 0), (0, .ref h), (1, vI c)]) C 3 rfl (by decide) rfl dX10_isAlone_40 ?_
              refine j_goto (pc := 43) C 4 rfl dX10_isAlone_43 ?_
              refine j_locals (lc' := [(0, .ref h), (1, vI c), (2, vI 0), (3, vI (i + 1))]) [2, 3, 1, 0] rfl ?_
              have as := alone_step (h := ms_h S) (c := c) (i := i) (by omega) i4_2.1
              exact ih4 0 (i + 1) (by omega) (by omega) (by omega) (by omega)
            · skip
              refine j_iconst (pc := 34) C dX10_isAlone_34 ?_
              refine j_goto (pc := 35) C 39 rfl dX10_isAlone_35 ?_
              refine j_istore_n (pc := 39) (lc' := [(2, vI 1), (0, .ref h), (1, vI c), (3, vI i)]) C 2 rfl (by decide) rfl dX10_isAlone_39 ?_
              refine j_iinc (pc := 40) (lc' := [(3, vI (i + 1)), (2, vI 1), (0, .ref h), (1, vI c)]) C 3 rfl (by decide) rfl dX10_isAlone_40 ?_
              refine j_goto (pc := 43) C 4 rfl dX10_isAlone_43 ?_
              refine j_locals (lc' := [(0, .ref h), (1, vI c), (2, vI 1), (3, vI (i + 1))]) [2, 3, 1, 0] rfl ?_
              have as := alone_step (h := ms_h S) (c := c) (i := i) (by omega) i4_2.1
              exact ih4 1 (i + 1) (by omega) (by omega) (by omega) (by omega)
  refine j_locals (lc' := [(0, .ref h), (1, vI c), (2, vI 1), (3, vI 0)]) [2, 3, 1, 0] rfl ?_
  exact hL4 _ 1 0 (Nat.lt_succ_self _) (by omega) (by omega) ⟨Int.le_refl _, by simp [fo_zero]⟩

set_option maxHeartbeats 4000000 in
set_option maxRecDepth 100000 in
theorem m_shows (l : Launch) (D : va_G) (Y : Nat → ClassId) (RO : va_W) (h : Nat) (r : Nat → Nat) (S : MS) (G : GS) (cs : Int → CT) (ps : Int → PT) (v : Int → Int) (cu : Int) (c : Int) (n : Int) (k0 : ((r 9), aI (Y 0) 6 (kof ps)) ∈ RO) (k1 : ((r 10), aI (Y 0) 6 (nof ps)) ∈ RO) (k2 : ((r 11), aI (Y 0) 6 (wof ps)) ∈ RO) (k3 : ((r 12), aI (Y 0) 6 (iof ps)) ∈ RO) (k4 : ((r 13), aI (Y 0) 6 (zof ps)) ∈ RO) (q0 : ((r 15), aI (Y 0) 4 (cwof cs)) ∈ RO) (q1 : ((r 16), aI (Y 0) 4 (czof cs)) ∈ RO) (q2 : ((r 17), aI (Y 0) 4 (ceof cs)) ∈ RO) (hS : okS S) (hw : ms_w S ≤ 9999) (hnp : 0 ≤ g_np G ∧ g_np G ≤ 6) (hps : ∀ i, 0 ≤ i ∧ i < g_np G → okP (ps i)) (hnc : 0 ≤ g_nc G ∧ g_nc G ≤ 4) (hcs : ∀ i, 0 ≤ i ∧ i < g_nc G → okC (cs i)) (hcu : -2147483648 ≤ cu ∧ cu ≤ 2147483647) (hc : -2147483648 ≤ c ∧ c ≤ 2147483647) (hn : -2147483648 ≤ n ∧ n ≤ 2147483647) : jMi l yX10_shows wsX10_shows { frames := 4, cells := 0, slots := 0, locals := 91 } D Y RO [.ref h, vI cu, vI c, vI n] [(h, oC 9 [.ref (r 0), .ref (r 1), vI (ms_w S), vI (ms_l S), vL (ms_s S), vI (ms_a S), vI (ms_t S), vI (ms_p S), vI (g_np G), .ref (r 9), .ref (r 10), .ref (r 11), .ref (r 12), .ref (r 13), vI (g_nc G), .ref (r 15), .ref (r 16), .ref (r 17), vI (g_pl G), .ref (r 19), vI (g_ik G), vL (g_ks G), .ref (r 22), vL (g_ss G), .ref (r 24), vI (g_fa G), vI (g_iw G), vI (g_nw G), vI (g_ns G), vI (g_ne G), .ref (r 30), .ref (r 31), .ref (r 32), .ref (r 33), vL (g_h G)]), ((r 1), aI (Y 0) 7 (ms_h S)), ((r 0), aI (Y 0) 420 (ms_m S)), ((r 24), aI (Y 0) 432 v)] (fun e w1 => e = rShows cu c n (g_nc G) cs (g_np G) ps S ∧ ∃ (G1 : GS) (v1 : Int → Int), gEq G G1 ∧ w1 = [(h, oC 9 [.ref (r 0), .ref (r 1), vI (ms_w S), vI (ms_l S), vL (ms_s S), vI (ms_a S), vI (ms_t S), vI (ms_p S), vI (g_np G1), .ref (r 9), .ref (r 10), .ref (r 11), .ref (r 12), .ref (r 13), vI (g_nc G1), .ref (r 15), .ref (r 16), .ref (r 17), vI (g_pl G1), .ref (r 19), vI (g_ik G1), vL (g_ks G1), .ref (r 22), vL (g_ss G1), .ref (r 24), vI (g_fa G1), vI (g_iw G1), vI (g_nw G1), vI (g_ns G1), vI (g_ne G1), .ref (r 30), .ref (r 31), .ref (r 32), .ref (r 33), vL (g_h G1)]), ((r 1), aI (Y 0) 7 (ms_h S)), ((r 0), aI (Y 0) 420 (ms_m S)), ((r 24), aI (Y 0) 432 v1)]) := by
  refine j_ofi RX10 rfl rfl rfl (Nat.le_of_ble_eq_true rfl) (fun X C Rt => ?_)
  refine j_aload_n (pc := 0) C 0 0 rfl rfl dX10_shows_0 ?_
  refine j_iload_n (pc := 1) C 1 1 rfl rfl dX10_shows_1 ?_
  refine j_callVi (pc := 2) (As := [vI cu]) (na := 1) (st := []) C [] [0, 1, 2, 3] (wr := [(h, oC 9 [.ref (r 0), .ref (r 1), vI (ms_w S), vI (ms_l S), vL (ms_s S), vI (ms_a S), vI (ms_t S), vI (ms_p S), vI (g_np G), .ref (r 9), .ref (r 10), .ref (r 11), .ref (r 12), .ref (r 13), vI (g_nc G), .ref (r 15), .ref (r 16), .ref (r 17), vI (g_pl G), .ref (r 19), vI (g_ik G), vL (g_ks G), .ref (r 22), vL (g_ss G), .ref (r 24), vI (g_fa G), vI (g_iw G), vI (g_nw G), vI (g_ns G), vI (g_ne G), .ref (r 30), .ref (r 31), .ref (r 32), .ref (r 33), vL (g_h G)]), ((r 1), aI (Y 0) 7 (ms_h S)), ((r 0), aI (Y 0) 420 (ms_m S)), ((r 24), aI (Y 0) 432 v)]) (fun l => m_isCustom l D Y _ h r S G cu (List.mem_append_left _ (List.mem_of_getElem? (i := 0) rfl)) (by first | assumption | omega) (by first | assumption | omega)) rfl rfl rfl rfl (by decide) rfl (Or.inr (List.mem_append_left _ (List.mem_of_getElem? (i := 0) rfl))) rfl gX10_shows_X10_isCustom ⟨rfl, by decide +kernel⟩ (by decide) rfl rfl (Nat.le_of_ble_eq_true rfl) (by decide) dX10_shows_2 (fun e_1 w_2 h_3 => ?_)
  obtain ⟨rfl, rfl⟩ := h_3
  refine j_perm (ws' := [(h, oC 9 [.ref (r 0), .ref (r 1), vI (ms_w S), vI (ms_l S), vL (ms_s S), vI (ms_a S), vI (ms_t S), vI (ms_p S), vI (g_np G), .ref (r 9), .ref (r 10), .ref (r 11), .ref (r 12), .ref (r 13), vI (g_nc G), .ref (r 15), .ref (r 16), .ref (r 17), vI (g_pl G), .ref (r 19), vI (g_ik G), vL (g_ks G), .ref (r 22), vL (g_ss G), .ref (r 24), vI (g_fa G), vI (g_iw G), vI (g_nw G), vI (g_ns G), vI (g_ne G), .ref (r 30), .ref (r 31), .ref (r 32), .ref (r 33), vL (g_h G)]), ((r 1), aI (Y 0) 7 (ms_h S)), ((r 0), aI (Y 0) 420 (ms_m S)), ((r 24), aI (Y 0) 432 v)]) [0, 1, 2, 3] rfl rfl ?_
  refine j_if_eqb (pc := 5) C 15 rfl dX10_shows_5 (fun h_4p5 => ?_) (fun h_4p5 => ?_)
  · skip
    refine j_bipush (pc := 15) (w := (-101)) C rfl dX10_shows_15 ?_
    exact Rt _ _ _ _ _ _ (by decide) (by decide) ⟨by unfold rShows; rw [if_pos (by omega)], _, _, gEq.rf G, rfl⟩ dX10_shows_17
  · skip
    refine j_iload_n (pc := 8) C 2 2 rfl rfl dX10_shows_8 ?_
    refine j_callSi (pc := 9) (As := [vI c]) (na := 1) (st := []) C [] [0, 1, 2, 3] (wr := [(h, oC 9 [.ref (r 0), .ref (r 1), vI (ms_w S), vI (ms_l S), vL (ms_s S), vI (ms_a S), vI (ms_t S), vI (ms_p S), vI (g_np G), .ref (r 9), .ref (r 10), .ref (r 11), .ref (r 12), .ref (r 13), vI (g_nc G), .ref (r 15), .ref (r 16), .ref (r 17), vI (g_pl G), .ref (r 19), vI (g_ik G), vL (g_ks G), .ref (r 22), vL (g_ss G), .ref (r 24), vI (g_fa G), vI (g_iw G), vI (g_nw G), vI (g_ns G), vI (g_ne G), .ref (r 30), .ref (r 31), .ref (r 32), .ref (r 33), vL (g_h G)]), ((r 1), aI (Y 0) 7 (ms_h S)), ((r 0), aI (Y 0) 420 (ms_m S)), ((r 24), aI (Y 0) 432 v)]) (fun l => m_isCairn l D Y _ c (by first | assumption | omega)) rfl rfl rfl rfl (by decide) rfl gX10_shows_X10_isCairn (by decide +kernel) (by decide) rfl rfl (Nat.le_of_ble_eq_true rfl) (by decide) dX10_shows_9 (fun e_5 w_6 h_7 => ?_)
    obtain ⟨rfl, rfl⟩ := h_7
    refine j_perm (ws' := [(h, oC 9 [.ref (r 0), .ref (r 1), vI (ms_w S), vI (ms_l S), vL (ms_s S), vI (ms_a S), vI (ms_t S), vI (ms_p S), vI (g_np G), .ref (r 9), .ref (r 10), .ref (r 11), .ref (r 12), .ref (r 13), vI (g_nc G), .ref (r 15), .ref (r 16), .ref (r 17), vI (g_pl G), .ref (r 19), vI (g_ik G), vL (g_ks G), .ref (r 22), vL (g_ss G), .ref (r 24), vI (g_fa G), vI (g_iw G), vI (g_nw G), vI (g_ns G), vI (g_ne G), .ref (r 30), .ref (r 31), .ref (r 32), .ref (r 33), vL (g_h G)]), ((r 1), aI (Y 0) 7 (ms_h S)), ((r 0), aI (Y 0) 420 (ms_m S)), ((r 24), aI (Y 0) 432 v)]) [0, 1, 2, 3] rfl rfl ?_
    refine j_if_neb (pc := 12) C 18 rfl dX10_shows_12 (fun h_8p12 => ?_) (fun h_8p12 => ?_)
    · skip
      refine j_iload_n (pc := 18) C 3 3 rfl rfl dX10_shows_18 ?_
      refine j_iconst (pc := 19) C dX10_shows_19 ?_
      refine j_bipush (pc := 20) (w := 60) C rfl dX10_shows_20 ?_
      refine j_callSi (pc := 22) (As := [vI n, vI 0, vI 60]) (na := 3) (st := []) C [] [0, 1, 2, 3] (wr := [(h, oC 9 [.ref (r 0), .ref (r 1), vI (ms_w S), vI (ms_l S), vL (ms_s S), vI (ms_a S), vI (ms_t S), vI (ms_p S), vI (g_np G), .ref (r 9), .ref (r 10), .ref (r 11), .ref (r 12), .ref (r 13), vI (g_nc G), .ref (r 15), .ref (r 16), .ref (r 17), vI (g_pl G), .ref (r 19), vI (g_ik G), vL (g_ks G), .ref (r 22), vL (g_ss G), .ref (r 24), vI (g_fa G), vI (g_iw G), vI (g_nw G), vI (g_ns G), vI (g_ne G), .ref (r 30), .ref (r 31), .ref (r 32), .ref (r 33), vL (g_h G)]), ((r 1), aI (Y 0) 7 (ms_h S)), ((r 0), aI (Y 0) 420 (ms_m S)), ((r 24), aI (Y 0) 432 v)]) (fun l => m_within l D Y _ n 0 60 (by first | assumption | omega) (by first | assumption | omega) (by first | assumption | omega)) rfl rfl rfl rfl (by decide) rfl gX10_shows_X10_within (by decide +kernel) (by decide) rfl rfl (Nat.le_of_ble_eq_true rfl) (by decide) dX10_shows_22 (fun e_9 w_10 h_11 => ?_)
      obtain ⟨rfl, rfl⟩ := h_11
      refine j_perm (ws' := [(h, oC 9 [.ref (r 0), .ref (r 1), vI (ms_w S), vI (ms_l S), vL (ms_s S), vI (ms_a S), vI (ms_t S), vI (ms_p S), vI (g_np G), .ref (r 9), .ref (r 10), .ref (r 11), .ref (r 12), .ref (r 13), vI (g_nc G), .ref (r 15), .ref (r 16), .ref (r 17), vI (g_pl G), .ref (r 19), vI (g_ik G), vL (g_ks G), .ref (r 22), vL (g_ss G), .ref (r 24), vI (g_fa G), vI (g_iw G), vI (g_nw G), vI (g_ns G), vI (g_ne G), .ref (r 30), .ref (r 31), .ref (r 32), .ref (r 33), vL (g_h G)]), ((r 1), aI (Y 0) 7 (ms_h S)), ((r 0), aI (Y 0) 420 (ms_m S)), ((r 24), aI (Y 0) 432 v)]) [0, 1, 2, 3] rfl rfl ?_
      refine j_if_neb (pc := 25) C 31 rfl dX10_shows_25 (fun h_12p25 => ?_) (fun h_12p25 => ?_)
      · skip
        refine j_aload_n (pc := 31) C 0 0 rfl rfl dX10_shows_31 ?_
        refine j_callVv (pc := 32) (As := []) (na := 0) (st := []) C [0, 3] [1, 2] (wr := [((r 1), aI (Y 0) 7 (ms_h S)), ((r 0), aI (Y 0) 420 (ms_m S))]) (fun l => m_save l D Y _ h r S G v (List.mem_append_left _ (List.mem_of_getElem? (i := 0) rfl)) (List.mem_append_left _ (List.mem_of_getElem? (i := 1) rfl)) ) rfl rfl rfl rfl (by decide) rfl (Or.inl (List.mem_of_getElem? (i := 0) rfl)) rfl gX10_shows_X10_save ⟨rfl, by decide +kernel⟩ (by decide) rfl rfl (Nat.le_of_ble_eq_true rfl) (by decide) dX10_shows_32 (fun w_14 h_15 => ?_)
        subst h_15
        refine j_perm (ws' := [(h, oC 9 [.ref (r 0), .ref (r 1), vI (ms_w S), vI (ms_l S), vL (ms_s S), vI (ms_a S), vI (ms_t S), vI (ms_p S), vI (g_np (gSS G (ms_s S))), .ref (r 9), .ref (r 10), .ref (r 11), .ref (r 12), .ref (r 13), vI (g_nc (gSS G (ms_s S))), .ref (r 15), .ref (r 16), .ref (r 17), vI (g_pl (gSS G (ms_s S))), .ref (r 19), vI (g_ik (gSS G (ms_s S))), vL (g_ks (gSS G (ms_s S))), .ref (r 22), vL (g_ss (gSS G (ms_s S))), .ref (r 24), vI (g_fa (gSS G (ms_s S))), vI (g_iw (gSS G (ms_s S))), vI (g_nw (gSS G (ms_s S))), vI (g_ns (gSS G (ms_s S))), vI (g_ne (gSS G (ms_s S))), .ref (r 30), .ref (r 31), .ref (r 32), .ref (r 33), vL (g_h (gSS G (ms_s S)))]), ((r 1), aI (Y 0) 7 (ms_h S)), ((r 0), aI (Y 0) 420 (ms_m S)), ((r 24), aI (Y 0) 432 (packS S))]) [2, 0, 1, 3] rfl rfl ?_
        refine j_aload_n (pc := 35) C 0 0 rfl rfl dX10_shows_35 ?_
        refine j_iload_n (pc := 36) C 2 2 rfl rfl dX10_shows_36 ?_
        refine j_iload_n (pc := 37) C 3 3 rfl rfl dX10_shows_37 ?_
        refine j_callVv (pc := 38) (As := [vI c, vI n]) (na := 2) (st := []) C [0, 1, 2] [3] (wr := [((r 24), aI (Y 0) 432 (packS S))]) (fun l => m_layAll l D Y _ h r S (gSS G (ms_s S)) c n hS (by first | assumption | omega) (by first | assumption | omega)) rfl rfl rfl rfl (by decide) rfl (Or.inl (List.mem_of_getElem? (i := 0) rfl)) rfl gX10_shows_X10_layAll ⟨rfl, by decide +kernel⟩ (by decide) rfl rfl (Nat.le_of_ble_eq_true rfl) (by decide) dX10_shows_38 (fun w_17 h_18 => ?_)
        subst h_18
        refine j_perm (ws' := [(h, oC 9 [.ref (r 0), .ref (r 1), vI (ms_w (layS c n S)), vI (ms_l (layS c n S)), vL (ms_s (layS c n S)), vI (ms_a (layS c n S)), vI (ms_t (layS c n S)), vI (ms_p (layS c n S)), vI (g_np (gSS G (ms_s S))), .ref (r 9), .ref (r 10), .ref (r 11), .ref (r 12), .ref (r 13), vI (g_nc (gSS G (ms_s S))), .ref (r 15), .ref (r 16), .ref (r 17), vI (g_pl (gSS G (ms_s S))), .ref (r 19), vI (g_ik (gSS G (ms_s S))), vL (g_ks (gSS G (ms_s S))), .ref (r 22), vL (g_ss (gSS G (ms_s S))), .ref (r 24), vI (g_fa (gSS G (ms_s S))), vI (g_iw (gSS G (ms_s S))), vI (g_nw (gSS G (ms_s S))), vI (g_ns (gSS G (ms_s S))), vI (g_ne (gSS G (ms_s S))), .ref (r 30), .ref (r 31), .ref (r 32), .ref (r 33), vL (g_h (gSS G (ms_s S)))]), ((r 1), aI (Y 0) 7 (ms_h (layS c n S))), ((r 0), aI (Y 0) 420 (ms_m (layS c n S))), ((r 24), aI (Y 0) 432 (packS S))]) [1, 2, 3, 0] rfl rfl ?_
        refine j_iconst (pc := 41) C dX10_shows_41 ?_
        refine j_istore (pc := 42) (lc' := [(4, vI 0), (0, .ref h), (1, vI cu), (2, vI c), (3, vI n)]) C (by decide) rfl dX10_shows_42 ?_
        have hL44 : ∀ (N44 : Nat) (i : Int) (T : MS), ((61 - i).toNat) < N44 → (0 ≤ i ∧ i ≤ 61) → (T = weeksS (cs cu) ps (g_np G) i (layS c n S)) → (okS T ∧ ms_w T = ms_w S + i) → (fstI (fun b => ¬ surI (ms_h (weeksS (cs cu) ps (g_np G) b (layS c n S))) (ms_h (weeksS (cs cu) ps (g_np G) b (layS c n S)) c - 1) c = 0) i = -1) → jW X 5 0 0 [(h, oC 9 [.ref (r 0), .ref (r 1), vI (ms_w T), vI (ms_l T), vL (ms_s T), vI (ms_a T), vI (ms_t T), vI (ms_p T), vI (g_np (gSS G (ms_s S))), .ref (r 9), .ref (r 10), .ref (r 11), .ref (r 12), .ref (r 13), vI (g_nc (gSS G (ms_s S))), .ref (r 15), .ref (r 16), .ref (r 17), vI (g_pl (gSS G (ms_s S))), .ref (r 19), vI (g_ik (gSS G (ms_s S))), vL (g_ks (gSS G (ms_s S))), .ref (r 22), vL (g_ss (gSS G (ms_s S))), .ref (r 24), vI (g_fa (gSS G (ms_s S))), vI (g_iw (gSS G (ms_s S))), vI (g_nw (gSS G (ms_s S))), vI (g_ns (gSS G (ms_s S))), vI (g_ne (gSS G (ms_s S))), .ref (r 30), .ref (r 31), .ref (r 32), .ref (r 33), vL (g_h (gSS G (ms_s S)))]), ((r 1), aI (Y 0) 7 (ms_h T)), ((r 0), aI (Y 0) 420 (ms_m T)), ((r 24), aI (Y 0) 432 (packS S))] [(0, .ref h), (1, vI cu), (2, vI c), (3, vI n), (4, vI i)] 44 [] := by
          intro N44
          induction N44 with
          | zero => intro i T hm44 i44_0 i44_1 i44_2 i44_3; omega
          | succ N44 ih44 =>
            intro i T hm44 i44_0 i44_1 i44_2 i44_3
            refine j_iload (pc := 44) C 4 rfl dX10_shows_44 ?_
            refine j_bipush (pc := 46) (w := 60) C rfl dX10_shows_46 ?_
            refine j_icmp_gt (pc := 48) C 70 rfl (by omega) dX10_shows_48 (fun h_19p48 => ?_) (fun h_19p48 => ?_)
            · skip
              refine j_aload_n (pc := 70) C 0 0 rfl rfl dX10_shows_70 ?_
              refine j_callVv (pc := 71) (As := []) (na := 0) (st := []) C [0, 1, 2] [3] (wr := [((r 24), aI (Y 0) 432 (packS S))]) (fun l => m_back l D Y _ h r S T (gSS G (ms_s S)) (List.mem_append_left _ (List.mem_of_getElem? (i := 0) rfl)) rfl) rfl rfl rfl rfl (by decide) rfl (Or.inl (List.mem_of_getElem? (i := 0) rfl)) rfl gX10_shows_X10_back ⟨rfl, by decide +kernel⟩ (by decide) rfl rfl (Nat.le_of_ble_eq_true rfl) (by decide) dX10_shows_71 (fun w_21 h_22 => ?_)
              subst h_22
              refine j_perm (ws' := [(h, oC 9 [.ref (r 0), .ref (r 1), vI (ms_w S), vI (ms_l S), vL (ms_s S), vI (ms_a S), vI (ms_t S), vI (ms_p S), vI (g_np (gSS G (ms_s S))), .ref (r 9), .ref (r 10), .ref (r 11), .ref (r 12), .ref (r 13), vI (g_nc (gSS G (ms_s S))), .ref (r 15), .ref (r 16), .ref (r 17), vI (g_pl (gSS G (ms_s S))), .ref (r 19), vI (g_ik (gSS G (ms_s S))), vL (g_ks (gSS G (ms_s S))), .ref (r 22), vL (g_ss (gSS G (ms_s S))), .ref (r 24), vI (g_fa (gSS G (ms_s S))), vI (g_iw (gSS G (ms_s S))), vI (g_nw (gSS G (ms_s S))), vI (g_ns (gSS G (ms_s S))), vI (g_ne (gSS G (ms_s S))), .ref (r 30), .ref (r 31), .ref (r 32), .ref (r 33), vL (g_h (gSS G (ms_s S)))]), ((r 1), aI (Y 0) 7 (ms_h S)), ((r 0), aI (Y 0) 420 (ms_m S)), ((r 24), aI (Y 0) 432 (packS S))]) [1, 2, 3, 0] rfl rfl ?_
              refine j_iload (pc := 74) C 4 rfl dX10_shows_74 ?_
              refine j_bipush (pc := 76) (w := 60) C rfl dX10_shows_76 ?_
              refine j_icmp_le (pc := 78) C 85 rfl (by omega) dX10_shows_78 (fun h_23p78 => ?_) (fun h_23p78 => ?_)
              · skip
                refine j_iload (pc := 85) C 4 rfl dX10_shows_85 ?_
                exact Rt _ _ _ _ _ _ (by decide) (by decide) ⟨by unfold rShows; rw [if_neg (by omega), if_neg (by omega)]; first | (exfalso; omega) | (have e61 : i = 61 := (by omega); subst e61; exact i44_3.symm) | exact (fst_hit (P := (fun b => ¬ surI (ms_h (weeksS (cs cu) ps (g_np G) b (layS c n S))) (ms_h (weeksS (cs cu) ps (g_np G) b (layS c n S)) c - 1) c = 0)) (by omega) (by omega) i44_3 (by (try dsimp only); rw [← i44_1]; assumption)).symm, _, _, gEq.ss _ _, rfl⟩ dX10_shows_87
              · skip
                refine j_iconst (pc := 81) C dX10_shows_81 ?_
                refine j_goto (pc := 82) C 87 rfl dX10_shows_82 ?_
                exact Rt _ _ _ _ _ _ (by decide) (by decide) ⟨by unfold rShows; rw [if_neg (by omega), if_neg (by omega)]; first | (exfalso; omega) | (have e61 : i = 61 := (by omega); subst e61; exact i44_3.symm) | exact (fst_hit (P := (fun b => ¬ surI (ms_h (weeksS (cs cu) ps (g_np G) b (layS c n S))) (ms_h (weeksS (cs cu) ps (g_np G) b (layS c n S)) c - 1) c = 0)) (by omega) (by omega) i44_3 (by (try dsimp only); rw [← i44_1]; assumption)).symm, _, _, gEq.ss _ _, rfl⟩ dX10_shows_87
            · skip
              refine j_aload_n (pc := 51) C 0 0 rfl rfl dX10_shows_51 ?_
              refine j_iload_n (pc := 52) C 2 2 rfl rfl dX10_shows_52 ?_
              refine j_callVi (pc := 53) (As := [vI c]) (na := 1) (st := []) C [] [0, 1, 2, 3] (wr := [(h, oC 9 [.ref (r 0), .ref (r 1), vI (ms_w T), vI (ms_l T), vL (ms_s T), vI (ms_a T), vI (ms_t T), vI (ms_p T), vI (g_np (gSS G (ms_s S))), .ref (r 9), .ref (r 10), .ref (r 11), .ref (r 12), .ref (r 13), vI (g_nc (gSS G (ms_s S))), .ref (r 15), .ref (r 16), .ref (r 17), vI (g_pl (gSS G (ms_s S))), .ref (r 19), vI (g_ik (gSS G (ms_s S))), vL (g_ks (gSS G (ms_s S))), .ref (r 22), vL (g_ss (gSS G (ms_s S))), .ref (r 24), vI (g_fa (gSS G (ms_s S))), vI (g_iw (gSS G (ms_s S))), vI (g_nw (gSS G (ms_s S))), vI (g_ns (gSS G (ms_s S))), vI (g_ne (gSS G (ms_s S))), .ref (r 30), .ref (r 31), .ref (r 32), .ref (r 33), vL (g_h (gSS G (ms_s S)))]), ((r 1), aI (Y 0) 7 (ms_h T)), ((r 0), aI (Y 0) 420 (ms_m T)), ((r 24), aI (Y 0) 432 (packS S))]) (fun l => m_isAlone l D Y _ h r T (gSS G (ms_s S)) c (List.mem_append_left _ (List.mem_of_getElem? (i := 0) rfl)) (List.mem_append_left _ (List.mem_of_getElem? (i := 1) rfl)) i44_2.1 (by first | assumption | omega)) rfl rfl rfl rfl (by decide) rfl (Or.inr (List.mem_append_left _ (List.mem_of_getElem? (i := 0) rfl))) rfl gX10_shows_X10_isAlone ⟨rfl, by decide +kernel⟩ (by decide) rfl rfl (Nat.le_of_ble_eq_true rfl) (by decide) dX10_shows_53 (fun e_24 w_25 h_26 => ?_)
              obtain ⟨rfl, rfl⟩ := h_26
              refine j_perm (ws' := [(h, oC 9 [.ref (r 0), .ref (r 1), vI (ms_w T), vI (ms_l T), vL (ms_s T), vI (ms_a T), vI (ms_t T), vI (ms_p T), vI (g_np (gSS G (ms_s S))), .ref (r 9), .ref (r 10), .ref (r 11), .ref (r 12), .ref (r 13), vI (g_nc (gSS G (ms_s S))), .ref (r 15), .ref (r 16), .ref (r 17), vI (g_pl (gSS G (ms_s S))), .ref (r 19), vI (g_ik (gSS G (ms_s S))), vL (g_ks (gSS G (ms_s S))), .ref (r 22), vL (g_ss (gSS G (ms_s S))), .ref (r 24), vI (g_fa (gSS G (ms_s S))), vI (g_iw (gSS G (ms_s S))), vI (g_nw (gSS G (ms_s S))), vI (g_ns (gSS G (ms_s S))), vI (g_ne (gSS G (ms_s S))), .ref (r 30), .ref (r 31), .ref (r 32), .ref (r 33), vL (g_h (gSS G (ms_s S)))]), ((r 1), aI (Y 0) 7 (ms_h T)), ((r 0), aI (Y 0) 420 (ms_m T)), ((r 24), aI (Y 0) 432 (packS S))]) [0, 1, 2, 3] rfl rfl ?_
              refine j_if_eqb (pc := 56) C 70 rfl dX10_shows_56 (fun h_27p56 => ?_) (fun h_27p56 => ?_)
              · skip
                refine j_aload_n (pc := 70) C 0 0 rfl rfl dX10_shows_70 ?_
                refine j_callVv (pc := 71) (As := []) (na := 0) (st := []) C [0, 1, 2] [3] (wr := [((r 24), aI (Y 0) 432 (packS S))]) (fun l => m_back l D Y _ h r S T (gSS G (ms_s S)) (List.mem_append_left _ (List.mem_of_getElem? (i := 0) rfl)) rfl) rfl rfl rfl rfl (by decide) rfl (Or.inl (List.mem_of_getElem? (i := 0) rfl)) rfl gX10_shows_X10_back ⟨rfl, by decide +kernel⟩ (by decide) rfl rfl (Nat.le_of_ble_eq_true rfl) (by decide) dX10_shows_71 (fun w_29 h_30 => ?_)
                subst h_30
                refine j_perm (ws' := [(h, oC 9 [.ref (r 0), .ref (r 1), vI (ms_w S), vI (ms_l S), vL (ms_s S), vI (ms_a S), vI (ms_t S), vI (ms_p S), vI (g_np (gSS G (ms_s S))), .ref (r 9), .ref (r 10), .ref (r 11), .ref (r 12), .ref (r 13), vI (g_nc (gSS G (ms_s S))), .ref (r 15), .ref (r 16), .ref (r 17), vI (g_pl (gSS G (ms_s S))), .ref (r 19), vI (g_ik (gSS G (ms_s S))), vL (g_ks (gSS G (ms_s S))), .ref (r 22), vL (g_ss (gSS G (ms_s S))), .ref (r 24), vI (g_fa (gSS G (ms_s S))), vI (g_iw (gSS G (ms_s S))), vI (g_nw (gSS G (ms_s S))), vI (g_ns (gSS G (ms_s S))), vI (g_ne (gSS G (ms_s S))), .ref (r 30), .ref (r 31), .ref (r 32), .ref (r 33), vL (g_h (gSS G (ms_s S)))]), ((r 1), aI (Y 0) 7 (ms_h S)), ((r 0), aI (Y 0) 420 (ms_m S)), ((r 24), aI (Y 0) 432 (packS S))]) [1, 2, 3, 0] rfl rfl ?_
                refine j_iload (pc := 74) C 4 rfl dX10_shows_74 ?_
                refine j_bipush (pc := 76) (w := 60) C rfl dX10_shows_76 ?_
                refine j_icmp_le (pc := 78) C 85 rfl (by omega) dX10_shows_78 (fun h_31p78 => ?_) (fun h_31p78 => ?_)
                · skip
                  refine j_iload (pc := 85) C 4 rfl dX10_shows_85 ?_
                  exact Rt _ _ _ _ _ _ (by decide) (by decide) ⟨by unfold rShows; rw [if_neg (by omega), if_neg (by omega)]; first | (exfalso; omega) | (have e61 : i = 61 := (by omega); subst e61; exact i44_3.symm) | exact (fst_hit (P := (fun b => ¬ surI (ms_h (weeksS (cs cu) ps (g_np G) b (layS c n S))) (ms_h (weeksS (cs cu) ps (g_np G) b (layS c n S)) c - 1) c = 0)) (by omega) (by omega) i44_3 (by (try dsimp only); rw [← i44_1]; assumption)).symm, _, _, gEq.ss _ _, rfl⟩ dX10_shows_87
                · skip
                  refine j_iconst (pc := 81) C dX10_shows_81 ?_
                  refine j_goto (pc := 82) C 87 rfl dX10_shows_82 ?_
                  exact Rt _ _ _ _ _ _ (by decide) (by decide) ⟨by unfold rShows; rw [if_neg (by omega), if_neg (by omega)]; first | (exfalso; omega) | (have e61 : i = 61 := (by omega); subst e61; exact i44_3.symm) | exact (fst_hit (P := (fun b => ¬ surI (ms_h (weeksS (cs cu) ps (g_np G) b (layS c n S))) (ms_h (weeksS (cs cu) ps (g_np G) b (layS c n S)) c - 1) c = 0)) (by omega) (by omega) i44_3 (by (try dsimp only); rw [← i44_1]; assumption)).symm, _, _, gEq.ss _ _, rfl⟩ dX10_shows_87
              · skip
                refine j_aload_n (pc := 59) C 0 0 rfl rfl dX10_shows_59 ?_
                refine j_iload_n (pc := 60) C 1 1 rfl rfl dX10_shows_60 ?_
                refine j_callVv (pc := 61) (As := [vI cu]) (na := 1) (st := []) C [0, 1, 2] [3] (wr := [((r 24), aI (Y 0) 432 (packS S))]) (fun l => m_goWeek l D Y _ h r T (gSS G (ms_s S)) cs ps cu (List.mem_append_right _ k0) (List.mem_append_right _ k1) (List.mem_append_right _ k2) (List.mem_append_right _ k3) (List.mem_append_right _ k4) (List.mem_append_right _ q0) (List.mem_append_right _ q1) (List.mem_append_right _ q2) i44_2.1 (by omega) (hcs cu (by omega)) hnp hps (by omega)) rfl rfl rfl rfl (by decide) rfl (Or.inl (List.mem_of_getElem? (i := 0) rfl)) rfl gX10_shows_X10_goWeek ⟨rfl, by decide +kernel⟩ (by decide) rfl rfl (Nat.le_of_ble_eq_true rfl) (by decide) dX10_shows_61 (fun w_33 h_34 => ?_)
                subst h_34
                refine j_perm (ws' := [(h, oC 9 [.ref (r 0), .ref (r 1), vI (ms_w (goS (cs cu) ps (g_np (gSS G (ms_s S))) T)), vI (ms_l (goS (cs cu) ps (g_np (gSS G (ms_s S))) T)), vL (ms_s (goS (cs cu) ps (g_np (gSS G (ms_s S))) T)), vI (ms_a (goS (cs cu) ps (g_np (gSS G (ms_s S))) T)), vI (ms_t (goS (cs cu) ps (g_np (gSS G (ms_s S))) T)), vI (ms_p (goS (cs cu) ps (g_np (gSS G (ms_s S))) T)), vI (g_np (gSS G (ms_s S))), .ref (r 9), .ref (r 10), .ref (r 11), .ref (r 12), .ref (r 13), vI (g_nc (gSS G (ms_s S))), .ref (r 15), .ref (r 16), .ref (r 17), vI (g_pl (gSS G (ms_s S))), .ref (r 19), vI (g_ik (gSS G (ms_s S))), vL (g_ks (gSS G (ms_s S))), .ref (r 22), vL (g_ss (gSS G (ms_s S))), .ref (r 24), vI (g_fa (gSS G (ms_s S))), vI (g_iw (gSS G (ms_s S))), vI (g_nw (gSS G (ms_s S))), vI (g_ns (gSS G (ms_s S))), vI (g_ne (gSS G (ms_s S))), .ref (r 30), .ref (r 31), .ref (r 32), .ref (r 33), vL (g_h (gSS G (ms_s S)))]), ((r 1), aI (Y 0) 7 (ms_h (goS (cs cu) ps (g_np (gSS G (ms_s S))) T))), ((r 0), aI (Y 0) 420 (ms_m (goS (cs cu) ps (g_np (gSS G (ms_s S))) T))), ((r 24), aI (Y 0) 432 (packS S))]) [1, 2, 3, 0] rfl rfl ?_
                refine j_iinc (pc := 64) (lc' := [(4, vI (i + 1)), (0, .ref h), (1, vI cu), (2, vI c), (3, vI n)]) C 4 rfl (by decide) rfl dX10_shows_64 ?_
                refine j_goto (pc := 67) C 44 rfl dX10_shows_67 ?_
                refine j_locals (lc' := [(0, .ref h), (1, vI cu), (2, vI c), (3, vI n), (4, vI (i + 1))]) [1, 2, 3, 4, 0] rfl ?_
                exact ih44 (i + 1) (goS (cs cu) ps (g_np (gSS G (ms_s S))) T) (by omega) (by omega) (by rw [i44_1]; exact (weeksS_succ (by omega)).symm) (by have := okS_go i44_2.1 (hcs cu (by omega)) hps hnp; exact ⟨this.1, show ms_w (goS (cs cu) ps (g_np G) T) = ms_w S + (i + 1) from by rw [this.2, i44_2.2]; omega⟩) (fst_step (P := (fun b => ¬ surI (ms_h (weeksS (cs cu) ps (g_np G) b (layS c n S))) (ms_h (weeksS (cs cu) ps (g_np G) b (layS c n S)) c - 1) c = 0)) (by omega) i44_3 (by (try dsimp only); rw [← i44_1]; exact not_not_intro (by assumption)))
        refine j_locals (lc' := [(0, .ref h), (1, vI cu), (2, vI c), (3, vI n), (4, vI 0)]) [1, 2, 3, 4, 0] rfl ?_
        exact hL44 _ 0 (layS c n S) (Nat.lt_succ_self _) (by omega) rfl ⟨okS_lay hS (by omega) (by omega), by rw [layS_w hS (by omega) (by omega)]; omega⟩ rfl
      · skip
        refine j_bipush (pc := 28) (w := (-102)) C rfl dX10_shows_28 ?_
        exact Rt _ _ _ _ _ _ (by decide) (by decide) ⟨by unfold rShows; rw [if_neg (by omega), if_pos (by omega)], _, _, gEq.rf G, rfl⟩ dX10_shows_30
    · skip
      refine j_bipush (pc := 15) (w := (-101)) C rfl dX10_shows_15 ?_
      exact Rt _ _ _ _ _ _ (by decide) (by decide) ⟨by unfold rShows; rw [if_pos (by omega)], _, _, gEq.rf G, rfl⟩ dX10_shows_17

theorem fX10_gone_X10 : ∀ w ∈ u_ws RX10 TX10 35, w ∈ wsX10_gone := j_words [93, 94, 95, 96, 97, 98, 99, 100, 101, 102, 103, 104, 105, 106, 107, 108, 109, 110, 111, 112, 113, 114, 115, 116, 117, 118, 119, 120, 121, 122, 123, 124, 125, 126, 127] (by decide +kernel)
set_option maxHeartbeats 4000000 in
set_option maxRecDepth 100000 in
theorem m_gone (l : Launch) (D : va_G) (Y : Nat → ClassId) (RO : va_W) (h : Nat) (r : Nat → Nat) (S : MS) (G : GS) (cs : Int → CT) (ps : Int → PT) (v : Int → Int) (cu : Int) (c : Int) (k0 : ((r 9), aI (Y 0) 6 (kof ps)) ∈ RO) (k1 : ((r 10), aI (Y 0) 6 (nof ps)) ∈ RO) (k2 : ((r 11), aI (Y 0) 6 (wof ps)) ∈ RO) (k3 : ((r 12), aI (Y 0) 6 (iof ps)) ∈ RO) (k4 : ((r 13), aI (Y 0) 6 (zof ps)) ∈ RO) (q0 : ((r 15), aI (Y 0) 4 (cwof cs)) ∈ RO) (q1 : ((r 16), aI (Y 0) 4 (czof cs)) ∈ RO) (q2 : ((r 17), aI (Y 0) 4 (ceof cs)) ∈ RO) (hS : okS S) (hw : ms_w S ≤ 9999) (hnp : 0 ≤ g_np G ∧ g_np G ≤ 6) (hps : ∀ i, 0 ≤ i ∧ i < g_np G → okP (ps i)) (hnc : 0 ≤ g_nc G ∧ g_nc G ≤ 4) (hcs : ∀ i, 0 ≤ i ∧ i < g_nc G → okC (cs i)) (hcu : -2147483648 ≤ cu ∧ cu ≤ 2147483647) (hc : -2147483648 ≤ c ∧ c ≤ 2147483647) : jMi l yX10_gone wsX10_gone { frames := 4, cells := 0, slots := 0, locals := 91 } D Y RO [.ref h, vI cu, vI c] [(h, oC 9 [.ref (r 0), .ref (r 1), vI (ms_w S), vI (ms_l S), vL (ms_s S), vI (ms_a S), vI (ms_t S), vI (ms_p S), vI (g_np G), .ref (r 9), .ref (r 10), .ref (r 11), .ref (r 12), .ref (r 13), vI (g_nc G), .ref (r 15), .ref (r 16), .ref (r 17), vI (g_pl G), .ref (r 19), vI (g_ik G), vL (g_ks G), .ref (r 22), vL (g_ss G), .ref (r 24), vI (g_fa G), vI (g_iw G), vI (g_nw G), vI (g_ns G), vI (g_ne G), .ref (r 30), .ref (r 31), .ref (r 32), .ref (r 33), vL (g_h G)]), ((r 1), aI (Y 0) 7 (ms_h S)), ((r 0), aI (Y 0) 420 (ms_m S)), ((r 24), aI (Y 0) 432 v)] (fun e w1 => e = rGone cu c (g_nc G) cs (g_np G) ps S ∧ ∃ (G1 : GS) (v1 : Int → Int), gEq G G1 ∧ w1 = [(h, oC 9 [.ref (r 0), .ref (r 1), vI (ms_w S), vI (ms_l S), vL (ms_s S), vI (ms_a S), vI (ms_t S), vI (ms_p S), vI (g_np G1), .ref (r 9), .ref (r 10), .ref (r 11), .ref (r 12), .ref (r 13), vI (g_nc G1), .ref (r 15), .ref (r 16), .ref (r 17), vI (g_pl G1), .ref (r 19), vI (g_ik G1), vL (g_ks G1), .ref (r 22), vL (g_ss G1), .ref (r 24), vI (g_fa G1), vI (g_iw G1), vI (g_nw G1), vI (g_ns G1), vI (g_ne G1), .ref (r 30), .ref (r 31), .ref (r 32), .ref (r 33), vL (g_h G1)]), ((r 1), aI (Y 0) 7 (ms_h S)), ((r 0), aI (Y 0) 420 (ms_m S)), ((r 24), aI (Y 0) 432 v1)]) := by
  refine j_ofi RX10 rfl rfl rfl (Nat.le_of_ble_eq_true rfl) (fun X C Rt => ?_)
  refine j_aload_n (pc := 0) C 0 0 rfl rfl dX10_gone_0 ?_
  refine j_iload_n (pc := 1) C 1 1 rfl rfl dX10_gone_1 ?_
  refine j_callVi (pc := 2) (As := [vI cu]) (na := 1) (st := []) C [] [0, 1, 2, 3] (wr := [(h, oC 9 [.ref (r 0), .ref (r 1), vI (ms_w S), vI (ms_l S), vL (ms_s S), vI (ms_a S), vI (ms_t S), vI (ms_p S), vI (g_np G), .ref (r 9), .ref (r 10), .ref (r 11), .ref (r 12), .ref (r 13), vI (g_nc G), .ref (r 15), .ref (r 16), .ref (r 17), vI (g_pl G), .ref (r 19), vI (g_ik G), vL (g_ks G), .ref (r 22), vL (g_ss G), .ref (r 24), vI (g_fa G), vI (g_iw G), vI (g_nw G), vI (g_ns G), vI (g_ne G), .ref (r 30), .ref (r 31), .ref (r 32), .ref (r 33), vL (g_h G)]), ((r 1), aI (Y 0) 7 (ms_h S)), ((r 0), aI (Y 0) 420 (ms_m S)), ((r 24), aI (Y 0) 432 v)]) (fun l => m_isCustom l D Y _ h r S G cu (List.mem_append_left _ (List.mem_of_getElem? (i := 0) rfl)) (by first | assumption | omega) (by first | assumption | omega)) rfl rfl rfl rfl (by decide) rfl (Or.inr (List.mem_append_left _ (List.mem_of_getElem? (i := 0) rfl))) rfl gX10_gone_X10_isCustom ⟨rfl, by decide +kernel⟩ (by decide) rfl rfl (Nat.le_of_ble_eq_true rfl) (by decide) dX10_gone_2 (fun e_1 w_2 h_3 => ?_)
  obtain ⟨rfl, rfl⟩ := h_3
  refine j_perm (ws' := [(h, oC 9 [.ref (r 0), .ref (r 1), vI (ms_w S), vI (ms_l S), vL (ms_s S), vI (ms_a S), vI (ms_t S), vI (ms_p S), vI (g_np G), .ref (r 9), .ref (r 10), .ref (r 11), .ref (r 12), .ref (r 13), vI (g_nc G), .ref (r 15), .ref (r 16), .ref (r 17), vI (g_pl G), .ref (r 19), vI (g_ik G), vL (g_ks G), .ref (r 22), vL (g_ss G), .ref (r 24), vI (g_fa G), vI (g_iw G), vI (g_nw G), vI (g_ns G), vI (g_ne G), .ref (r 30), .ref (r 31), .ref (r 32), .ref (r 33), vL (g_h G)]), ((r 1), aI (Y 0) 7 (ms_h S)), ((r 0), aI (Y 0) 420 (ms_m S)), ((r 24), aI (Y 0) 432 v)]) [0, 1, 2, 3] rfl rfl ?_
  refine j_if_eqb (pc := 5) C 15 rfl dX10_gone_5 (fun h_4p5 => ?_) (fun h_4p5 => ?_)
  · skip
    refine j_bipush (pc := 15) (w := (-101)) C rfl dX10_gone_15 ?_
    exact Rt _ _ _ _ _ _ (by decide) (by decide) ⟨by unfold rGone; rw [if_pos (by omega)], _, _, gEq.rf G, rfl⟩ dX10_gone_17
  · skip
    refine j_iload_n (pc := 8) C 2 2 rfl rfl dX10_gone_8 ?_
    refine j_callSi (pc := 9) (As := [vI c]) (na := 1) (st := []) C [] [0, 1, 2, 3] (wr := [(h, oC 9 [.ref (r 0), .ref (r 1), vI (ms_w S), vI (ms_l S), vL (ms_s S), vI (ms_a S), vI (ms_t S), vI (ms_p S), vI (g_np G), .ref (r 9), .ref (r 10), .ref (r 11), .ref (r 12), .ref (r 13), vI (g_nc G), .ref (r 15), .ref (r 16), .ref (r 17), vI (g_pl G), .ref (r 19), vI (g_ik G), vL (g_ks G), .ref (r 22), vL (g_ss G), .ref (r 24), vI (g_fa G), vI (g_iw G), vI (g_nw G), vI (g_ns G), vI (g_ne G), .ref (r 30), .ref (r 31), .ref (r 32), .ref (r 33), vL (g_h G)]), ((r 1), aI (Y 0) 7 (ms_h S)), ((r 0), aI (Y 0) 420 (ms_m S)), ((r 24), aI (Y 0) 432 v)]) (fun l => m_isCairn l D Y _ c (by first | assumption | omega)) rfl rfl rfl rfl (by decide) rfl gX10_gone_X10_isCairn (by decide +kernel) (by decide) rfl rfl (Nat.le_of_ble_eq_true rfl) (by decide) dX10_gone_9 (fun e_5 w_6 h_7 => ?_)
    obtain ⟨rfl, rfl⟩ := h_7
    refine j_perm (ws' := [(h, oC 9 [.ref (r 0), .ref (r 1), vI (ms_w S), vI (ms_l S), vL (ms_s S), vI (ms_a S), vI (ms_t S), vI (ms_p S), vI (g_np G), .ref (r 9), .ref (r 10), .ref (r 11), .ref (r 12), .ref (r 13), vI (g_nc G), .ref (r 15), .ref (r 16), .ref (r 17), vI (g_pl G), .ref (r 19), vI (g_ik G), vL (g_ks G), .ref (r 22), vL (g_ss G), .ref (r 24), vI (g_fa G), vI (g_iw G), vI (g_nw G), vI (g_ns G), vI (g_ne G), .ref (r 30), .ref (r 31), .ref (r 32), .ref (r 33), vL (g_h G)]), ((r 1), aI (Y 0) 7 (ms_h S)), ((r 0), aI (Y 0) 420 (ms_m S)), ((r 24), aI (Y 0) 432 v)]) [0, 1, 2, 3] rfl rfl ?_
    refine j_if_neb (pc := 12) C 18 rfl dX10_gone_12 (fun h_8p12 => ?_) (fun h_8p12 => ?_)
    · skip
      refine j_aload_n (pc := 18) C 0 0 rfl rfl dX10_gone_18 ?_
      refine j_callVv (pc := 19) (As := []) (na := 0) (st := []) C [0, 3] [1, 2] (wr := [((r 1), aI (Y 0) 7 (ms_h S)), ((r 0), aI (Y 0) 420 (ms_m S))]) (fun l => m_save l D Y _ h r S G v (List.mem_append_left _ (List.mem_of_getElem? (i := 0) rfl)) (List.mem_append_left _ (List.mem_of_getElem? (i := 1) rfl)) ) rfl rfl rfl rfl (by decide) rfl (Or.inl (List.mem_of_getElem? (i := 0) rfl)) rfl gX10_gone_X10_save ⟨rfl, by decide +kernel⟩ (by decide) rfl rfl (Nat.le_of_ble_eq_true rfl) (by decide) dX10_gone_19 (fun w_10 h_11 => ?_)
      subst h_11
      refine j_perm (ws' := [(h, oC 9 [.ref (r 0), .ref (r 1), vI (ms_w S), vI (ms_l S), vL (ms_s S), vI (ms_a S), vI (ms_t S), vI (ms_p S), vI (g_np (gSS G (ms_s S))), .ref (r 9), .ref (r 10), .ref (r 11), .ref (r 12), .ref (r 13), vI (g_nc (gSS G (ms_s S))), .ref (r 15), .ref (r 16), .ref (r 17), vI (g_pl (gSS G (ms_s S))), .ref (r 19), vI (g_ik (gSS G (ms_s S))), vL (g_ks (gSS G (ms_s S))), .ref (r 22), vL (g_ss (gSS G (ms_s S))), .ref (r 24), vI (g_fa (gSS G (ms_s S))), vI (g_iw (gSS G (ms_s S))), vI (g_nw (gSS G (ms_s S))), vI (g_ns (gSS G (ms_s S))), vI (g_ne (gSS G (ms_s S))), .ref (r 30), .ref (r 31), .ref (r 32), .ref (r 33), vL (g_h (gSS G (ms_s S)))]), ((r 1), aI (Y 0) 7 (ms_h S)), ((r 0), aI (Y 0) 420 (ms_m S)), ((r 24), aI (Y 0) 432 (packS S))]) [2, 0, 1, 3] rfl rfl ?_
      refine j_iconst (pc := 22) C dX10_gone_22 ?_
      refine j_istore_n (pc := 23) (lc' := [(3, vI 0), (0, .ref h), (1, vI cu), (2, vI c)]) C 3 rfl (by decide) rfl dX10_gone_23 ?_
      have hL24 : ∀ (N24 : Nat) (i : Int) (T : MS), ((61 - i).toNat) < N24 → (0 ≤ i ∧ i ≤ 61) → (T = weeksS (cs cu) ps (g_np G) i S) → (okS T ∧ ms_w T = ms_w S + i) → (fstI (fun b => ms_h (weeksS (cs cu) ps (g_np G) b S) c = 0) i = -1) → jW X 4 0 0 [(h, oC 9 [.ref (r 0), .ref (r 1), vI (ms_w T), vI (ms_l T), vL (ms_s T), vI (ms_a T), vI (ms_t T), vI (ms_p T), vI (g_np (gSS G (ms_s S))), .ref (r 9), .ref (r 10), .ref (r 11), .ref (r 12), .ref (r 13), vI (g_nc (gSS G (ms_s S))), .ref (r 15), .ref (r 16), .ref (r 17), vI (g_pl (gSS G (ms_s S))), .ref (r 19), vI (g_ik (gSS G (ms_s S))), vL (g_ks (gSS G (ms_s S))), .ref (r 22), vL (g_ss (gSS G (ms_s S))), .ref (r 24), vI (g_fa (gSS G (ms_s S))), vI (g_iw (gSS G (ms_s S))), vI (g_nw (gSS G (ms_s S))), vI (g_ns (gSS G (ms_s S))), vI (g_ne (gSS G (ms_s S))), .ref (r 30), .ref (r 31), .ref (r 32), .ref (r 33), vL (g_h (gSS G (ms_s S)))]), ((r 1), aI (Y 0) 7 (ms_h T)), ((r 0), aI (Y 0) 420 (ms_m T)), ((r 24), aI (Y 0) 432 (packS S))] [(0, .ref h), (1, vI cu), (2, vI c), (3, vI i)] 24 [] := by
        intro N24
        induction N24 with
        | zero => intro i T hm24 i24_0 i24_1 i24_2 i24_3; omega
        | succ N24 ih24 =>
          intro i T hm24 i24_0 i24_1 i24_2 i24_3
          refine j_iload_n (pc := 24) C 3 3 rfl rfl dX10_gone_24 ?_
          refine j_bipush (pc := 25) (w := 60) C rfl dX10_gone_25 ?_
          refine j_icmp_gt (pc := 27) C 50 rfl (by omega) dX10_gone_27 (fun h_12p27 => ?_) (fun h_12p27 => ?_)
          · skip
            refine j_aload_n (pc := 50) C 0 0 rfl rfl dX10_gone_50 ?_
            refine j_callVv (pc := 51) (As := []) (na := 0) (st := []) C [0, 1, 2] [3] (wr := [((r 24), aI (Y 0) 432 (packS S))]) (fun l => m_back l D Y _ h r S T (gSS G (ms_s S)) (List.mem_append_left _ (List.mem_of_getElem? (i := 0) rfl)) rfl) rfl rfl rfl rfl (by decide) rfl (Or.inl (List.mem_of_getElem? (i := 0) rfl)) rfl gX10_gone_X10_back ⟨rfl, by decide +kernel⟩ (by decide) rfl rfl (Nat.le_of_ble_eq_true rfl) (by decide) dX10_gone_51 (fun w_14 h_15 => ?_)
            subst h_15
            refine j_perm (ws' := [(h, oC 9 [.ref (r 0), .ref (r 1), vI (ms_w S), vI (ms_l S), vL (ms_s S), vI (ms_a S), vI (ms_t S), vI (ms_p S), vI (g_np (gSS G (ms_s S))), .ref (r 9), .ref (r 10), .ref (r 11), .ref (r 12), .ref (r 13), vI (g_nc (gSS G (ms_s S))), .ref (r 15), .ref (r 16), .ref (r 17), vI (g_pl (gSS G (ms_s S))), .ref (r 19), vI (g_ik (gSS G (ms_s S))), vL (g_ks (gSS G (ms_s S))), .ref (r 22), vL (g_ss (gSS G (ms_s S))), .ref (r 24), vI (g_fa (gSS G (ms_s S))), vI (g_iw (gSS G (ms_s S))), vI (g_nw (gSS G (ms_s S))), vI (g_ns (gSS G (ms_s S))), vI (g_ne (gSS G (ms_s S))), .ref (r 30), .ref (r 31), .ref (r 32), .ref (r 33), vL (g_h (gSS G (ms_s S)))]), ((r 1), aI (Y 0) 7 (ms_h S)), ((r 0), aI (Y 0) 420 (ms_m S)), ((r 24), aI (Y 0) 432 (packS S))]) [1, 2, 3, 0] rfl rfl ?_
            refine j_iload_n (pc := 54) C 3 3 rfl rfl dX10_gone_54 ?_
            refine j_bipush (pc := 55) (w := 60) C rfl dX10_gone_55 ?_
            refine j_icmp_le (pc := 57) C 64 rfl (by omega) dX10_gone_57 (fun h_16p57 => ?_) (fun h_16p57 => ?_)
            · skip
              refine j_iload_n (pc := 64) C 3 3 rfl rfl dX10_gone_64 ?_
              exact Rt _ _ _ _ _ _ (by decide) (by decide) ⟨by unfold rGone; rw [if_neg (by omega)]; first | (exfalso; omega) | (have e61 : i = 61 := (by omega); subst e61; exact i24_3.symm) | exact (fst_hit (P := (fun b => ms_h (weeksS (cs cu) ps (g_np G) b S) c = 0)) (by omega) (by omega) i24_3 (by (try dsimp only); rw [← i24_1]; omega)).symm, _, _, gEq.ss _ _, rfl⟩ dX10_gone_65
            · skip
              refine j_iconst (pc := 60) C dX10_gone_60 ?_
              refine j_goto (pc := 61) C 65 rfl dX10_gone_61 ?_
              exact Rt _ _ _ _ _ _ (by decide) (by decide) ⟨by unfold rGone; rw [if_neg (by omega)]; first | (exfalso; omega) | (have e61 : i = 61 := (by omega); subst e61; exact i24_3.symm) | exact (fst_hit (P := (fun b => ms_h (weeksS (cs cu) ps (g_np G) b S) c = 0)) (by omega) (by omega) i24_3 (by (try dsimp only); rw [← i24_1]; omega)).symm, _, _, gEq.ss _ _, rfl⟩ dX10_gone_65
          · skip
            refine j_aload_n (pc := 30) C 0 0 rfl rfl dX10_gone_30 ?_
            refine j_get (pc := 31) C (Or.inl (List.mem_of_getElem? (i := 0) rfl)) rfl fX10_gone_X10 1 (by decide) (List.mem_of_getElem? (i := 1) rfl) (Or.inl rfl) rfl dX10_gone_31 ?_
            refine j_iload_n (pc := 34) C 2 2 rfl rfl dX10_gone_34 ?_
            refine j_iald (pc := 35) C (Or.inl (List.mem_of_getElem? (i := 1) rfl)) rfl (by omega) (by decide) dX10_gone_35 ?_
            have f_17 := i24_2.1.1 c (by omega)
            refine j_if_le (pc := 36) C 50 rfl (by omega) dX10_gone_36 (fun h_18p36 => ?_) (fun h_18p36 => ?_)
            · skip
              refine j_aload_n (pc := 50) C 0 0 rfl rfl dX10_gone_50 ?_
              refine j_callVv (pc := 51) (As := []) (na := 0) (st := []) C [0, 1, 2] [3] (wr := [((r 24), aI (Y 0) 432 (packS S))]) (fun l => m_back l D Y _ h r S T (gSS G (ms_s S)) (List.mem_append_left _ (List.mem_of_getElem? (i := 0) rfl)) rfl) rfl rfl rfl rfl (by decide) rfl (Or.inl (List.mem_of_getElem? (i := 0) rfl)) rfl gX10_gone_X10_back ⟨rfl, by decide +kernel⟩ (by decide) rfl rfl (Nat.le_of_ble_eq_true rfl) (by decide) dX10_gone_51 (fun w_20 h_21 => ?_)
              subst h_21
              refine j_perm (ws' := [(h, oC 9 [.ref (r 0), .ref (r 1), vI (ms_w S), vI (ms_l S), vL (ms_s S), vI (ms_a S), vI (ms_t S), vI (ms_p S), vI (g_np (gSS G (ms_s S))), .ref (r 9), .ref (r 10), .ref (r 11), .ref (r 12), .ref (r 13), vI (g_nc (gSS G (ms_s S))), .ref (r 15), .ref (r 16), .ref (r 17), vI (g_pl (gSS G (ms_s S))), .ref (r 19), vI (g_ik (gSS G (ms_s S))), vL (g_ks (gSS G (ms_s S))), .ref (r 22), vL (g_ss (gSS G (ms_s S))), .ref (r 24), vI (g_fa (gSS G (ms_s S))), vI (g_iw (gSS G (ms_s S))), vI (g_nw (gSS G (ms_s S))), vI (g_ns (gSS G (ms_s S))), vI (g_ne (gSS G (ms_s S))), .ref (r 30), .ref (r 31), .ref (r 32), .ref (r 33), vL (g_h (gSS G (ms_s S)))]), ((r 1), aI (Y 0) 7 (ms_h S)), ((r 0), aI (Y 0) 420 (ms_m S)), ((r 24), aI (Y 0) 432 (packS S))]) [1, 2, 3, 0] rfl rfl ?_
              refine j_iload_n (pc := 54) C 3 3 rfl rfl dX10_gone_54 ?_
              refine j_bipush (pc := 55) (w := 60) C rfl dX10_gone_55 ?_
              refine j_icmp_le (pc := 57) C 64 rfl (by omega) dX10_gone_57 (fun h_22p57 => ?_) (fun h_22p57 => ?_)
              · skip
                refine j_iload_n (pc := 64) C 3 3 rfl rfl dX10_gone_64 ?_
                exact Rt _ _ _ _ _ _ (by decide) (by decide) ⟨by unfold rGone; rw [if_neg (by omega)]; first | (exfalso; omega) | (have e61 : i = 61 := (by omega); subst e61; exact i24_3.symm) | exact (fst_hit (P := (fun b => ms_h (weeksS (cs cu) ps (g_np G) b S) c = 0)) (by omega) (by omega) i24_3 (by (try dsimp only); rw [← i24_1]; omega)).symm, _, _, gEq.ss _ _, rfl⟩ dX10_gone_65
              · skip
                refine j_iconst (pc := 60) C dX10_gone_60 ?_
                refine j_goto (pc := 61) C 65 rfl dX10_gone_61 ?_
                exact Rt _ _ _ _ _ _ (by decide) (by decide) ⟨by unfold rGone; rw [if_neg (by omega)]; first | (exfalso; omega) | (have e61 : i = 61 := (by omega); subst e61; exact i24_3.symm) | exact (fst_hit (P := (fun b => ms_h (weeksS (cs cu) ps (g_np G) b S) c = 0)) (by omega) (by omega) i24_3 (by (try dsimp only); rw [← i24_1]; omega)).symm, _, _, gEq.ss _ _, rfl⟩ dX10_gone_65
            · skip
              refine j_aload_n (pc := 39) C 0 0 rfl rfl dX10_gone_39 ?_
              refine j_iload_n (pc := 40) C 1 1 rfl rfl dX10_gone_40 ?_
              refine j_callVv (pc := 41) (As := [vI cu]) (na := 1) (st := []) C [0, 1, 2] [3] (wr := [((r 24), aI (Y 0) 432 (packS S))]) (fun l => m_goWeek l D Y _ h r T (gSS G (ms_s S)) cs ps cu (List.mem_append_right _ k0) (List.mem_append_right _ k1) (List.mem_append_right _ k2) (List.mem_append_right _ k3) (List.mem_append_right _ k4) (List.mem_append_right _ q0) (List.mem_append_right _ q1) (List.mem_append_right _ q2) i24_2.1 (by omega) (hcs cu (by omega)) hnp hps (by omega)) rfl rfl rfl rfl (by decide) rfl (Or.inl (List.mem_of_getElem? (i := 0) rfl)) rfl gX10_gone_X10_goWeek ⟨rfl, by decide +kernel⟩ (by decide) rfl rfl (Nat.le_of_ble_eq_true rfl) (by decide) dX10_gone_41 (fun w_24 h_25 => ?_)
              subst h_25
              refine j_perm (ws' := [(h, oC 9 [.ref (r 0), .ref (r 1), vI (ms_w (goS (cs cu) ps (g_np (gSS G (ms_s S))) T)), vI (ms_l (goS (cs cu) ps (g_np (gSS G (ms_s S))) T)), vL (ms_s (goS (cs cu) ps (g_np (gSS G (ms_s S))) T)), vI (ms_a (goS (cs cu) ps (g_np (gSS G (ms_s S))) T)), vI (ms_t (goS (cs cu) ps (g_np (gSS G (ms_s S))) T)), vI (ms_p (goS (cs cu) ps (g_np (gSS G (ms_s S))) T)), vI (g_np (gSS G (ms_s S))), .ref (r 9), .ref (r 10), .ref (r 11), .ref (r 12), .ref (r 13), vI (g_nc (gSS G (ms_s S))), .ref (r 15), .ref (r 16), .ref (r 17), vI (g_pl (gSS G (ms_s S))), .ref (r 19), vI (g_ik (gSS G (ms_s S))), vL (g_ks (gSS G (ms_s S))), .ref (r 22), vL (g_ss (gSS G (ms_s S))), .ref (r 24), vI (g_fa (gSS G (ms_s S))), vI (g_iw (gSS G (ms_s S))), vI (g_nw (gSS G (ms_s S))), vI (g_ns (gSS G (ms_s S))), vI (g_ne (gSS G (ms_s S))), .ref (r 30), .ref (r 31), .ref (r 32), .ref (r 33), vL (g_h (gSS G (ms_s S)))]), ((r 1), aI (Y 0) 7 (ms_h (goS (cs cu) ps (g_np (gSS G (ms_s S))) T))), ((r 0), aI (Y 0) 420 (ms_m (goS (cs cu) ps (g_np (gSS G (ms_s S))) T))), ((r 24), aI (Y 0) 432 (packS S))]) [1, 2, 3, 0] rfl rfl ?_
              refine j_iinc (pc := 44) (lc' := [(3, vI (i + 1)), (0, .ref h), (1, vI cu), (2, vI c)]) C 3 rfl (by decide) rfl dX10_gone_44 ?_
              refine j_goto (pc := 47) C 24 rfl dX10_gone_47 ?_
              refine j_locals (lc' := [(0, .ref h), (1, vI cu), (2, vI c), (3, vI (i + 1))]) [1, 2, 3, 0] rfl ?_
              exact ih24 (i + 1) (goS (cs cu) ps (g_np (gSS G (ms_s S))) T) (by omega) (by omega) (by rw [i24_1]; exact (weeksS_succ (by omega)).symm) (by have := okS_go i24_2.1 (hcs cu (by omega)) hps hnp; exact ⟨this.1, show ms_w (goS (cs cu) ps (g_np G) T) = ms_w S + (i + 1) from by rw [this.2, i24_2.2]; omega⟩) (fst_step (P := (fun b => ms_h (weeksS (cs cu) ps (g_np G) b S) c = 0)) (by omega) i24_3 (by (try dsimp only); rw [← i24_1]; omega))
      refine j_locals (lc' := [(0, .ref h), (1, vI cu), (2, vI c), (3, vI 0)]) [1, 2, 3, 0] rfl ?_
      exact hL24 _ 0 S (Nat.lt_succ_self _) (by omega) rfl ⟨hS, by omega⟩ rfl
    · skip
      refine j_bipush (pc := 15) (w := (-101)) C rfl dX10_gone_15 ?_
      exact Rt _ _ _ _ _ _ (by decide) (by decide) ⟨by unfold rGone; rw [if_pos (by omega)], _, _, gEq.rf G, rfl⟩ dX10_gone_17

theorem fX10_saves_X10 : ∀ w ∈ u_ws RX10 TX10 35, w ∈ wsX10_saves := j_words [82, 83, 84, 85, 86, 87, 88, 89, 90, 91, 92, 93, 94, 95, 96, 97, 98, 99, 100, 101, 102, 103, 104, 105, 106, 107, 108, 109, 110, 111, 112, 113, 114, 115, 116] (by decide +kernel)
set_option maxHeartbeats 4000000 in
set_option maxRecDepth 100000 in
theorem m_saves (l : Launch) (D : va_G) (Y : Nat → ClassId) (RO : va_W) (h : Nat) (r : Nat → Nat) (S : MS) (G : GS) (cs : Int → CT) (ps : Int → PT) (v : Int → Int) (cu : Int) (c : Int) (n : Int) (m : Int) (k0 : ((r 9), aI (Y 0) 6 (kof ps)) ∈ RO) (k1 : ((r 10), aI (Y 0) 6 (nof ps)) ∈ RO) (k2 : ((r 11), aI (Y 0) 6 (wof ps)) ∈ RO) (k3 : ((r 12), aI (Y 0) 6 (iof ps)) ∈ RO) (k4 : ((r 13), aI (Y 0) 6 (zof ps)) ∈ RO) (q0 : ((r 15), aI (Y 0) 4 (cwof cs)) ∈ RO) (q1 : ((r 16), aI (Y 0) 4 (czof cs)) ∈ RO) (q2 : ((r 17), aI (Y 0) 4 (ceof cs)) ∈ RO) (hS : okS S) (hw : ms_w S ≤ 9999) (hnp : 0 ≤ g_np G ∧ g_np G ≤ 6) (hps : ∀ i, 0 ≤ i ∧ i < g_np G → okP (ps i)) (hnc : 0 ≤ g_nc G ∧ g_nc G ≤ 4) (hcs : ∀ i, 0 ≤ i ∧ i < g_nc G → okC (cs i)) (hcu : 0 ≤ cu ∧ cu < g_nc G) (hc : 0 ≤ c ∧ c < 7) (hn : 1 ≤ n ∧ n ≤ 60) (hm : 0 ≤ m ∧ m ≤ 60) : jMi l yX10_saves wsX10_saves { frames := 4, cells := 0, slots := 0, locals := 91 } D Y RO [.ref h, vI cu, vI c, vI n, vI m] [(h, oC 9 [.ref (r 0), .ref (r 1), vI (ms_w S), vI (ms_l S), vL (ms_s S), vI (ms_a S), vI (ms_t S), vI (ms_p S), vI (g_np G), .ref (r 9), .ref (r 10), .ref (r 11), .ref (r 12), .ref (r 13), vI (g_nc G), .ref (r 15), .ref (r 16), .ref (r 17), vI (g_pl G), .ref (r 19), vI (g_ik G), vL (g_ks G), .ref (r 22), vL (g_ss G), .ref (r 24), vI (g_fa G), vI (g_iw G), vI (g_nw G), vI (g_ns G), vI (g_ne G), .ref (r 30), .ref (r 31), .ref (r 32), .ref (r 33), vL (g_h G)]), ((r 1), aI (Y 0) 7 (ms_h S)), ((r 0), aI (Y 0) 420 (ms_m S)), ((r 24), aI (Y 0) 432 v)] (fun e w1 => e = (if drainI (cs cu) (g_np G) ps c n (layS c m S) = -1 then 1 else 0) ∧ w1 = [(h, oC 9 [.ref (r 0), .ref (r 1), vI (ms_w S), vI (ms_l S), vL (ms_s S), vI (ms_a S), vI (ms_t S), vI (ms_p S), vI (g_np (gSS G (ms_s S))), .ref (r 9), .ref (r 10), .ref (r 11), .ref (r 12), .ref (r 13), vI (g_nc (gSS G (ms_s S))), .ref (r 15), .ref (r 16), .ref (r 17), vI (g_pl (gSS G (ms_s S))), .ref (r 19), vI (g_ik (gSS G (ms_s S))), vL (g_ks (gSS G (ms_s S))), .ref (r 22), vL (g_ss (gSS G (ms_s S))), .ref (r 24), vI (g_fa (gSS G (ms_s S))), vI (g_iw (gSS G (ms_s S))), vI (g_nw (gSS G (ms_s S))), vI (g_ns (gSS G (ms_s S))), vI (g_ne (gSS G (ms_s S))), .ref (r 30), .ref (r 31), .ref (r 32), .ref (r 33), vL (g_h (gSS G (ms_s S)))]), ((r 1), aI (Y 0) 7 (ms_h S)), ((r 0), aI (Y 0) 420 (ms_m S)), ((r 24), aI (Y 0) 432 (packS S))]) := by
  refine j_ofz RX10 rfl rfl rfl (Nat.le_of_ble_eq_true rfl) (fun X C Rt => ?_)
  refine j_aload_n (pc := 0) C 0 0 rfl rfl dX10_saves_0 ?_
  refine j_callVv (pc := 1) (As := []) (na := 0) (st := []) C [0, 3] [1, 2] (wr := [((r 1), aI (Y 0) 7 (ms_h S)), ((r 0), aI (Y 0) 420 (ms_m S))]) (fun l => m_save l D Y _ h r S G v (List.mem_append_left _ (List.mem_of_getElem? (i := 0) rfl)) (List.mem_append_left _ (List.mem_of_getElem? (i := 1) rfl)) ) rfl rfl rfl rfl (by decide) rfl (Or.inl (List.mem_of_getElem? (i := 0) rfl)) rfl gX10_saves_X10_save ⟨rfl, by decide +kernel⟩ (by decide) rfl rfl (Nat.le_of_ble_eq_true rfl) (by decide) dX10_saves_1 (fun w_2 h_3 => ?_)
  subst h_3
  refine j_perm (ws' := [(h, oC 9 [.ref (r 0), .ref (r 1), vI (ms_w S), vI (ms_l S), vL (ms_s S), vI (ms_a S), vI (ms_t S), vI (ms_p S), vI (g_np (gSS G (ms_s S))), .ref (r 9), .ref (r 10), .ref (r 11), .ref (r 12), .ref (r 13), vI (g_nc (gSS G (ms_s S))), .ref (r 15), .ref (r 16), .ref (r 17), vI (g_pl (gSS G (ms_s S))), .ref (r 19), vI (g_ik (gSS G (ms_s S))), vL (g_ks (gSS G (ms_s S))), .ref (r 22), vL (g_ss (gSS G (ms_s S))), .ref (r 24), vI (g_fa (gSS G (ms_s S))), vI (g_iw (gSS G (ms_s S))), vI (g_nw (gSS G (ms_s S))), vI (g_ns (gSS G (ms_s S))), vI (g_ne (gSS G (ms_s S))), .ref (r 30), .ref (r 31), .ref (r 32), .ref (r 33), vL (g_h (gSS G (ms_s S)))]), ((r 1), aI (Y 0) 7 (ms_h S)), ((r 0), aI (Y 0) 420 (ms_m S)), ((r 24), aI (Y 0) 432 (packS S))]) [2, 0, 1, 3] rfl rfl ?_
  refine j_aload_n (pc := 4) C 0 0 rfl rfl dX10_saves_4 ?_
  refine j_iload_n (pc := 5) C 2 2 rfl rfl dX10_saves_5 ?_
  refine j_iload (pc := 6) C 4 rfl dX10_saves_6 ?_
  refine j_callVv (pc := 8) (As := [vI c, vI m]) (na := 2) (st := []) C [0, 1, 2] [3] (wr := [((r 24), aI (Y 0) 432 (packS S))]) (fun l => m_layAll l D Y _ h r S (gSS G (ms_s S)) c m hS (by first | assumption | omega) (by first | assumption | omega)) rfl rfl rfl rfl (by decide) rfl (Or.inl (List.mem_of_getElem? (i := 0) rfl)) rfl gX10_saves_X10_layAll ⟨rfl, by decide +kernel⟩ (by decide) rfl rfl (Nat.le_of_ble_eq_true rfl) (by decide) dX10_saves_8 (fun w_5 h_6 => ?_)
  subst h_6
  refine j_perm (ws' := [(h, oC 9 [.ref (r 0), .ref (r 1), vI (ms_w (layS c m S)), vI (ms_l (layS c m S)), vL (ms_s (layS c m S)), vI (ms_a (layS c m S)), vI (ms_t (layS c m S)), vI (ms_p (layS c m S)), vI (g_np (gSS G (ms_s S))), .ref (r 9), .ref (r 10), .ref (r 11), .ref (r 12), .ref (r 13), vI (g_nc (gSS G (ms_s S))), .ref (r 15), .ref (r 16), .ref (r 17), vI (g_pl (gSS G (ms_s S))), .ref (r 19), vI (g_ik (gSS G (ms_s S))), vL (g_ks (gSS G (ms_s S))), .ref (r 22), vL (g_ss (gSS G (ms_s S))), .ref (r 24), vI (g_fa (gSS G (ms_s S))), vI (g_iw (gSS G (ms_s S))), vI (g_nw (gSS G (ms_s S))), vI (g_ns (gSS G (ms_s S))), vI (g_ne (gSS G (ms_s S))), .ref (r 30), .ref (r 31), .ref (r 32), .ref (r 33), vL (g_h (gSS G (ms_s S)))]), ((r 1), aI (Y 0) 7 (ms_h (layS c m S))), ((r 0), aI (Y 0) 420 (ms_m (layS c m S))), ((r 24), aI (Y 0) 432 (packS S))]) [1, 2, 3, 0] rfl rfl ?_
  refine j_iconst (pc := 11) C dX10_saves_11 ?_
  refine j_istore (pc := 12) (lc' := [(5, vI 1), (0, .ref h), (1, vI cu), (2, vI c), (3, vI n), (4, vI m)]) C (by decide) rfl dX10_saves_12 ?_
  refine j_iconst (pc := 14) C dX10_saves_14 ?_
  refine j_istore (pc := 15) (lc' := [(6, vI 0), (5, vI 1), (0, .ref h), (1, vI cu), (2, vI c), (3, vI n), (4, vI m)]) C (by decide) rfl dX10_saves_15 ?_
  have hL17 : ∀ (N17 : Nat) (b : Int) (i : Int) (T : MS), ((n - i).toNat) < N17 → (0 ≤ i ∧ i ≤ n) → (T = weeksS (cs cu) ps (g_np G) i (layS c m S)) → (okS T ∧ ms_w T = ms_w S + i) → ((b = 1 ∧ drainI (cs cu) (g_np G) ps c i (layS c m S) = -1) ∨ (b = 0 ∧ ¬ drainI (cs cu) (g_np G) ps c n (layS c m S) = -1)) → jW X 7 0 0 [(h, oC 9 [.ref (r 0), .ref (r 1), vI (ms_w T), vI (ms_l T), vL (ms_s T), vI (ms_a T), vI (ms_t T), vI (ms_p T), vI (g_np (gSS G (ms_s S))), .ref (r 9), .ref (r 10), .ref (r 11), .ref (r 12), .ref (r 13), vI (g_nc (gSS G (ms_s S))), .ref (r 15), .ref (r 16), .ref (r 17), vI (g_pl (gSS G (ms_s S))), .ref (r 19), vI (g_ik (gSS G (ms_s S))), vL (g_ks (gSS G (ms_s S))), .ref (r 22), vL (g_ss (gSS G (ms_s S))), .ref (r 24), vI (g_fa (gSS G (ms_s S))), vI (g_iw (gSS G (ms_s S))), vI (g_nw (gSS G (ms_s S))), vI (g_ns (gSS G (ms_s S))), vI (g_ne (gSS G (ms_s S))), .ref (r 30), .ref (r 31), .ref (r 32), .ref (r 33), vL (g_h (gSS G (ms_s S)))]), ((r 1), aI (Y 0) 7 (ms_h T)), ((r 0), aI (Y 0) 420 (ms_m T)), ((r 24), aI (Y 0) 432 (packS S))] [(0, .ref h), (1, vI cu), (2, vI c), (3, vI n), (4, vI m), (5, vI b), (6, vI i)] 17 [] := by
    intro N17
    induction N17 with
    | zero => intro b i T hm17 i17_0 i17_1 i17_2 i17_3; omega
    | succ N17 ih17 =>
      intro b i T hm17 i17_0 i17_1 i17_2 i17_3
      refine j_iload (pc := 17) C 6 rfl dX10_saves_17 ?_
      refine j_iload_n (pc := 19) C 3 3 rfl rfl dX10_saves_19 ?_
      refine j_icmp_ge (pc := 20) C 55 rfl (by omega) dX10_saves_20 (fun h_7p20 => ?_) (fun h_7p20 => ?_)
      · skip
        refine j_aload_n (pc := 55) C 0 0 rfl rfl dX10_saves_55 ?_
        refine j_callVv (pc := 56) (As := []) (na := 0) (st := []) C [0, 1, 2] [3] (wr := [((r 24), aI (Y 0) 432 (packS S))]) (fun l => m_back l D Y _ h r S T (gSS G (ms_s S)) (List.mem_append_left _ (List.mem_of_getElem? (i := 0) rfl)) rfl) rfl rfl rfl rfl (by decide) rfl (Or.inl (List.mem_of_getElem? (i := 0) rfl)) rfl gX10_saves_X10_back ⟨rfl, by decide +kernel⟩ (by decide) rfl rfl (Nat.le_of_ble_eq_true rfl) (by decide) dX10_saves_56 (fun w_9 h_10 => ?_)
        subst h_10
        refine j_perm (ws' := [(h, oC 9 [.ref (r 0), .ref (r 1), vI (ms_w S), vI (ms_l S), vL (ms_s S), vI (ms_a S), vI (ms_t S), vI (ms_p S), vI (g_np (gSS G (ms_s S))), .ref (r 9), .ref (r 10), .ref (r 11), .ref (r 12), .ref (r 13), vI (g_nc (gSS G (ms_s S))), .ref (r 15), .ref (r 16), .ref (r 17), vI (g_pl (gSS G (ms_s S))), .ref (r 19), vI (g_ik (gSS G (ms_s S))), vL (g_ks (gSS G (ms_s S))), .ref (r 22), vL (g_ss (gSS G (ms_s S))), .ref (r 24), vI (g_fa (gSS G (ms_s S))), vI (g_iw (gSS G (ms_s S))), vI (g_nw (gSS G (ms_s S))), vI (g_ns (gSS G (ms_s S))), vI (g_ne (gSS G (ms_s S))), .ref (r 30), .ref (r 31), .ref (r 32), .ref (r 33), vL (g_h (gSS G (ms_s S)))]), ((r 1), aI (Y 0) 7 (ms_h S)), ((r 0), aI (Y 0) 420 (ms_m S)), ((r 24), aI (Y 0) 432 (packS S))]) [1, 2, 3, 0] rfl rfl ?_
        refine j_iload (pc := 59) C 5 rfl dX10_saves_59 ?_
        exact Rt _ _ _ _ _ _ (by decide) (by decide) (by omega) ⟨by rcases i17_3 with q | q <;> first | (exfalso; omega) | (rw [if_neg q.2]; exact q.1) | (rw [if_pos (by rw [show n = i by omega]; exact q.2)]; exact q.1), rfl⟩ dX10_saves_61
      · skip
        refine j_iload (pc := 23) C 5 rfl dX10_saves_23 ?_
        refine j_if_eq (pc := 25) C 55 rfl (by omega) dX10_saves_25 (fun h_11p25 => ?_) (fun h_11p25 => ?_)
        · skip
          refine j_aload_n (pc := 55) C 0 0 rfl rfl dX10_saves_55 ?_
          refine j_callVv (pc := 56) (As := []) (na := 0) (st := []) C [0, 1, 2] [3] (wr := [((r 24), aI (Y 0) 432 (packS S))]) (fun l => m_back l D Y _ h r S T (gSS G (ms_s S)) (List.mem_append_left _ (List.mem_of_getElem? (i := 0) rfl)) rfl) rfl rfl rfl rfl (by decide) rfl (Or.inl (List.mem_of_getElem? (i := 0) rfl)) rfl gX10_saves_X10_back ⟨rfl, by decide +kernel⟩ (by decide) rfl rfl (Nat.le_of_ble_eq_true rfl) (by decide) dX10_saves_56 (fun w_13 h_14 => ?_)
          subst h_14
          refine j_perm (ws' := [(h, oC 9 [.ref (r 0), .ref (r 1), vI (ms_w S), vI (ms_l S), vL (ms_s S), vI (ms_a S), vI (ms_t S), vI (ms_p S), vI (g_np (gSS G (ms_s S))), .ref (r 9), .ref (r 10), .ref (r 11), .ref (r 12), .ref (r 13), vI (g_nc (gSS G (ms_s S))), .ref (r 15), .ref (r 16), .ref (r 17), vI (g_pl (gSS G (ms_s S))), .ref (r 19), vI (g_ik (gSS G (ms_s S))), vL (g_ks (gSS G (ms_s S))), .ref (r 22), vL (g_ss (gSS G (ms_s S))), .ref (r 24), vI (g_fa (gSS G (ms_s S))), vI (g_iw (gSS G (ms_s S))), vI (g_nw (gSS G (ms_s S))), vI (g_ns (gSS G (ms_s S))), vI (g_ne (gSS G (ms_s S))), .ref (r 30), .ref (r 31), .ref (r 32), .ref (r 33), vL (g_h (gSS G (ms_s S)))]), ((r 1), aI (Y 0) 7 (ms_h S)), ((r 0), aI (Y 0) 420 (ms_m S)), ((r 24), aI (Y 0) 432 (packS S))]) [1, 2, 3, 0] rfl rfl ?_
          refine j_iload (pc := 59) C 5 rfl dX10_saves_59 ?_
          exact Rt _ _ _ _ _ _ (by decide) (by decide) (by omega) ⟨by rcases i17_3 with q | q <;> first | (exfalso; omega) | (rw [if_neg q.2]; exact q.1) | (rw [if_pos (by rw [show n = i by omega]; exact q.2)]; exact q.1), rfl⟩ dX10_saves_61
        · skip
          have i17_3 : drainI (cs cu) (g_np G) ps c i (layS c m S) = -1 := by { rcases i17_3 with q | q; { exact q.2 }; { omega } }
          have oT : okS (goS (cs cu) ps (g_np (gSS G (ms_s S))) T) ∧ ms_w (goS (cs cu) ps (g_np (gSS G (ms_s S))) T) = ms_w T + 1 := okS_go i17_2.1 (hcs cu hcu) hps hnp
          have eT : goS (cs cu) ps (g_np (gSS G (ms_s S))) T = weeksS (cs cu) ps (g_np G) (i + 1) (layS c m S) := by { rw [i17_1]; exact (weeksS_succ (by omega)).symm }
          refine j_aload_n (pc := 28) C 0 0 rfl rfl dX10_saves_28 ?_
          refine j_iload_n (pc := 29) C 1 1 rfl rfl dX10_saves_29 ?_
          refine j_callVv (pc := 30) (As := [vI cu]) (na := 1) (st := []) C [0, 1, 2] [3] (wr := [((r 24), aI (Y 0) 432 (packS S))]) (fun l => m_goWeek l D Y _ h r T (gSS G (ms_s S)) cs ps cu (List.mem_append_right _ k0) (List.mem_append_right _ k1) (List.mem_append_right _ k2) (List.mem_append_right _ k3) (List.mem_append_right _ k4) (List.mem_append_right _ q0) (List.mem_append_right _ q1) (List.mem_append_right _ q2) i17_2.1 (by omega) (hcs cu (by omega)) hnp hps (by omega)) rfl rfl rfl rfl (by decide) rfl (Or.inl (List.mem_of_getElem? (i := 0) rfl)) rfl gX10_saves_X10_goWeek ⟨rfl, by decide +kernel⟩ (by decide) rfl rfl (Nat.le_of_ble_eq_true rfl) (by decide) dX10_saves_30 (fun w_16 h_17 => ?_)
          subst h_17
          refine j_perm (ws' := [(h, oC 9 [.ref (r 0), .ref (r 1), vI (ms_w (goS (cs cu) ps (g_np (gSS G (ms_s S))) T)), vI (ms_l (goS (cs cu) ps (g_np (gSS G (ms_s S))) T)), vL (ms_s (goS (cs cu) ps (g_np (gSS G (ms_s S))) T)), vI (ms_a (goS (cs cu) ps (g_np (gSS G (ms_s S))) T)), vI (ms_t (goS (cs cu) ps (g_np (gSS G (ms_s S))) T)), vI (ms_p (goS (cs cu) ps (g_np (gSS G (ms_s S))) T)), vI (g_np (gSS G (ms_s S))), .ref (r 9), .ref (r 10), .ref (r 11), .ref (r 12), .ref (r 13), vI (g_nc (gSS G (ms_s S))), .ref (r 15), .ref (r 16), .ref (r 17), vI (g_pl (gSS G (ms_s S))), .ref (r 19), vI (g_ik (gSS G (ms_s S))), vL (g_ks (gSS G (ms_s S))), .ref (r 22), vL (g_ss (gSS G (ms_s S))), .ref (r 24), vI (g_fa (gSS G (ms_s S))), vI (g_iw (gSS G (ms_s S))), vI (g_nw (gSS G (ms_s S))), vI (g_ns (gSS G (ms_s S))), vI (g_ne (gSS G (ms_s S))), .ref (r 30), .ref (r 31), .ref (r 32), .ref (r 33), vL (g_h (gSS G (ms_s S)))]), ((r 1), aI (Y 0) 7 (ms_h (goS (cs cu) ps (g_np (gSS G (ms_s S))) T))), ((r 0), aI (Y 0) 420 (ms_m (goS (cs cu) ps (g_np (gSS G (ms_s S))) T))), ((r 24), aI (Y 0) 432 (packS S))]) [1, 2, 3, 0] rfl rfl ?_
          refine j_aload_n (pc := 33) C 0 0 rfl rfl dX10_saves_33 ?_
          refine j_get (pc := 34) C (Or.inl (List.mem_of_getElem? (i := 0) rfl)) rfl fX10_saves_X10 1 (by decide) (List.mem_of_getElem? (i := 1) rfl) (Or.inl rfl) rfl dX10_saves_34 ?_
          refine j_iload_n (pc := 37) C 2 2 rfl rfl dX10_saves_37 ?_
          refine j_iald (pc := 38) C (Or.inl (List.mem_of_getElem? (i := 1) rfl)) rfl (by omega) (by decide) dX10_saves_38 ?_
          have f_18 := oT.1.1 c hc
          refine j_if_le (pc := 39) C 46 rfl (by omega) dX10_saves_39 (fun h_19p39 => ?_) (fun h_19p39 => ?_)
          · skip
            refine j_iconst (pc := 46) C dX10_saves_46 ?_
            refine j_istore (pc := 47) (lc' := [(5, vI 0), (0, .ref h), (1, vI cu), (2, vI c), (3, vI n), (4, vI m), (6, vI i)]) C (by decide) rfl dX10_saves_47 ?_
            refine j_iinc (pc := 49) (lc' := [(6, vI (i + 1)), (5, vI 0), (0, .ref h), (1, vI cu), (2, vI c), (3, vI n), (4, vI m)]) C 6 rfl (by decide) rfl dX10_saves_49 ?_
            refine j_goto (pc := 52) C 17 rfl dX10_saves_52 ?_
            refine j_locals (lc' := [(0, .ref h), (1, vI cu), (2, vI c), (3, vI n), (4, vI m), (5, vI 0), (6, vI (i + 1))]) [2, 3, 4, 5, 6, 1, 0] rfl ?_
            exact ih17 0 (i + 1) (goS (cs cu) ps (g_np (gSS G (ms_s S))) T) (by omega) (by omega) eT ⟨oT.1, by rw [oT.2, i17_2.2]; omega⟩ (by first | (refine Or.inl ⟨rfl, fst_step (P := (fun b => ms_h (weeksS (cs cu) ps (g_np G) (b + 1) (layS c m S)) c = 0)) (by omega) i17_3 (by (try dsimp only); rw [← eT]; omega)⟩; done) | (refine Or.inr ⟨rfl, ?_⟩; rw [show drainI (cs cu) (g_np G) ps c n (layS c m S) = i from fst_hit (P := (fun b => ms_h (weeksS (cs cu) ps (g_np G) (b + 1) (layS c m S)) c = 0)) (by omega) (by omega) i17_3 (by (try dsimp only); rw [← eT]; omega)]; omega))
          · skip
            refine j_iconst (pc := 42) C dX10_saves_42 ?_
            refine j_goto (pc := 43) C 47 rfl dX10_saves_43 ?_
            refine j_istore (pc := 47) (lc' := [(5, vI 1), (0, .ref h), (1, vI cu), (2, vI c), (3, vI n), (4, vI m), (6, vI i)]) C (by decide) rfl dX10_saves_47 ?_
            refine j_iinc (pc := 49) (lc' := [(6, vI (i + 1)), (5, vI 1), (0, .ref h), (1, vI cu), (2, vI c), (3, vI n), (4, vI m)]) C 6 rfl (by decide) rfl dX10_saves_49 ?_
            refine j_goto (pc := 52) C 17 rfl dX10_saves_52 ?_
            refine j_locals (lc' := [(0, .ref h), (1, vI cu), (2, vI c), (3, vI n), (4, vI m), (5, vI 1), (6, vI (i + 1))]) [2, 3, 4, 5, 6, 1, 0] rfl ?_
            exact ih17 1 (i + 1) (goS (cs cu) ps (g_np (gSS G (ms_s S))) T) (by omega) (by omega) eT ⟨oT.1, by rw [oT.2, i17_2.2]; omega⟩ (by first | (refine Or.inl ⟨rfl, fst_step (P := (fun b => ms_h (weeksS (cs cu) ps (g_np G) (b + 1) (layS c m S)) c = 0)) (by omega) i17_3 (by (try dsimp only); rw [← eT]; omega)⟩; done) | (refine Or.inr ⟨rfl, ?_⟩; rw [show drainI (cs cu) (g_np G) ps c n (layS c m S) = i from fst_hit (P := (fun b => ms_h (weeksS (cs cu) ps (g_np G) (b + 1) (layS c m S)) c = 0)) (by omega) (by omega) i17_3 (by (try dsimp only); rw [← eT]; omega)]; omega))
  refine j_locals (lc' := [(0, .ref h), (1, vI cu), (2, vI c), (3, vI n), (4, vI m), (5, vI 1), (6, vI 0)]) [2, 3, 4, 5, 6, 1, 0] rfl ?_
  exact hL17 _ 1 0 (layS c m S) (Nat.lt_succ_self _) (by omega) rfl ⟨okS_lay hS hc (by omega), by rw [layS_w hS hc (by omega)]; omega⟩ (Or.inl ⟨rfl, rfl⟩)

set_option maxHeartbeats 4000000 in
set_option maxRecDepth 100000 in
theorem m_saved (l : Launch) (D : va_G) (Y : Nat → ClassId) (RO : va_W) (h : Nat) (r : Nat → Nat) (S : MS) (G : GS) (cs : Int → CT) (ps : Int → PT) (v : Int → Int) (cu : Int) (c : Int) (n : Int) (k0 : ((r 9), aI (Y 0) 6 (kof ps)) ∈ RO) (k1 : ((r 10), aI (Y 0) 6 (nof ps)) ∈ RO) (k2 : ((r 11), aI (Y 0) 6 (wof ps)) ∈ RO) (k3 : ((r 12), aI (Y 0) 6 (iof ps)) ∈ RO) (k4 : ((r 13), aI (Y 0) 6 (zof ps)) ∈ RO) (q0 : ((r 15), aI (Y 0) 4 (cwof cs)) ∈ RO) (q1 : ((r 16), aI (Y 0) 4 (czof cs)) ∈ RO) (q2 : ((r 17), aI (Y 0) 4 (ceof cs)) ∈ RO) (hS : okS S) (hw : ms_w S ≤ 9999) (hnp : 0 ≤ g_np G ∧ g_np G ≤ 6) (hps : ∀ i, 0 ≤ i ∧ i < g_np G → okP (ps i)) (hnc : 0 ≤ g_nc G ∧ g_nc G ≤ 4) (hcs : ∀ i, 0 ≤ i ∧ i < g_nc G → okC (cs i)) (hcu : -2147483648 ≤ cu ∧ cu ≤ 2147483647) (hc : -2147483648 ≤ c ∧ c ≤ 2147483647) (hn : -2147483648 ≤ n ∧ n ≤ 2147483647) : jMi l yX10_saved wsX10_saved { frames := 5, cells := 0, slots := 0, locals := 117 } D Y RO [.ref h, vI cu, vI c, vI n] [(h, oC 9 [.ref (r 0), .ref (r 1), vI (ms_w S), vI (ms_l S), vL (ms_s S), vI (ms_a S), vI (ms_t S), vI (ms_p S), vI (g_np G), .ref (r 9), .ref (r 10), .ref (r 11), .ref (r 12), .ref (r 13), vI (g_nc G), .ref (r 15), .ref (r 16), .ref (r 17), vI (g_pl G), .ref (r 19), vI (g_ik G), vL (g_ks G), .ref (r 22), vL (g_ss G), .ref (r 24), vI (g_fa G), vI (g_iw G), vI (g_nw G), vI (g_ns G), vI (g_ne G), .ref (r 30), .ref (r 31), .ref (r 32), .ref (r 33), vL (g_h G)]), ((r 1), aI (Y 0) 7 (ms_h S)), ((r 0), aI (Y 0) 420 (ms_m S)), ((r 24), aI (Y 0) 432 v)] (fun e w1 => e = rSaved cu c n (g_nc G) cs (g_np G) ps S ∧ ∃ (G1 : GS) (v1 : Int → Int), gEq G G1 ∧ w1 = [(h, oC 9 [.ref (r 0), .ref (r 1), vI (ms_w S), vI (ms_l S), vL (ms_s S), vI (ms_a S), vI (ms_t S), vI (ms_p S), vI (g_np G1), .ref (r 9), .ref (r 10), .ref (r 11), .ref (r 12), .ref (r 13), vI (g_nc G1), .ref (r 15), .ref (r 16), .ref (r 17), vI (g_pl G1), .ref (r 19), vI (g_ik G1), vL (g_ks G1), .ref (r 22), vL (g_ss G1), .ref (r 24), vI (g_fa G1), vI (g_iw G1), vI (g_nw G1), vI (g_ns G1), vI (g_ne G1), .ref (r 30), .ref (r 31), .ref (r 32), .ref (r 33), vL (g_h G1)]), ((r 1), aI (Y 0) 7 (ms_h S)), ((r 0), aI (Y 0) 420 (ms_m S)), ((r 24), aI (Y 0) 432 v1)]) := by
  refine j_ofi RX10 rfl rfl rfl (Nat.le_of_ble_eq_true rfl) (fun X C Rt => ?_)
  refine j_aload_n (pc := 0) C 0 0 rfl rfl dX10_saved_0 ?_
  refine j_iload_n (pc := 1) C 1 1 rfl rfl dX10_saved_1 ?_
  refine j_callVi (pc := 2) (As := [vI cu]) (na := 1) (st := []) C [] [0, 1, 2, 3] (wr := [(h, oC 9 [.ref (r 0), .ref (r 1), vI (ms_w S), vI (ms_l S), vL (ms_s S), vI (ms_a S), vI (ms_t S), vI (ms_p S), vI (g_np G), .ref (r 9), .ref (r 10), .ref (r 11), .ref (r 12), .ref (r 13), vI (g_nc G), .ref (r 15), .ref (r 16), .ref (r 17), vI (g_pl G), .ref (r 19), vI (g_ik G), vL (g_ks G), .ref (r 22), vL (g_ss G), .ref (r 24), vI (g_fa G), vI (g_iw G), vI (g_nw G), vI (g_ns G), vI (g_ne G), .ref (r 30), .ref (r 31), .ref (r 32), .ref (r 33), vL (g_h G)]), ((r 1), aI (Y 0) 7 (ms_h S)), ((r 0), aI (Y 0) 420 (ms_m S)), ((r 24), aI (Y 0) 432 v)]) (fun l => m_isCustom l D Y _ h r S G cu (List.mem_append_left _ (List.mem_of_getElem? (i := 0) rfl)) (by first | assumption | omega) (by first | assumption | omega)) rfl rfl rfl rfl (by decide) rfl (Or.inr (List.mem_append_left _ (List.mem_of_getElem? (i := 0) rfl))) rfl gX10_saved_X10_isCustom ⟨rfl, by decide +kernel⟩ (by decide) rfl rfl (Nat.le_of_ble_eq_true rfl) (by decide) dX10_saved_2 (fun e_1 w_2 h_3 => ?_)
  obtain ⟨rfl, rfl⟩ := h_3
  refine j_perm (ws' := [(h, oC 9 [.ref (r 0), .ref (r 1), vI (ms_w S), vI (ms_l S), vL (ms_s S), vI (ms_a S), vI (ms_t S), vI (ms_p S), vI (g_np G), .ref (r 9), .ref (r 10), .ref (r 11), .ref (r 12), .ref (r 13), vI (g_nc G), .ref (r 15), .ref (r 16), .ref (r 17), vI (g_pl G), .ref (r 19), vI (g_ik G), vL (g_ks G), .ref (r 22), vL (g_ss G), .ref (r 24), vI (g_fa G), vI (g_iw G), vI (g_nw G), vI (g_ns G), vI (g_ne G), .ref (r 30), .ref (r 31), .ref (r 32), .ref (r 33), vL (g_h G)]), ((r 1), aI (Y 0) 7 (ms_h S)), ((r 0), aI (Y 0) 420 (ms_m S)), ((r 24), aI (Y 0) 432 v)]) [0, 1, 2, 3] rfl rfl ?_
  refine j_if_eqb (pc := 5) C 15 rfl dX10_saved_5 (fun h_4p5 => ?_) (fun h_4p5 => ?_)
  · skip
    refine j_bipush (pc := 15) (w := (-101)) C rfl dX10_saved_15 ?_
    exact Rt _ _ _ _ _ _ (by decide) (by decide) ⟨by unfold rSaved; rw [if_pos (by omega)], _, _, gEq.rf G, rfl⟩ dX10_saved_17
  · skip
    refine j_iload_n (pc := 8) C 2 2 rfl rfl dX10_saved_8 ?_
    refine j_callSi (pc := 9) (As := [vI c]) (na := 1) (st := []) C [] [0, 1, 2, 3] (wr := [(h, oC 9 [.ref (r 0), .ref (r 1), vI (ms_w S), vI (ms_l S), vL (ms_s S), vI (ms_a S), vI (ms_t S), vI (ms_p S), vI (g_np G), .ref (r 9), .ref (r 10), .ref (r 11), .ref (r 12), .ref (r 13), vI (g_nc G), .ref (r 15), .ref (r 16), .ref (r 17), vI (g_pl G), .ref (r 19), vI (g_ik G), vL (g_ks G), .ref (r 22), vL (g_ss G), .ref (r 24), vI (g_fa G), vI (g_iw G), vI (g_nw G), vI (g_ns G), vI (g_ne G), .ref (r 30), .ref (r 31), .ref (r 32), .ref (r 33), vL (g_h G)]), ((r 1), aI (Y 0) 7 (ms_h S)), ((r 0), aI (Y 0) 420 (ms_m S)), ((r 24), aI (Y 0) 432 v)]) (fun l => m_isCairn l D Y _ c (by first | assumption | omega)) rfl rfl rfl rfl (by decide) rfl gX10_saved_X10_isCairn (by decide +kernel) (by decide) rfl rfl (Nat.le_of_ble_eq_true rfl) (by decide) dX10_saved_9 (fun e_5 w_6 h_7 => ?_)
    obtain ⟨rfl, rfl⟩ := h_7
    refine j_perm (ws' := [(h, oC 9 [.ref (r 0), .ref (r 1), vI (ms_w S), vI (ms_l S), vL (ms_s S), vI (ms_a S), vI (ms_t S), vI (ms_p S), vI (g_np G), .ref (r 9), .ref (r 10), .ref (r 11), .ref (r 12), .ref (r 13), vI (g_nc G), .ref (r 15), .ref (r 16), .ref (r 17), vI (g_pl G), .ref (r 19), vI (g_ik G), vL (g_ks G), .ref (r 22), vL (g_ss G), .ref (r 24), vI (g_fa G), vI (g_iw G), vI (g_nw G), vI (g_ns G), vI (g_ne G), .ref (r 30), .ref (r 31), .ref (r 32), .ref (r 33), vL (g_h G)]), ((r 1), aI (Y 0) 7 (ms_h S)), ((r 0), aI (Y 0) 420 (ms_m S)), ((r 24), aI (Y 0) 432 v)]) [0, 1, 2, 3] rfl rfl ?_
    refine j_if_neb (pc := 12) C 18 rfl dX10_saved_12 (fun h_8p12 => ?_) (fun h_8p12 => ?_)
    · skip
      refine j_iload_n (pc := 18) C 3 3 rfl rfl dX10_saved_18 ?_
      refine j_iconst (pc := 19) C dX10_saved_19 ?_
      refine j_bipush (pc := 20) (w := 60) C rfl dX10_saved_20 ?_
      refine j_callSi (pc := 22) (As := [vI n, vI 1, vI 60]) (na := 3) (st := []) C [] [0, 1, 2, 3] (wr := [(h, oC 9 [.ref (r 0), .ref (r 1), vI (ms_w S), vI (ms_l S), vL (ms_s S), vI (ms_a S), vI (ms_t S), vI (ms_p S), vI (g_np G), .ref (r 9), .ref (r 10), .ref (r 11), .ref (r 12), .ref (r 13), vI (g_nc G), .ref (r 15), .ref (r 16), .ref (r 17), vI (g_pl G), .ref (r 19), vI (g_ik G), vL (g_ks G), .ref (r 22), vL (g_ss G), .ref (r 24), vI (g_fa G), vI (g_iw G), vI (g_nw G), vI (g_ns G), vI (g_ne G), .ref (r 30), .ref (r 31), .ref (r 32), .ref (r 33), vL (g_h G)]), ((r 1), aI (Y 0) 7 (ms_h S)), ((r 0), aI (Y 0) 420 (ms_m S)), ((r 24), aI (Y 0) 432 v)]) (fun l => m_within l D Y _ n 1 60 (by first | assumption | omega) (by first | assumption | omega) (by first | assumption | omega)) rfl rfl rfl rfl (by decide) rfl gX10_saved_X10_within (by decide +kernel) (by decide) rfl rfl (Nat.le_of_ble_eq_true rfl) (by decide) dX10_saved_22 (fun e_9 w_10 h_11 => ?_)
      obtain ⟨rfl, rfl⟩ := h_11
      refine j_perm (ws' := [(h, oC 9 [.ref (r 0), .ref (r 1), vI (ms_w S), vI (ms_l S), vL (ms_s S), vI (ms_a S), vI (ms_t S), vI (ms_p S), vI (g_np G), .ref (r 9), .ref (r 10), .ref (r 11), .ref (r 12), .ref (r 13), vI (g_nc G), .ref (r 15), .ref (r 16), .ref (r 17), vI (g_pl G), .ref (r 19), vI (g_ik G), vL (g_ks G), .ref (r 22), vL (g_ss G), .ref (r 24), vI (g_fa G), vI (g_iw G), vI (g_nw G), vI (g_ns G), vI (g_ne G), .ref (r 30), .ref (r 31), .ref (r 32), .ref (r 33), vL (g_h G)]), ((r 1), aI (Y 0) 7 (ms_h S)), ((r 0), aI (Y 0) 420 (ms_m S)), ((r 24), aI (Y 0) 432 v)]) [0, 1, 2, 3] rfl rfl ?_
      refine j_if_neb (pc := 25) C 31 rfl dX10_saved_25 (fun h_12p25 => ?_) (fun h_12p25 => ?_)
      · skip
        refine j_iconst (pc := 31) C dX10_saved_31 ?_
        refine j_istore (pc := 32) (lc' := [(4, vI 0), (0, .ref h), (1, vI cu), (2, vI c), (3, vI n)]) C (by decide) rfl dX10_saved_32 ?_
        have hL34 : ∀ (N34 : Nat) (m : Int) (G2 : GS) (v2 : Int → Int), ((61 - m).toNat) < N34 → (0 ≤ m ∧ m ≤ 61) → (gEq G G2) → (fstI (fun m => drainI (cs cu) (g_np G) ps c n (layS c m S) = -1) m = -1) → jW X 5 0 0 [(h, oC 9 [.ref (r 0), .ref (r 1), vI (ms_w S), vI (ms_l S), vL (ms_s S), vI (ms_a S), vI (ms_t S), vI (ms_p S), vI (g_np G2), .ref (r 9), .ref (r 10), .ref (r 11), .ref (r 12), .ref (r 13), vI (g_nc G2), .ref (r 15), .ref (r 16), .ref (r 17), vI (g_pl G2), .ref (r 19), vI (g_ik G2), vL (g_ks G2), .ref (r 22), vL (g_ss G2), .ref (r 24), vI (g_fa G2), vI (g_iw G2), vI (g_nw G2), vI (g_ns G2), vI (g_ne G2), .ref (r 30), .ref (r 31), .ref (r 32), .ref (r 33), vL (g_h G2)]), ((r 1), aI (Y 0) 7 (ms_h S)), ((r 0), aI (Y 0) 420 (ms_m S)), ((r 24), aI (Y 0) 432 v2)] [(0, .ref h), (1, vI cu), (2, vI c), (3, vI n), (4, vI m)] 34 [] := by
          intro N34
          induction N34 with
          | zero => intro m G2 v2 hm34 i34_0 i34_1 i34_2; omega
          | succ N34 ih34 =>
            intro m G2 v2 hm34 i34_0 i34_1 i34_2
            refine j_iload (pc := 34) C 4 rfl dX10_saved_34 ?_
            refine j_bipush (pc := 36) (w := 60) C rfl dX10_saved_36 ?_
            refine j_icmp_gt (pc := 38) C 62 rfl (by omega) dX10_saved_38 (fun h_13p38 => ?_) (fun h_13p38 => ?_)
            · skip
              refine j_iconst (pc := 62) C dX10_saved_62 ?_
              exact Rt _ _ _ _ _ _ (by decide) (by decide) ⟨by unfold rSaved; rw [if_neg (by omega), if_neg (by omega)]; rw [show m = 61 by omega] at i34_2; exact i34_2.symm, _, _, i34_1, rfl⟩ dX10_saved_63
            · skip
              refine j_aload_n (pc := 41) C 0 0 rfl rfl dX10_saved_41 ?_
              refine j_iload_n (pc := 42) C 1 1 rfl rfl dX10_saved_42 ?_
              refine j_iload_n (pc := 43) C 2 2 rfl rfl dX10_saved_43 ?_
              refine j_iload_n (pc := 44) C 3 3 rfl rfl dX10_saved_44 ?_
              refine j_iload (pc := 45) C 4 rfl dX10_saved_45 ?_
              refine j_callVi (pc := 47) (As := [vI cu, vI c, vI n, vI m]) (na := 4) (st := []) C [0, 1, 2, 3] [] (wr := []) (fun l => m_saves l D Y _ h r S G2 cs ps v2 cu c n m (List.mem_append_right _ k0) (List.mem_append_right _ k1) (List.mem_append_right _ k2) (List.mem_append_right _ k3) (List.mem_append_right _ k4) (List.mem_append_right _ q0) (List.mem_append_right _ q1) (List.mem_append_right _ q2) hS (by first | assumption | omega) (by rw [i34_1.1]; exact hnp) (by rw [i34_1.1]; exact hps) (by rw [i34_1.2.1]; exact hnc) (by rw [i34_1.2.1]; exact hcs) (by rw [i34_1.2.1]; omega) (by first | assumption | omega) (by first | assumption | omega) (by first | assumption | omega)) rfl rfl rfl rfl (by decide) rfl (Or.inl (List.mem_of_getElem? (i := 0) rfl)) rfl gX10_saved_X10_saves ⟨rfl, by decide +kernel⟩ (by decide) rfl rfl (Nat.le_of_ble_eq_true rfl) (by decide) dX10_saved_47 (fun e_14 w_15 h_16 => ?_)
              obtain ⟨rfl, rfl⟩ := h_16
              refine j_perm (ws' := [(h, oC 9 [.ref (r 0), .ref (r 1), vI (ms_w S), vI (ms_l S), vL (ms_s S), vI (ms_a S), vI (ms_t S), vI (ms_p S), vI (g_np (gSS G2 (ms_s S))), .ref (r 9), .ref (r 10), .ref (r 11), .ref (r 12), .ref (r 13), vI (g_nc (gSS G2 (ms_s S))), .ref (r 15), .ref (r 16), .ref (r 17), vI (g_pl (gSS G2 (ms_s S))), .ref (r 19), vI (g_ik (gSS G2 (ms_s S))), vL (g_ks (gSS G2 (ms_s S))), .ref (r 22), vL (g_ss (gSS G2 (ms_s S))), .ref (r 24), vI (g_fa (gSS G2 (ms_s S))), vI (g_iw (gSS G2 (ms_s S))), vI (g_nw (gSS G2 (ms_s S))), vI (g_ns (gSS G2 (ms_s S))), vI (g_ne (gSS G2 (ms_s S))), .ref (r 30), .ref (r 31), .ref (r 32), .ref (r 33), vL (g_h (gSS G2 (ms_s S)))]), ((r 1), aI (Y 0) 7 (ms_h S)), ((r 0), aI (Y 0) 420 (ms_m S)), ((r 24), aI (Y 0) 432 (packS S))]) [0, 1, 2, 3] rfl rfl ?_
              refine j_if_eqb (pc := 50) C 56 rfl dX10_saved_50 (fun h_17p50 => ?_) (fun h_17p50 => ?_)
              · skip
                refine j_iinc (pc := 56) (lc' := [(4, vI (m + 1)), (0, .ref h), (1, vI cu), (2, vI c), (3, vI n)]) C 4 rfl (by decide) rfl dX10_saved_56 ?_
                refine j_goto (pc := 59) C 34 rfl dX10_saved_59 ?_
                refine j_locals (lc' := [(0, .ref h), (1, vI cu), (2, vI c), (3, vI n), (4, vI (m + 1))]) [1, 2, 3, 4, 0] rfl ?_
                exact ih34 (m + 1) (gSS G2 (ms_s S)) (packS S) (by omega) (by omega) (i34_1.tr (gEq.ss _ _)) (fst_step (P := (fun m => drainI (cs cu) (g_np G) ps c n (layS c m S) = -1)) (by omega) i34_2 (by (try dsimp only); rw [← i34_1.1]; assumption))
              · skip
                refine j_iload (pc := 53) C 4 rfl dX10_saved_53 ?_
                exact Rt _ _ _ _ _ _ (by decide) (by decide) ⟨by unfold rSaved; rw [if_neg (by omega), if_neg (by omega)]; exact (fst_hit (P := (fun m => drainI (cs cu) (g_np G) ps c n (layS c m S) = -1)) (by omega) (by omega) i34_2 (by (try dsimp only); rw [← i34_1.1]; assumption)).symm, _, _, i34_1.tr (gEq.ss _ _), rfl⟩ dX10_saved_55
        refine j_locals (lc' := [(0, .ref h), (1, vI cu), (2, vI c), (3, vI n), (4, vI 0)]) [1, 2, 3, 4, 0] rfl ?_
        exact hL34 _ 0 G v (Nat.lt_succ_self _) (by omega) (gEq.rf G) rfl
      · skip
        refine j_bipush (pc := 28) (w := (-102)) C rfl dX10_saved_28 ?_
        exact Rt _ _ _ _ _ _ (by decide) (by decide) ⟨by unfold rSaved; rw [if_neg (by omega), if_pos (by omega)], _, _, gEq.rf G, rfl⟩ dX10_saved_30
    · skip
      refine j_bipush (pc := 15) (w := (-101)) C rfl dX10_saved_15 ?_
      exact Rt _ _ _ _ _ _ (by decide) (by decide) ⟨by unfold rSaved; rw [if_pos (by omega)], _, _, gEq.rf G, rfl⟩ dX10_saved_17

set_option maxHeartbeats 4000000 in
set_option maxRecDepth 100000 in
theorem m_unlike (l : Launch) (D : va_G) (Y : Nat → ClassId) (RO : va_W) (h : Nat) (r : Nat → Nat) (S : MS) (G : GS) (cs : Int → CT) (ps : Int → PT) (v : Int → Int) (a : Int) (b : Int) (n : Int) (k0 : ((r 9), aI (Y 0) 6 (kof ps)) ∈ RO) (k1 : ((r 10), aI (Y 0) 6 (nof ps)) ∈ RO) (k2 : ((r 11), aI (Y 0) 6 (wof ps)) ∈ RO) (k3 : ((r 12), aI (Y 0) 6 (iof ps)) ∈ RO) (k4 : ((r 13), aI (Y 0) 6 (zof ps)) ∈ RO) (q0 : ((r 15), aI (Y 0) 4 (cwof cs)) ∈ RO) (q1 : ((r 16), aI (Y 0) 4 (czof cs)) ∈ RO) (q2 : ((r 17), aI (Y 0) 4 (ceof cs)) ∈ RO) (hS : okS S) (hw : ms_w S ≤ 9999) (hnp : 0 ≤ g_np G ∧ g_np G ≤ 6) (hps : ∀ i, 0 ≤ i ∧ i < g_np G → okP (ps i)) (hnc : 0 ≤ g_nc G ∧ g_nc G ≤ 4) (hcs : ∀ i, 0 ≤ i ∧ i < g_nc G → okC (cs i)) (ha : -2147483648 ≤ a ∧ a ≤ 2147483647) (hb : -2147483648 ≤ b ∧ b ≤ 2147483647) (hn : -2147483648 ≤ n ∧ n ≤ 2147483647) : jMi l yX10_unlike wsX10_unlike { frames := 5, cells := 0, slots := 0, locals := 115 } D Y RO [.ref h, vI a, vI b, vI n] [(h, oC 9 [.ref (r 0), .ref (r 1), vI (ms_w S), vI (ms_l S), vL (ms_s S), vI (ms_a S), vI (ms_t S), vI (ms_p S), vI (g_np G), .ref (r 9), .ref (r 10), .ref (r 11), .ref (r 12), .ref (r 13), vI (g_nc G), .ref (r 15), .ref (r 16), .ref (r 17), vI (g_pl G), .ref (r 19), vI (g_ik G), vL (g_ks G), .ref (r 22), vL (g_ss G), .ref (r 24), vI (g_fa G), vI (g_iw G), vI (g_nw G), vI (g_ns G), vI (g_ne G), .ref (r 30), .ref (r 31), .ref (r 32), .ref (r 33), vL (g_h G)]), ((r 1), aI (Y 0) 7 (ms_h S)), ((r 0), aI (Y 0) 420 (ms_m S)), ((r 24), aI (Y 0) 432 v)] (fun e w1 => e = rUnlike a b n (g_nc G) cs (g_np G) ps S ∧ ∃ (G1 : GS) (v1 : Int → Int), gEq G G1 ∧ w1 = [(h, oC 9 [.ref (r 0), .ref (r 1), vI (ms_w S), vI (ms_l S), vL (ms_s S), vI (ms_a S), vI (ms_t S), vI (ms_p S), vI (g_np G1), .ref (r 9), .ref (r 10), .ref (r 11), .ref (r 12), .ref (r 13), vI (g_nc G1), .ref (r 15), .ref (r 16), .ref (r 17), vI (g_pl G1), .ref (r 19), vI (g_ik G1), vL (g_ks G1), .ref (r 22), vL (g_ss G1), .ref (r 24), vI (g_fa G1), vI (g_iw G1), vI (g_nw G1), vI (g_ns G1), vI (g_ne G1), .ref (r 30), .ref (r 31), .ref (r 32), .ref (r 33), vL (g_h G1)]), ((r 1), aI (Y 0) 7 (ms_h S)), ((r 0), aI (Y 0) 420 (ms_m S)), ((r 24), aI (Y 0) 432 v1)]) := by
  refine j_ofi RX10 rfl rfl rfl (Nat.le_of_ble_eq_true rfl) (fun X C Rt => ?_)
  refine j_aload_n (pc := 0) C 0 0 rfl rfl dX10_unlike_0 ?_
  refine j_iload_n (pc := 1) C 1 1 rfl rfl dX10_unlike_1 ?_
  refine j_callVi (pc := 2) (As := [vI a]) (na := 1) (st := []) C [] [0, 1, 2, 3] (wr := [(h, oC 9 [.ref (r 0), .ref (r 1), vI (ms_w S), vI (ms_l S), vL (ms_s S), vI (ms_a S), vI (ms_t S), vI (ms_p S), vI (g_np G), .ref (r 9), .ref (r 10), .ref (r 11), .ref (r 12), .ref (r 13), vI (g_nc G), .ref (r 15), .ref (r 16), .ref (r 17), vI (g_pl G), .ref (r 19), vI (g_ik G), vL (g_ks G), .ref (r 22), vL (g_ss G), .ref (r 24), vI (g_fa G), vI (g_iw G), vI (g_nw G), vI (g_ns G), vI (g_ne G), .ref (r 30), .ref (r 31), .ref (r 32), .ref (r 33), vL (g_h G)]), ((r 1), aI (Y 0) 7 (ms_h S)), ((r 0), aI (Y 0) 420 (ms_m S)), ((r 24), aI (Y 0) 432 v)]) (fun l => m_isCustom l D Y _ h r S G a (List.mem_append_left _ (List.mem_of_getElem? (i := 0) rfl)) (by first | assumption | omega) (by first | assumption | omega)) rfl rfl rfl rfl (by decide) rfl (Or.inr (List.mem_append_left _ (List.mem_of_getElem? (i := 0) rfl))) rfl gX10_unlike_X10_isCustom ⟨rfl, by decide +kernel⟩ (by decide) rfl rfl (Nat.le_of_ble_eq_true rfl) (by decide) dX10_unlike_2 (fun e_1 w_2 h_3 => ?_)
  obtain ⟨rfl, rfl⟩ := h_3
  refine j_perm (ws' := [(h, oC 9 [.ref (r 0), .ref (r 1), vI (ms_w S), vI (ms_l S), vL (ms_s S), vI (ms_a S), vI (ms_t S), vI (ms_p S), vI (g_np G), .ref (r 9), .ref (r 10), .ref (r 11), .ref (r 12), .ref (r 13), vI (g_nc G), .ref (r 15), .ref (r 16), .ref (r 17), vI (g_pl G), .ref (r 19), vI (g_ik G), vL (g_ks G), .ref (r 22), vL (g_ss G), .ref (r 24), vI (g_fa G), vI (g_iw G), vI (g_nw G), vI (g_ns G), vI (g_ne G), .ref (r 30), .ref (r 31), .ref (r 32), .ref (r 33), vL (g_h G)]), ((r 1), aI (Y 0) 7 (ms_h S)), ((r 0), aI (Y 0) 420 (ms_m S)), ((r 24), aI (Y 0) 432 v)]) [0, 1, 2, 3] rfl rfl ?_
  refine j_if_eqb (pc := 5) C 16 rfl dX10_unlike_5 (fun h_4p5 => ?_) (fun h_4p5 => ?_)
  · skip
    refine j_bipush (pc := 16) (w := (-101)) C rfl dX10_unlike_16 ?_
    exact Rt _ _ _ _ _ _ (by decide) (by decide) ⟨by unfold rUnlike; rw [if_pos (by omega)], _, _, gEq.rf G, rfl⟩ dX10_unlike_18
  · skip
    refine j_aload_n (pc := 8) C 0 0 rfl rfl dX10_unlike_8 ?_
    refine j_iload_n (pc := 9) C 2 2 rfl rfl dX10_unlike_9 ?_
    refine j_callVi (pc := 10) (As := [vI b]) (na := 1) (st := []) C [] [0, 1, 2, 3] (wr := [(h, oC 9 [.ref (r 0), .ref (r 1), vI (ms_w S), vI (ms_l S), vL (ms_s S), vI (ms_a S), vI (ms_t S), vI (ms_p S), vI (g_np G), .ref (r 9), .ref (r 10), .ref (r 11), .ref (r 12), .ref (r 13), vI (g_nc G), .ref (r 15), .ref (r 16), .ref (r 17), vI (g_pl G), .ref (r 19), vI (g_ik G), vL (g_ks G), .ref (r 22), vL (g_ss G), .ref (r 24), vI (g_fa G), vI (g_iw G), vI (g_nw G), vI (g_ns G), vI (g_ne G), .ref (r 30), .ref (r 31), .ref (r 32), .ref (r 33), vL (g_h G)]), ((r 1), aI (Y 0) 7 (ms_h S)), ((r 0), aI (Y 0) 420 (ms_m S)), ((r 24), aI (Y 0) 432 v)]) (fun l => m_isCustom l D Y _ h r S G b (List.mem_append_left _ (List.mem_of_getElem? (i := 0) rfl)) (by first | assumption | omega) (by first | assumption | omega)) rfl rfl rfl rfl (by decide) rfl (Or.inr (List.mem_append_left _ (List.mem_of_getElem? (i := 0) rfl))) rfl gX10_unlike_X10_isCustom ⟨rfl, by decide +kernel⟩ (by decide) rfl rfl (Nat.le_of_ble_eq_true rfl) (by decide) dX10_unlike_10 (fun e_5 w_6 h_7 => ?_)
    obtain ⟨rfl, rfl⟩ := h_7
    refine j_perm (ws' := [(h, oC 9 [.ref (r 0), .ref (r 1), vI (ms_w S), vI (ms_l S), vL (ms_s S), vI (ms_a S), vI (ms_t S), vI (ms_p S), vI (g_np G), .ref (r 9), .ref (r 10), .ref (r 11), .ref (r 12), .ref (r 13), vI (g_nc G), .ref (r 15), .ref (r 16), .ref (r 17), vI (g_pl G), .ref (r 19), vI (g_ik G), vL (g_ks G), .ref (r 22), vL (g_ss G), .ref (r 24), vI (g_fa G), vI (g_iw G), vI (g_nw G), vI (g_ns G), vI (g_ne G), .ref (r 30), .ref (r 31), .ref (r 32), .ref (r 33), vL (g_h G)]), ((r 1), aI (Y 0) 7 (ms_h S)), ((r 0), aI (Y 0) 420 (ms_m S)), ((r 24), aI (Y 0) 432 v)]) [0, 1, 2, 3] rfl rfl ?_
    refine j_if_neb (pc := 13) C 19 rfl dX10_unlike_13 (fun h_8p13 => ?_) (fun h_8p13 => ?_)
    · skip
      refine j_iload_n (pc := 19) C 3 3 rfl rfl dX10_unlike_19 ?_
      refine j_iconst (pc := 20) C dX10_unlike_20 ?_
      refine j_bipush (pc := 21) (w := 60) C rfl dX10_unlike_21 ?_
      refine j_callSi (pc := 23) (As := [vI n, vI 0, vI 60]) (na := 3) (st := []) C [] [0, 1, 2, 3] (wr := [(h, oC 9 [.ref (r 0), .ref (r 1), vI (ms_w S), vI (ms_l S), vL (ms_s S), vI (ms_a S), vI (ms_t S), vI (ms_p S), vI (g_np G), .ref (r 9), .ref (r 10), .ref (r 11), .ref (r 12), .ref (r 13), vI (g_nc G), .ref (r 15), .ref (r 16), .ref (r 17), vI (g_pl G), .ref (r 19), vI (g_ik G), vL (g_ks G), .ref (r 22), vL (g_ss G), .ref (r 24), vI (g_fa G), vI (g_iw G), vI (g_nw G), vI (g_ns G), vI (g_ne G), .ref (r 30), .ref (r 31), .ref (r 32), .ref (r 33), vL (g_h G)]), ((r 1), aI (Y 0) 7 (ms_h S)), ((r 0), aI (Y 0) 420 (ms_m S)), ((r 24), aI (Y 0) 432 v)]) (fun l => m_within l D Y _ n 0 60 (by first | assumption | omega) (by first | assumption | omega) (by first | assumption | omega)) rfl rfl rfl rfl (by decide) rfl gX10_unlike_X10_within (by decide +kernel) (by decide) rfl rfl (Nat.le_of_ble_eq_true rfl) (by decide) dX10_unlike_23 (fun e_9 w_10 h_11 => ?_)
      obtain ⟨rfl, rfl⟩ := h_11
      refine j_perm (ws' := [(h, oC 9 [.ref (r 0), .ref (r 1), vI (ms_w S), vI (ms_l S), vL (ms_s S), vI (ms_a S), vI (ms_t S), vI (ms_p S), vI (g_np G), .ref (r 9), .ref (r 10), .ref (r 11), .ref (r 12), .ref (r 13), vI (g_nc G), .ref (r 15), .ref (r 16), .ref (r 17), vI (g_pl G), .ref (r 19), vI (g_ik G), vL (g_ks G), .ref (r 22), vL (g_ss G), .ref (r 24), vI (g_fa G), vI (g_iw G), vI (g_nw G), vI (g_ns G), vI (g_ne G), .ref (r 30), .ref (r 31), .ref (r 32), .ref (r 33), vL (g_h G)]), ((r 1), aI (Y 0) 7 (ms_h S)), ((r 0), aI (Y 0) 420 (ms_m S)), ((r 24), aI (Y 0) 432 v)]) [0, 1, 2, 3] rfl rfl ?_
      refine j_if_neb (pc := 26) C 32 rfl dX10_unlike_26 (fun h_12p26 => ?_) (fun h_12p26 => ?_)
      · skip
        refine j_iconst (pc := 32) C dX10_unlike_32 ?_
        refine j_istore (pc := 33) (lc' := [(4, vI 0), (0, .ref h), (1, vI a), (2, vI b), (3, vI n)]) C (by decide) rfl dX10_unlike_33 ?_
        refine j_iconst (pc := 35) C dX10_unlike_35 ?_
        refine j_istore (pc := 36) (lc' := [(5, vI 0), (4, vI 0), (0, .ref h), (1, vI a), (2, vI b), (3, vI n)]) C (by decide) rfl dX10_unlike_36 ?_
        have hL38 : ∀ (N38 : Nat) (t : Int) (j : Int) (G2 : GS) (v2 : Int → Int), ((7 - j).toNat) < N38 → (0 ≤ j ∧ j ≤ 7) → (gEq G G2) → (t = fo (unlF (ms_h (weeksS (cs a) ps (g_np G) n S)) (ms_h (weeksS (cs b) ps (g_np G) n S))) j 0) → jW X 7 0 0 [(h, oC 9 [.ref (r 0), .ref (r 1), vI (ms_w S), vI (ms_l S), vL (ms_s S), vI (ms_a S), vI (ms_t S), vI (ms_p S), vI (g_np G2), .ref (r 9), .ref (r 10), .ref (r 11), .ref (r 12), .ref (r 13), vI (g_nc G2), .ref (r 15), .ref (r 16), .ref (r 17), vI (g_pl G2), .ref (r 19), vI (g_ik G2), vL (g_ks G2), .ref (r 22), vL (g_ss G2), .ref (r 24), vI (g_fa G2), vI (g_iw G2), vI (g_nw G2), vI (g_ns G2), vI (g_ne G2), .ref (r 30), .ref (r 31), .ref (r 32), .ref (r 33), vL (g_h G2)]), ((r 1), aI (Y 0) 7 (ms_h S)), ((r 0), aI (Y 0) 420 (ms_m S)), ((r 24), aI (Y 0) 432 v2)] [(0, .ref h), (1, vI a), (2, vI b), (3, vI n), (4, vI t), (5, vI j)] 38 [] := by
          intro N38
          induction N38 with
          | zero => intro t j G2 v2 hm38 i38_0 i38_1 i38_2; omega
          | succ N38 ih38 =>
            intro t j G2 v2 hm38 i38_0 i38_1 i38_2
            refine j_iload (pc := 38) C 5 rfl dX10_unlike_38 ?_
            refine j_bipush (pc := 40) (w := 7) C rfl dX10_unlike_40 ?_
            refine j_icmp_ge (pc := 42) C 88 rfl (by omega) dX10_unlike_42 (fun h_13p42 => ?_) (fun h_13p42 => ?_)
            · skip
              refine j_iload (pc := 88) C 4 rfl dX10_unlike_88 ?_
              exact Rt _ _ _ _ _ _ (by decide) (by decide) ⟨by unfold rUnlike; rw [if_neg (by omega), if_neg (by omega), i38_2, show j = 7 by omega], _, _, i38_1, rfl⟩ dX10_unlike_90
            · skip
              have hA := okS_weeks (C := cs a) (n := n) hS (hcs a (by omega)) hps hnp (by omega)
              have hB := okS_weeks (C := cs b) (n := n) hS (hcs b (by omega)) hps hnp (by omega)
              have f1 := hA.1.1 j (by omega)
              have f2 := hB.1.1 j (by omega)
              have eA : ms_h (weeksS (cs a) ps (g_np G2) n S) j = ms_h (weeksS (cs a) ps (g_np G) n S) j := by rw [i38_1.1]
              have eB : ms_h (weeksS (cs b) ps (g_np (gSS G2 (ms_s S))) n S) j = ms_h (weeksS (cs b) ps (g_np G) n S) j := by { show ms_h (weeksS (cs b) ps (g_np G2) n S) j = _; rw [i38_1.1] }
              rw [← eA] at f1
              rw [← eB] at f2
              refine j_aload_n (pc := 45) C 0 0 rfl rfl dX10_unlike_45 ?_
              refine j_iload_n (pc := 46) C 1 1 rfl rfl dX10_unlike_46 ?_
              refine j_iload (pc := 47) C 5 rfl dX10_unlike_47 ?_
              refine j_iload_n (pc := 49) C 3 3 rfl rfl dX10_unlike_49 ?_
              refine j_callVi (pc := 50) (As := [vI a, vI j, vI n]) (na := 3) (st := []) C [0, 1, 2, 3] [] (wr := []) (fun l => m_wouldOf l D Y _ h r S G2 cs ps v2 a j n (List.mem_append_right _ k0) (List.mem_append_right _ k1) (List.mem_append_right _ k2) (List.mem_append_right _ k3) (List.mem_append_right _ k4) (List.mem_append_right _ q0) (List.mem_append_right _ q1) (List.mem_append_right _ q2) hS (by first | assumption | omega) (by first | exact hnp | (rw [i38_1.1]; exact hnp)) (by rw [i38_1.1]; exact hps) (by rw [i38_1.2.1]; exact hnc) (by rw [i38_1.2.1]; exact hcs) (by rw [i38_1.2.1]; omega) (by first | assumption | omega) (by first | assumption | omega)) rfl rfl rfl rfl (by decide) rfl (Or.inl (List.mem_of_getElem? (i := 0) rfl)) rfl gX10_unlike_X10_wouldOf ⟨rfl, by decide +kernel⟩ (by decide) rfl rfl (Nat.le_of_ble_eq_true rfl) (by decide) dX10_unlike_50 (fun e_14 w_15 h_16 => ?_)
              obtain ⟨rfl, rfl⟩ := h_16
              refine j_perm (ws' := [(h, oC 9 [.ref (r 0), .ref (r 1), vI (ms_w S), vI (ms_l S), vL (ms_s S), vI (ms_a S), vI (ms_t S), vI (ms_p S), vI (g_np (gSS G2 (ms_s S))), .ref (r 9), .ref (r 10), .ref (r 11), .ref (r 12), .ref (r 13), vI (g_nc (gSS G2 (ms_s S))), .ref (r 15), .ref (r 16), .ref (r 17), vI (g_pl (gSS G2 (ms_s S))), .ref (r 19), vI (g_ik (gSS G2 (ms_s S))), vL (g_ks (gSS G2 (ms_s S))), .ref (r 22), vL (g_ss (gSS G2 (ms_s S))), .ref (r 24), vI (g_fa (gSS G2 (ms_s S))), vI (g_iw (gSS G2 (ms_s S))), vI (g_nw (gSS G2 (ms_s S))), vI (g_ns (gSS G2 (ms_s S))), vI (g_ne (gSS G2 (ms_s S))), .ref (r 30), .ref (r 31), .ref (r 32), .ref (r 33), vL (g_h (gSS G2 (ms_s S)))]), ((r 1), aI (Y 0) 7 (ms_h S)), ((r 0), aI (Y 0) 420 (ms_m S)), ((r 24), aI (Y 0) 432 (packS S))]) [0, 1, 2, 3] rfl rfl ?_
              refine j_aload_n (pc := 53) C 0 0 rfl rfl dX10_unlike_53 ?_
              refine j_iload_n (pc := 54) C 2 2 rfl rfl dX10_unlike_54 ?_
              refine j_iload (pc := 55) C 5 rfl dX10_unlike_55 ?_
              refine j_iload_n (pc := 57) C 3 3 rfl rfl dX10_unlike_57 ?_
              refine j_callVi (pc := 58) (As := [vI b, vI j, vI n]) (na := 3) (st := [vI (ms_h (weeksS (cs a) ps (g_np G2) n S) j)]) C [0, 1, 2, 3] [] (wr := []) (fun l => m_wouldOf l D Y _ h r S (gSS G2 (ms_s S)) cs ps (packS S) b j n (List.mem_append_right _ k0) (List.mem_append_right _ k1) (List.mem_append_right _ k2) (List.mem_append_right _ k3) (List.mem_append_right _ k4) (List.mem_append_right _ q0) (List.mem_append_right _ q1) (List.mem_append_right _ q2) hS (by first | assumption | omega) (show 0 ≤ g_np G2 ∧ g_np G2 ≤ 6 from by rw [i38_1.1]; exact hnp) (show ∀ i, 0 ≤ i ∧ i < g_np G2 → okP (ps i) from by rw [i38_1.1]; exact hps) (show 0 ≤ g_nc G2 ∧ g_nc G2 ≤ 4 from by rw [i38_1.2.1]; exact hnc) (show ∀ i, 0 ≤ i ∧ i < g_nc G2 → okC (cs i) from by rw [i38_1.2.1]; exact hcs) (show 0 ≤ b ∧ b < g_nc G2 from by rw [i38_1.2.1]; omega) (by first | assumption | omega) (by first | assumption | omega)) rfl rfl rfl rfl (by decide) rfl (Or.inl (List.mem_of_getElem? (i := 0) rfl)) rfl gX10_unlike_X10_wouldOf ⟨rfl, by decide +kernel⟩ (by decide) rfl rfl (Nat.le_of_ble_eq_true rfl) (by decide) dX10_unlike_58 (fun e_17 w_18 h_19 => ?_)
              obtain ⟨rfl, rfl⟩ := h_19
              refine j_perm (ws' := [(h, oC 9 [.ref (r 0), .ref (r 1), vI (ms_w S), vI (ms_l S), vL (ms_s S), vI (ms_a S), vI (ms_t S), vI (ms_p S), vI (g_np (gSS (gSS G2 (ms_s S)) (ms_s S))), .ref (r 9), .ref (r 10), .ref (r 11), .ref (r 12), .ref (r 13), vI (g_nc (gSS (gSS G2 (ms_s S)) (ms_s S))), .ref (r 15), .ref (r 16), .ref (r 17), vI (g_pl (gSS (gSS G2 (ms_s S)) (ms_s S))), .ref (r 19), vI (g_ik (gSS (gSS G2 (ms_s S)) (ms_s S))), vL (g_ks (gSS (gSS G2 (ms_s S)) (ms_s S))), .ref (r 22), vL (g_ss (gSS (gSS G2 (ms_s S)) (ms_s S))), .ref (r 24), vI (g_fa (gSS (gSS G2 (ms_s S)) (ms_s S))), vI (g_iw (gSS (gSS G2 (ms_s S)) (ms_s S))), vI (g_nw (gSS (gSS G2 (ms_s S)) (ms_s S))), vI (g_ns (gSS (gSS G2 (ms_s S)) (ms_s S))), vI (g_ne (gSS (gSS G2 (ms_s S)) (ms_s S))), .ref (r 30), .ref (r 31), .ref (r 32), .ref (r 33), vL (g_h (gSS (gSS G2 (ms_s S)) (ms_s S)))]), ((r 1), aI (Y 0) 7 (ms_h S)), ((r 0), aI (Y 0) 420 (ms_m S)), ((r 24), aI (Y 0) 432 (packS S))]) [0, 1, 2, 3] rfl rfl ?_
              refine j_isub (pc := 61) C dX10_unlike_61 ?_
              refine j_istore (pc := 62) (lc' := [(6, vI (ms_h (weeksS (cs a) ps (g_np G2) n S) j - ms_h (weeksS (cs b) ps (g_np (gSS G2 (ms_s S))) n S) j)), (0, .ref h), (1, vI a), (2, vI b), (3, vI n), (4, vI t), (5, vI j)]) C (by decide) rfl dX10_unlike_62 ?_
              refine j_iload (pc := 64) C 5 rfl dX10_unlike_64 ?_
              refine j_iload (pc := 66) C 0 rfl dX10_unlike_66 ?_
              refine j_if_ge (pc := 68) C 77 rfl (by omega) dX10_unlike_68 (fun h_20p68 => ?_) (fun h_20p68 => ?_)
              · skip
                refine j_iload (pc := 77) C 0 rfl dX10_unlike_77 ?_
                refine j_iadd (pc := 79) C dX10_unlike_79 ?_
                refine j_istore (pc := 80) (lc' := [(4, vI (t + (ms_h (weeksS (cs a) ps (g_np G2) n S) j - ms_h (weeksS (cs b) ps (g_np (gSS G2 (ms_s S))) n S) j))), (6, vI (ms_h (weeksS (cs a) ps (g_np G2) n S) j - ms_h (weeksS (cs b) ps (g_np (gSS G2 (ms_s S))) n S) j)), (0, .ref h), (1, vI a), (2, vI b), (3, vI n), (5, vI j)]) C (by decide) rfl dX10_unlike_80 ?_
                refine j_iinc (pc := 82) (lc' := [(5, vI (j + 1)), (4, vI (t + (ms_h (weeksS (cs a) ps (g_np G2) n S) j - ms_h (weeksS (cs b) ps (g_np (gSS G2 (ms_s S))) n S) j))), (6, vI (ms_h (weeksS (cs a) ps (g_np G2) n S) j - ms_h (weeksS (cs b) ps (g_np (gSS G2 (ms_s S))) n S) j)), (0, .ref h), (1, vI a), (2, vI b), (3, vI n)]) C 6 rfl (by decide) rfl dX10_unlike_82 ?_
                refine j_goto (pc := 85) C 38 rfl dX10_unlike_85 ?_
                refine j_locals (lc' := [(0, .ref h), (1, vI a), (2, vI b), (3, vI n), (4, vI (t + (ms_h (weeksS (cs a) ps (g_np G2) n S) j - ms_h (weeksS (cs b) ps (g_np (gSS G2 (ms_s S))) n S) j))), (5, vI (j + 1))]) [3, 4, 5, 6, 1, 0] rfl ?_
                exact ih38 (t + (ms_h (weeksS (cs a) ps (g_np G2) n S) j - ms_h (weeksS (cs b) ps (g_np (gSS G2 (ms_s S))) n S) j)) (j + 1) (gSS (gSS G2 (ms_s S)) (ms_s S)) (packS S) (by omega) (by omega) (i38_1.tr (gEq.ss _ _)) (by rw [fo_succ _ (by omega), ← i38_2]; unfold unlF absI; rw [← eA, ← eB]; first | rw [if_pos (by omega)] | (rw [if_neg (by omega)]))
              · skip
                refine j_iload (pc := 71) C 0 rfl dX10_unlike_71 ?_
                refine j_ineg (pc := 73) C dX10_unlike_73 ?_
                refine j_goto (pc := 74) C 79 rfl dX10_unlike_74 ?_
                refine j_iadd (pc := 79) C dX10_unlike_79 ?_
                refine j_istore (pc := 80) (lc' := [(4, vI (t + (-(ms_h (weeksS (cs a) ps (g_np G2) n S) j - ms_h (weeksS (cs b) ps (g_np (gSS G2 (ms_s S))) n S) j)))), (6, vI (ms_h (weeksS (cs a) ps (g_np G2) n S) j - ms_h (weeksS (cs b) ps (g_np (gSS G2 (ms_s S))) n S) j)), (0, .ref h), (1, vI a), (2, vI b), (3, vI n), (5, vI j)]) C (by decide) rfl dX10_unlike_80 ?_
                refine j_iinc (pc := 82) (lc' := [(5, vI (j + 1)), (4, vI (t + (-(ms_h (weeksS (cs a) ps (g_np G2) n S) j - ms_h (weeksS (cs b) ps (g_np (gSS G2 (ms_s S))) n S) j)))), (6, vI (ms_h (weeksS (cs a) ps (g_np G2) n S) j - ms_h (weeksS (cs b) ps (g_np (gSS G2 (ms_s S))) n S) j)), (0, .ref h), (1, vI a), (2, vI b), (3, vI n)]) C 6 rfl (by decide) rfl dX10_unlike_82 ?_
                refine j_goto (pc := 85) C 38 rfl dX10_unlike_85 ?_
                refine j_locals (lc' := [(0, .ref h), (1, vI a), (2, vI b), (3, vI n), (4, vI (t + (-(ms_h (weeksS (cs a) ps (g_np G2) n S) j - ms_h (weeksS (cs b) ps (g_np (gSS G2 (ms_s S))) n S) j)))), (5, vI (j + 1))]) [3, 4, 5, 6, 1, 0] rfl ?_
                exact ih38 (t + (-(ms_h (weeksS (cs a) ps (g_np G2) n S) j - ms_h (weeksS (cs b) ps (g_np (gSS G2 (ms_s S))) n S) j))) (j + 1) (gSS (gSS G2 (ms_s S)) (ms_s S)) (packS S) (by omega) (by omega) (i38_1.tr (gEq.ss _ _)) (by rw [fo_succ _ (by omega), ← i38_2]; unfold unlF absI; rw [← eA, ← eB]; first | rw [if_pos (by omega)] | (rw [if_neg (by omega)]))
        refine j_locals (lc' := [(0, .ref h), (1, vI a), (2, vI b), (3, vI n), (4, vI 0), (5, vI 0)]) [2, 3, 4, 5, 1, 0] rfl ?_
        exact hL38 _ 0 0 G v (Nat.lt_succ_self _) (by omega) (gEq.rf G) rfl
      · skip
        refine j_bipush (pc := 29) (w := (-102)) C rfl dX10_unlike_29 ?_
        exact Rt _ _ _ _ _ _ (by decide) (by decide) ⟨by unfold rUnlike; rw [if_neg (by omega), if_pos (by omega)], _, _, gEq.rf G, rfl⟩ dX10_unlike_31
    · skip
      refine j_bipush (pc := 16) (w := (-101)) C rfl dX10_unlike_16 ?_
      exact Rt _ _ _ _ _ _ (by decide) (by decide) ⟨by unfold rUnlike; rw [if_pos (by omega)], _, _, gEq.rf G, rfl⟩ dX10_unlike_18

theorem fX10_lie_X10 : ∀ w ∈ u_ws RX10 TX10 35, w ∈ wsX10_lie := j_words [13, 14, 15, 16, 17, 18, 19, 20, 21, 22, 23, 24, 25, 26, 27, 28, 29, 30, 31, 32, 33, 34, 35, 36, 37, 38, 39, 40, 41, 42, 43, 44, 45, 46, 47] (by decide +kernel)
set_option maxHeartbeats 4000000 in
set_option maxRecDepth 100000 in
theorem m_lie (l : Launch) (D : va_G) (Y : Nat → ClassId) (RO : va_W) (h : Nat) (r : Nat → Nat) (S : MS) (G : GS) (c : Int) (r0 : (h, oC 9 [.ref (r 0), .ref (r 1), vI (ms_w S), vI (ms_l S), vL (ms_s S), vI (ms_a S), vI (ms_t S), vI (ms_p S), vI (g_np G), .ref (r 9), .ref (r 10), .ref (r 11), .ref (r 12), .ref (r 13), vI (g_nc G), .ref (r 15), .ref (r 16), .ref (r 17), vI (g_pl G), .ref (r 19), vI (g_ik G), vL (g_ks G), .ref (r 22), vL (g_ss G), .ref (r 24), vI (g_fa G), vI (g_iw G), vI (g_nw G), vI (g_ns G), vI (g_ne G), .ref (r 30), .ref (r 31), .ref (r 32), .ref (r 33), vL (g_h G)]) ∈ RO) (r1 : ((r 1), aI (Y 0) 7 (ms_h S)) ∈ RO) (hS : okS S) (hc : -2147483648 ≤ c ∧ c ≤ 2147483647) : jMi l yX10_lie wsX10_lie { frames := 2, cells := 0, slots := 0, locals := 42 } D Y RO [.ref h, vI c] [] (fun e w1 => e = rLie c S ∧ w1 = []) := by
  refine j_ofi RX10 rfl rfl rfl (Nat.le_of_ble_eq_true rfl) (fun X C Rt => ?_)
  have hsum := sumI_in hS
  refine j_iload_n (pc := 0) C 1 1 rfl rfl dX10_lie_0 ?_
  refine j_callSi (pc := 1) (As := [vI c]) (na := 1) (st := []) C [] [] (wr := []) (fun l => m_isCairn l D Y _ c (by first | assumption | omega)) rfl rfl rfl rfl (by decide) rfl gX10_lie_X10_isCairn (by decide +kernel) (by decide) rfl rfl (Nat.le_of_ble_eq_true rfl) (by decide) dX10_lie_1 (fun e_1 w_2 h_3 => ?_)
  obtain ⟨rfl, rfl⟩ := h_3
  refine j_perm (ws' := []) [] rfl rfl ?_
  refine j_if_neb (pc := 4) C 10 rfl dX10_lie_4 (fun h_4p4 => ?_) (fun h_4p4 => ?_)
  · skip
    refine j_aload_n (pc := 10) C 0 0 rfl rfl dX10_lie_10 ?_
    refine j_callVi (pc := 11) (As := []) (na := 0) (st := []) C [] [] (wr := []) (fun l => m_pebbles l D Y _ h r S G (List.mem_append_right _ r0) (List.mem_append_right _ r1) ) rfl rfl rfl rfl (by decide) rfl (Or.inr (List.mem_append_right _ r0)) rfl gX10_lie_X10_pebbles ⟨rfl, by decide +kernel⟩ (by decide) rfl rfl (Nat.le_of_ble_eq_true rfl) (by decide) dX10_lie_11 (fun e_5 w_6 h_7 => ?_)
    obtain ⟨rfl, rfl⟩ := h_7
    refine j_perm (ws' := []) [] rfl rfl ?_
    refine j_aload_n (pc := 14) C 0 0 rfl rfl dX10_lie_14 ?_
    refine j_get (pc := 15) C (Or.inr r0) rfl fX10_lie_X10 1 (by decide) (List.mem_of_getElem? (i := 1) rfl) (Or.inl rfl) rfl dX10_lie_15 ?_
    refine j_iload_n (pc := 18) C 1 1 rfl rfl dX10_lie_18 ?_
    refine j_iald (pc := 19) C (Or.inr r1) rfl (by omega) (by decide) dX10_lie_19 ?_
    have f_8 := hS.1 c (by omega)
    refine j_isub (pc := 20) C dX10_lie_20 ?_
    refine j_istore_n (pc := 21) (lc' := [(2, vI (sumI (ms_h S) 7 - ms_h S c)), (0, .ref h), (1, vI c)]) C 2 rfl (by decide) rfl dX10_lie_21 ?_
    have hge := sumI_ge hS (c := c) (by omega)
    have hcc := hS.1 c (by omega)
    refine j_iconst (pc := 22) C dX10_lie_22 ?_
    refine j_istore_n (pc := 23) (lc' := [(3, vI 0), (2, vI (sumI (ms_h S) 7 - ms_h S c)), (0, .ref h), (1, vI c)]) C 3 rfl (by decide) rfl dX10_lie_23 ?_
    have hL24 : ∀ (N24 : Nat) (x : Int), ((sumI (ms_h S) 7 - ms_h S c + 1 - x).toNat) < N24 → (0 ≤ x ∧ x ≤ sumI (ms_h S) 7 - ms_h S c + 1) → (fstI (fun x => surI (ms_h S) (ms_h S c + x - 1) c ≤ x) x = -1) → jW X 7 0 0 [] [(0, .ref h), (1, vI c), (2, vI (sumI (ms_h S) 7 - ms_h S c)), (3, vI x)] 24 [] := by
      intro N24
      induction N24 with
      | zero => intro x hm24 i24_0 i24_1; omega
      | succ N24 ih24 =>
        intro x hm24 i24_0 i24_1
        refine j_iload_n (pc := 24) C 3 3 rfl rfl dX10_lie_24 ?_
        refine j_iload_n (pc := 25) C 2 2 rfl rfl dX10_lie_25 ?_
        refine j_icmp_gt (pc := 26) C 115 rfl (by omega) dX10_lie_26 (fun h_9p26 => ?_) (fun h_9p26 => ?_)
        · skip
          refine j_iconst (pc := 115) C dX10_lie_115 ?_
          exact Rt _ _ _ _ _ _ (by decide) (by decide) ⟨by unfold rLie; rw [if_neg (by omega)]; rw [show sumI (ms_h S) 7 - ms_h S c + 1 = x by omega]; exact i24_1.symm, rfl⟩ dX10_lie_116
        · skip
          refine j_iconst (pc := 29) C dX10_lie_29 ?_
          refine j_istore (pc := 30) (lc' := [(4, vI 0), (0, .ref h), (1, vI c), (2, vI (sumI (ms_h S) 7 - ms_h S c)), (3, vI x)]) C (by decide) rfl dX10_lie_30 ?_
          refine j_iconst (pc := 32) C dX10_lie_32 ?_
          refine j_istore (pc := 33) (lc' := [(5, vI 0), (4, vI 0), (0, .ref h), (1, vI c), (2, vI (sumI (ms_h S) 7 - ms_h S c)), (3, vI x)]) C (by decide) rfl dX10_lie_33 ?_
          have hL35 : ∀ (N35 : Nat) (b : Int) (i : Int), ((7 - i).toNat) < N35 → (0 ≤ i ∧ i ≤ 7) → (b = fo (surF (ms_h S) (ms_h S c + x - 1) c) i 0 ∧ 0 ≤ b ∧ b ≤ 1000 * i) → jW X 7 0 0 [] [(0, .ref h), (1, vI c), (2, vI (sumI (ms_h S) 7 - ms_h S c)), (3, vI x), (4, vI b), (5, vI i)] 35 [] := by
            intro N35
            induction N35 with
            | zero => intro b i hm35 i35_0 i35_1; omega
            | succ N35 ih35 =>
              intro b i hm35 i35_0 i35_1
              refine j_iload (pc := 35) C 5 rfl dX10_lie_35 ?_
              refine j_bipush (pc := 37) (w := 7) C rfl dX10_lie_37 ?_
              refine j_icmp_ge (pc := 39) C 90 rfl (by omega) dX10_lie_39 (fun h_10p39 => ?_) (fun h_10p39 => ?_)
              · skip
                have eb : b = surI (ms_h S) (ms_h S c + x - 1) c := by { rw [i35_1.1, show i = 7 by omega]; rfl }
                refine j_iload (pc := 90) C 4 rfl dX10_lie_90 ?_
                refine j_iload_n (pc := 92) C 3 3 rfl rfl dX10_lie_92 ?_
                refine j_icmp_gt (pc := 93) C 109 rfl (by omega) dX10_lie_93 (fun h_11p93 => ?_) (fun h_11p93 => ?_)
                · skip
                  refine j_iinc (pc := 109) (lc' := [(3, vI (x + 1)), (0, .ref h), (1, vI c), (2, vI (sumI (ms_h S) 7 - ms_h S c)), (4, vI b), (5, vI i)]) C 3 rfl (by decide) rfl dX10_lie_109 ?_
                  refine j_goto (pc := 112) C 24 rfl dX10_lie_112 ?_
                  refine j_locals (lc' := [(0, .ref h), (1, vI c), (2, vI (sumI (ms_h S) 7 - ms_h S c)), (3, vI (x + 1))]) [1, 2, 3, 0] rfl ?_
                  exact ih24 (x + 1) (by omega) (by omega) (fst_step (P := (fun x => surI (ms_h S) (ms_h S c + x - 1) c ≤ x)) (by omega) i24_1 (by (try dsimp only); rw [← eb]; first | omega | (have := sur_pos hS (lv := ms_h S c + x - 1) (c := c) (by omega) (by omega); rw [← eb] at this; omega)))
                · skip
                  refine j_aload_n (pc := 96) C 0 0 rfl rfl dX10_lie_96 ?_
                  refine j_get (pc := 97) C (Or.inr r0) rfl fX10_lie_X10 1 (by decide) (List.mem_of_getElem? (i := 1) rfl) (Or.inl rfl) rfl dX10_lie_97 ?_
                  refine j_iload_n (pc := 100) C 1 1 rfl rfl dX10_lie_100 ?_
                  refine j_iald (pc := 101) C (Or.inr r1) rfl (by omega) (by decide) dX10_lie_101 ?_
                  have f_12 := hS.1 c (by omega)
                  refine j_iload_n (pc := 102) C 3 3 rfl rfl dX10_lie_102 ?_
                  refine j_iadd (pc := 103) C dX10_lie_103 ?_
                  refine j_if_le (pc := 104) C 109 rfl (by omega) dX10_lie_104 (fun h_13p104 => ?_) (fun h_13p104 => ?_)
                  · skip
                    refine j_iinc (pc := 109) (lc' := [(3, vI (x + 1)), (0, .ref h), (1, vI c), (2, vI (sumI (ms_h S) 7 - ms_h S c)), (4, vI b), (5, vI i)]) C 3 rfl (by decide) rfl dX10_lie_109 ?_
                    refine j_goto (pc := 112) C 24 rfl dX10_lie_112 ?_
                    refine j_locals (lc' := [(0, .ref h), (1, vI c), (2, vI (sumI (ms_h S) 7 - ms_h S c)), (3, vI (x + 1))]) [1, 2, 3, 0] rfl ?_
                    exact ih24 (x + 1) (by omega) (by omega) (fst_step (P := (fun x => surI (ms_h S) (ms_h S c + x - 1) c ≤ x)) (by omega) i24_1 (by (try dsimp only); rw [← eb]; first | omega | (have := sur_pos hS (lv := ms_h S c + x - 1) (c := c) (by omega) (by omega); rw [← eb] at this; omega)))
                  · skip
                    refine j_iload_n (pc := 107) C 3 3 rfl rfl dX10_lie_107 ?_
                    exact Rt _ _ _ _ _ _ (by decide) (by decide) ⟨by unfold rLie; rw [if_neg (by omega)]; exact (fst_hit (P := (fun x => surI (ms_h S) (ms_h S c + x - 1) c ≤ x)) (by omega) (by omega) i24_1 (by (try dsimp only); rw [← eb]; omega)).symm, rfl⟩ dX10_lie_108
              · skip
                refine j_aload_n (pc := 42) C 0 0 rfl rfl dX10_lie_42 ?_
                refine j_get (pc := 43) C (Or.inr r0) rfl fX10_lie_X10 1 (by decide) (List.mem_of_getElem? (i := 1) rfl) (Or.inl rfl) rfl dX10_lie_43 ?_
                refine j_iload (pc := 46) C 5 rfl dX10_lie_46 ?_
                refine j_iald (pc := 48) C (Or.inr r1) rfl (by omega) (by decide) dX10_lie_48 ?_
                have f_14 := hS.1 i (by omega)
                refine j_aload_n (pc := 49) C 0 0 rfl rfl dX10_lie_49 ?_
                refine j_get (pc := 50) C (Or.inr r0) rfl fX10_lie_X10 1 (by decide) (List.mem_of_getElem? (i := 1) rfl) (Or.inl rfl) rfl dX10_lie_50 ?_
                refine j_iload_n (pc := 53) C 1 1 rfl rfl dX10_lie_53 ?_
                refine j_iald (pc := 54) C (Or.inr r1) rfl (by omega) (by decide) dX10_lie_54 ?_
                have f_15 := hS.1 c (by omega)
                refine j_iload_n (pc := 55) C 3 3 rfl rfl dX10_lie_55 ?_
                refine j_iadd (pc := 56) C dX10_lie_56 ?_
                refine j_iconst (pc := 57) C dX10_lie_57 ?_
                refine j_isub (pc := 58) C dX10_lie_58 ?_
                refine j_isub (pc := 59) C dX10_lie_59 ?_
                refine j_istore (pc := 60) (lc' := [(6, vI (ms_h S i - ((ms_h S c + x) - 1))), (0, .ref h), (1, vI c), (2, vI (sumI (ms_h S) 7 - ms_h S c)), (3, vI x), (4, vI b), (5, vI i)]) C (by decide) rfl dX10_lie_60 ?_
                refine j_iload (pc := 62) C 5 rfl dX10_lie_62 ?_
                refine j_iload (pc := 64) C 6 rfl dX10_lie_64 ?_
                refine j_iload_n (pc := 66) C 1 2 rfl rfl dX10_lie_66 ?_
                refine j_icmp_eq (pc := 67) C 80 rfl (by omega) dX10_lie_67 (fun h_16p67 => ?_) (fun h_16p67 => ?_)
                · skip
                  refine j_iconst (pc := 80) C dX10_lie_80 ?_
                  refine j_iadd (pc := 81) C dX10_lie_81 ?_
                  refine j_istore (pc := 82) (lc' := [(4, vI (b + 0)), (6, vI (ms_h S i - ((ms_h S c + x) - 1))), (0, .ref h), (1, vI c), (2, vI (sumI (ms_h S) 7 - ms_h S c)), (3, vI x), (5, vI i)]) C (by decide) rfl dX10_lie_82 ?_
                  refine j_iinc (pc := 84) (lc' := [(5, vI (i + 1)), (4, vI (b + 0)), (6, vI (ms_h S i - ((ms_h S c + x) - 1))), (0, .ref h), (1, vI c), (2, vI (sumI (ms_h S) 7 - ms_h S c)), (3, vI x)]) C 6 rfl (by decide) rfl dX10_lie_84 ?_
                  refine j_goto (pc := 87) C 35 rfl dX10_lie_87 ?_
                  refine j_locals (lc' := [(0, .ref h), (1, vI c), (2, vI (sumI (ms_h S) 7 - ms_h S c)), (3, vI x), (4, vI (b + 0)), (5, vI (i + 1))]) [3, 4, 5, 6, 1, 0] rfl ?_
                  exact ih35 (b + 0) (i + 1) (by omega) (by omega) ⟨by rw [fo_succ _ (by omega), ← i35_1.1]; unfold surF; first | rw [if_pos (by omega)] | (rw [if_neg (by omega)]; omega), by omega⟩
                · skip
                  refine j_iload (pc := 70) C 0 rfl dX10_lie_70 ?_
                  refine j_if_le (pc := 72) C 80 rfl (by omega) dX10_lie_72 (fun h_17p72 => ?_) (fun h_17p72 => ?_)
                  · skip
                    refine j_iconst (pc := 80) C dX10_lie_80 ?_
                    refine j_iadd (pc := 81) C dX10_lie_81 ?_
                    refine j_istore (pc := 82) (lc' := [(4, vI (b + 0)), (6, vI (ms_h S i - ((ms_h S c + x) - 1))), (0, .ref h), (1, vI c), (2, vI (sumI (ms_h S) 7 - ms_h S c)), (3, vI x), (5, vI i)]) C (by decide) rfl dX10_lie_82 ?_
                    refine j_iinc (pc := 84) (lc' := [(5, vI (i + 1)), (4, vI (b + 0)), (6, vI (ms_h S i - ((ms_h S c + x) - 1))), (0, .ref h), (1, vI c), (2, vI (sumI (ms_h S) 7 - ms_h S c)), (3, vI x)]) C 6 rfl (by decide) rfl dX10_lie_84 ?_
                    refine j_goto (pc := 87) C 35 rfl dX10_lie_87 ?_
                    refine j_locals (lc' := [(0, .ref h), (1, vI c), (2, vI (sumI (ms_h S) 7 - ms_h S c)), (3, vI x), (4, vI (b + 0)), (5, vI (i + 1))]) [3, 4, 5, 6, 1, 0] rfl ?_
                    exact ih35 (b + 0) (i + 1) (by omega) (by omega) ⟨by rw [fo_succ _ (by omega), ← i35_1.1]; unfold surF; first | rw [if_pos (by omega)] | (rw [if_neg (by omega)]; omega), by omega⟩
                  · skip
                    refine j_iload (pc := 75) C 0 rfl dX10_lie_75 ?_
                    refine j_goto (pc := 77) C 81 rfl dX10_lie_77 ?_
                    refine j_iadd (pc := 81) C dX10_lie_81 ?_
                    refine j_istore (pc := 82) (lc' := [(4, vI (b + (ms_h S i - ((ms_h S c + x) - 1)))), (6, vI (ms_h S i - ((ms_h S c + x) - 1))), (0, .ref h), (1, vI c), (2, vI (sumI (ms_h S) 7 - ms_h S c)), (3, vI x), (5, vI i)]) C (by decide) rfl dX10_lie_82 ?_
                    refine j_iinc (pc := 84) (lc' := [(5, vI (i + 1)), (4, vI (b + (ms_h S i - ((ms_h S c + x) - 1)))), (6, vI (ms_h S i - ((ms_h S c + x) - 1))), (0, .ref h), (1, vI c), (2, vI (sumI (ms_h S) 7 - ms_h S c)), (3, vI x)]) C 6 rfl (by decide) rfl dX10_lie_84 ?_
                    refine j_goto (pc := 87) C 35 rfl dX10_lie_87 ?_
                    refine j_locals (lc' := [(0, .ref h), (1, vI c), (2, vI (sumI (ms_h S) 7 - ms_h S c)), (3, vI x), (4, vI (b + (ms_h S i - ((ms_h S c + x) - 1)))), (5, vI (i + 1))]) [3, 4, 5, 6, 1, 0] rfl ?_
                    exact ih35 (b + (ms_h S i - ((ms_h S c + x) - 1))) (i + 1) (by omega) (by omega) ⟨by rw [fo_succ _ (by omega), ← i35_1.1]; unfold surF; first | rw [if_pos (by omega)] | (rw [if_neg (by omega)]; omega), by omega⟩
          refine j_locals (lc' := [(0, .ref h), (1, vI c), (2, vI (sumI (ms_h S) 7 - ms_h S c)), (3, vI x), (4, vI 0), (5, vI 0)]) [2, 3, 4, 5, 1, 0] rfl ?_
          exact hL35 _ 0 0 (Nat.lt_succ_self _) (by omega) ⟨rfl, by omega⟩
    refine j_locals (lc' := [(0, .ref h), (1, vI c), (2, vI (sumI (ms_h S) 7 - ms_h S c)), (3, vI 0)]) [2, 3, 1, 0] rfl ?_
    exact hL24 _ 0 (Nat.lt_succ_self _) (by omega) rfl
  · skip
    refine j_bipush (pc := 7) (w := (-101)) C rfl dX10_lie_7 ?_
    exact Rt _ _ _ _ _ _ (by decide) (by decide) ⟨by unfold rLie; rw [if_pos (by omega)], rfl⟩ dX10_lie_9

theorem fX10_image_X10 : ∀ w ∈ u_ws RX10 TX10 35, w ∈ wsX10_image := j_words [23, 24, 25, 26, 27, 28, 29, 30, 31, 32, 33, 34, 35, 36, 37, 38, 39, 40, 41, 42, 43, 44, 45, 46, 47, 48, 49, 50, 51, 52, 53, 54, 55, 56, 57] (by decide +kernel)
set_option maxHeartbeats 4000000 in
set_option maxRecDepth 100000 in
theorem m_image (l : Launch) (D : va_G) (Y : Nat → ClassId) (RO : va_W) (h : Nat) (r : Nat → Nat) (S : MS) (G : GS) (v : Int → Int) (kv : Int → Int) (r1 : ((r 1), aI (Y 0) 7 (ms_h S)) ∈ RO) (r2 : ((r 0), aI (Y 0) 420 (ms_m S)) ∈ RO)  : jMi l yX10_image wsX10_image { frames := 1, cells := 0, slots := 0, locals := 22 } D Y RO [.ref h] [(h, oC 9 [.ref (r 0), .ref (r 1), vI (ms_w S), vI (ms_l S), vL (ms_s S), vI (ms_a S), vI (ms_t S), vI (ms_p S), vI (g_np G), .ref (r 9), .ref (r 10), .ref (r 11), .ref (r 12), .ref (r 13), vI (g_nc G), .ref (r 15), .ref (r 16), .ref (r 17), vI (g_pl G), .ref (r 19), vI (g_ik G), vL (g_ks G), .ref (r 22), vL (g_ss G), .ref (r 24), vI (g_fa G), vI (g_iw G), vI (g_nw G), vI (g_ns G), vI (g_ne G), .ref (r 30), .ref (r 31), .ref (r 32), .ref (r 33), vL (g_h G)]), ((r 24), aI (Y 0) 432 v), ((r 22), aI (Y 0) 432 kv)] (fun e w1 => e = sumI (ms_h S) 7 ∧ w1 = [(h, oC 9 [.ref (r 0), .ref (r 1), vI (ms_w S), vI (ms_l S), vL (ms_s S), vI (ms_a S), vI (ms_t S), vI (ms_p S), vI (g_np (gIM G (ms_s S))), .ref (r 9), .ref (r 10), .ref (r 11), .ref (r 12), .ref (r 13), vI (g_nc (gIM G (ms_s S))), .ref (r 15), .ref (r 16), .ref (r 17), vI (g_pl (gIM G (ms_s S))), .ref (r 19), vI (g_ik (gIM G (ms_s S))), vL (g_ks (gIM G (ms_s S))), .ref (r 22), vL (g_ss (gIM G (ms_s S))), .ref (r 24), vI (g_fa (gIM G (ms_s S))), vI (g_iw (gIM G (ms_s S))), vI (g_nw (gIM G (ms_s S))), vI (g_ns (gIM G (ms_s S))), vI (g_ne (gIM G (ms_s S))), .ref (r 30), .ref (r 31), .ref (r 32), .ref (r 33), vL (g_h (gIM G (ms_s S)))]), ((r 24), aI (Y 0) 432 (packS S)), ((r 22), aI (Y 0) 432 (packS S))]) := by
  refine j_ofi RX10 rfl rfl rfl (Nat.le_of_ble_eq_true rfl) (fun X C Rt => ?_)
  refine j_aload_n (pc := 0) C 0 0 rfl rfl dX10_image_0 ?_
  refine j_iconst (pc := 1) C dX10_image_1 ?_
  refine j_put (pc := 2) (ws' := [(h, oC 9 [.ref (r 0), .ref (r 1), vI (ms_w S), vI (ms_l S), vL (ms_s S), vI (ms_a S), vI (ms_t S), vI (ms_p S), vI (g_np G), .ref (r 9), .ref (r 10), .ref (r 11), .ref (r 12), .ref (r 13), vI (g_nc G), .ref (r 15), .ref (r 16), .ref (r 17), vI (g_pl G), .ref (r 19), vI 1, vL (g_ks G), .ref (r 22), vL (g_ss G), .ref (r 24), vI (g_fa G), vI (g_iw G), vI (g_nw G), vI (g_ns G), vI (g_ne G), .ref (r 30), .ref (r 31), .ref (r 32), .ref (r 33), vL (g_h G)]), ((r 24), aI (Y 0) 432 v), ((r 22), aI (Y 0) 432 kv)]) C 0 rfl rfl fX10_image_X10 tyX10_ok nmX10 20 (by decide) (List.mem_of_getElem? (i := 1) rfl) (Or.inl rfl) rfl rfl rfl rfl (Nat.le_of_ble_eq_true rfl) rfl dX10_image_2 ?_
  refine j_aload_n (pc := 5) C 0 0 rfl rfl dX10_image_5 ?_
  refine j_callVv (pc := 6) (As := []) (na := 0) (st := []) C [0, 1] [2] (wr := [((r 22), aI (Y 0) 432 kv)]) (fun l => m_save l D Y _ h r S (g_np G, g_nc G, g_pl G, 1, g_ks G, g_ss G, g_fa G, g_iw G, g_nw G, g_ns G, g_ne G, g_h G) v (List.mem_append_right _ r1) (List.mem_append_right _ r2) ) rfl rfl rfl rfl (by decide) rfl (Or.inl (List.mem_of_getElem? (i := 0) rfl)) rfl gX10_image_X10_save ⟨rfl, by decide +kernel⟩ (by decide) rfl rfl (Nat.le_of_ble_eq_true rfl) (by decide) dX10_image_6 (fun w_2 h_3 => ?_)
  subst h_3
  refine j_perm (ws' := [(h, oC 9 [.ref (r 0), .ref (r 1), vI (ms_w S), vI (ms_l S), vL (ms_s S), vI (ms_a S), vI (ms_t S), vI (ms_p S), vI (g_np (gSS (g_np G, g_nc G, g_pl G, 1, g_ks G, g_ss G, g_fa G, g_iw G, g_nw G, g_ns G, g_ne G, g_h G) (ms_s S))), .ref (r 9), .ref (r 10), .ref (r 11), .ref (r 12), .ref (r 13), vI (g_nc (gSS (g_np G, g_nc G, g_pl G, 1, g_ks G, g_ss G, g_fa G, g_iw G, g_nw G, g_ns G, g_ne G, g_h G) (ms_s S))), .ref (r 15), .ref (r 16), .ref (r 17), vI (g_pl (gSS (g_np G, g_nc G, g_pl G, 1, g_ks G, g_ss G, g_fa G, g_iw G, g_nw G, g_ns G, g_ne G, g_h G) (ms_s S))), .ref (r 19), vI (g_ik (gSS (g_np G, g_nc G, g_pl G, 1, g_ks G, g_ss G, g_fa G, g_iw G, g_nw G, g_ns G, g_ne G, g_h G) (ms_s S))), vL (g_ks (gSS (g_np G, g_nc G, g_pl G, 1, g_ks G, g_ss G, g_fa G, g_iw G, g_nw G, g_ns G, g_ne G, g_h G) (ms_s S))), .ref (r 22), vL (g_ss (gSS (g_np G, g_nc G, g_pl G, 1, g_ks G, g_ss G, g_fa G, g_iw G, g_nw G, g_ns G, g_ne G, g_h G) (ms_s S))), .ref (r 24), vI (g_fa (gSS (g_np G, g_nc G, g_pl G, 1, g_ks G, g_ss G, g_fa G, g_iw G, g_nw G, g_ns G, g_ne G, g_h G) (ms_s S))), vI (g_iw (gSS (g_np G, g_nc G, g_pl G, 1, g_ks G, g_ss G, g_fa G, g_iw G, g_nw G, g_ns G, g_ne G, g_h G) (ms_s S))), vI (g_nw (gSS (g_np G, g_nc G, g_pl G, 1, g_ks G, g_ss G, g_fa G, g_iw G, g_nw G, g_ns G, g_ne G, g_h G) (ms_s S))), vI (g_ns (gSS (g_np G, g_nc G, g_pl G, 1, g_ks G, g_ss G, g_fa G, g_iw G, g_nw G, g_ns G, g_ne G, g_h G) (ms_s S))), vI (g_ne (gSS (g_np G, g_nc G, g_pl G, 1, g_ks G, g_ss G, g_fa G, g_iw G, g_nw G, g_ns G, g_ne G, g_h G) (ms_s S))), .ref (r 30), .ref (r 31), .ref (r 32), .ref (r 33), vL (g_h (gSS (g_np G, g_nc G, g_pl G, 1, g_ks G, g_ss G, g_fa G, g_iw G, g_nw G, g_ns G, g_ne G, g_h G) (ms_s S)))]), ((r 24), aI (Y 0) 432 (packS S)), ((r 22), aI (Y 0) 432 kv)]) [1, 2, 0] rfl rfl ?_
  refine j_aload_n (pc := 9) C 0 0 rfl rfl dX10_image_9 ?_
  refine j_aload_n (pc := 10) C 0 0 rfl rfl dX10_image_10 ?_
  refine j_get (pc := 11) C (Or.inl (List.mem_of_getElem? (i := 0) rfl)) rfl fX10_image_X10 23 (by decide) (List.mem_of_getElem? (i := 2) rfl) (Or.inl rfl) rfl dX10_image_11 ?_
  refine j_put (pc := 14) (ws' := [(h, oC 9 [.ref (r 0), .ref (r 1), vI (ms_w S), vI (ms_l S), vL (ms_s S), vI (ms_a S), vI (ms_t S), vI (ms_p S), vI (g_np (gSS (g_np G, g_nc G, g_pl G, 1, g_ks G, g_ss G, g_fa G, g_iw G, g_nw G, g_ns G, g_ne G, g_h G) (ms_s S))), .ref (r 9), .ref (r 10), .ref (r 11), .ref (r 12), .ref (r 13), vI (g_nc (gSS (g_np G, g_nc G, g_pl G, 1, g_ks G, g_ss G, g_fa G, g_iw G, g_nw G, g_ns G, g_ne G, g_h G) (ms_s S))), .ref (r 15), .ref (r 16), .ref (r 17), vI (g_pl (gSS (g_np G, g_nc G, g_pl G, 1, g_ks G, g_ss G, g_fa G, g_iw G, g_nw G, g_ns G, g_ne G, g_h G) (ms_s S))), .ref (r 19), vI (g_ik (gSS (g_np G, g_nc G, g_pl G, 1, g_ks G, g_ss G, g_fa G, g_iw G, g_nw G, g_ns G, g_ne G, g_h G) (ms_s S))), vL (g_ss (gSS (g_np G, g_nc G, g_pl G, 1, g_ks G, g_ss G, g_fa G, g_iw G, g_nw G, g_ns G, g_ne G, g_h G) (ms_s S))), .ref (r 22), vL (g_ss (gSS (g_np G, g_nc G, g_pl G, 1, g_ks G, g_ss G, g_fa G, g_iw G, g_nw G, g_ns G, g_ne G, g_h G) (ms_s S))), .ref (r 24), vI (g_fa (gSS (g_np G, g_nc G, g_pl G, 1, g_ks G, g_ss G, g_fa G, g_iw G, g_nw G, g_ns G, g_ne G, g_h G) (ms_s S))), vI (g_iw (gSS (g_np G, g_nc G, g_pl G, 1, g_ks G, g_ss G, g_fa G, g_iw G, g_nw G, g_ns G, g_ne G, g_h G) (ms_s S))), vI (g_nw (gSS (g_np G, g_nc G, g_pl G, 1, g_ks G, g_ss G, g_fa G, g_iw G, g_nw G, g_ns G, g_ne G, g_h G) (ms_s S))), vI (g_ns (gSS (g_np G, g_nc G, g_pl G, 1, g_ks G, g_ss G, g_fa G, g_iw G, g_nw G, g_ns G, g_ne G, g_h G) (ms_s S))), vI (g_ne (gSS (g_np G, g_nc G, g_pl G, 1, g_ks G, g_ss G, g_fa G, g_iw G, g_nw G, g_ns G, g_ne G, g_h G) (ms_s S))), .ref (r 30), .ref (r 31), .ref (r 32), .ref (r 33), vL (g_h (gSS (g_np G, g_nc G, g_pl G, 1, g_ks G, g_ss G, g_fa G, g_iw G, g_nw G, g_ns G, g_ne G, g_h G) (ms_s S)))]), ((r 24), aI (Y 0) 432 (packS S)), ((r 22), aI (Y 0) 432 kv)]) C 0 rfl rfl fX10_image_X10 tyX10_ok nmX10 21 (by decide) (List.mem_of_getElem? (i := 3) rfl) (Or.inl rfl) rfl rfl rfl rfl (Nat.le_of_ble_eq_true rfl) rfl dX10_image_14 ?_
  refine j_iconst (pc := 17) C dX10_image_17 ?_
  refine j_istore_n (pc := 18) (lc' := [(1, vI 0), (0, .ref h)]) C 1 rfl (by decide) rfl dX10_image_18 ?_
  have hL19 : ∀ (N19 : Nat) (i : Int) (w : Int → Int), ((432 - i).toNat) < N19 → (0 ≤ i ∧ i ≤ 432) → (∀ j : Int, 0 ≤ j → j < i → w j = packS S j) → jW X 2 0 0 [(h, oC 9 [.ref (r 0), .ref (r 1), vI (ms_w S), vI (ms_l S), vL (ms_s S), vI (ms_a S), vI (ms_t S), vI (ms_p S), vI (g_np (gIM G (ms_s S))), .ref (r 9), .ref (r 10), .ref (r 11), .ref (r 12), .ref (r 13), vI (g_nc (gIM G (ms_s S))), .ref (r 15), .ref (r 16), .ref (r 17), vI (g_pl (gIM G (ms_s S))), .ref (r 19), vI (g_ik (gIM G (ms_s S))), vL (g_ks (gIM G (ms_s S))), .ref (r 22), vL (g_ss (gIM G (ms_s S))), .ref (r 24), vI (g_fa (gIM G (ms_s S))), vI (g_iw (gIM G (ms_s S))), vI (g_nw (gIM G (ms_s S))), vI (g_ns (gIM G (ms_s S))), vI (g_ne (gIM G (ms_s S))), .ref (r 30), .ref (r 31), .ref (r 32), .ref (r 33), vL (g_h (gIM G (ms_s S)))]), ((r 24), aI (Y 0) 432 (packS S)), ((r 22), aI (Y 0) 432 w)] [(0, .ref h), (1, vI i)] 19 [] := by
    intro N19
    induction N19 with
    | zero => intro i w hm19 i19_0 i19_1; omega
    | succ N19 ih19 =>
      intro i w hm19 i19_0 i19_1
      refine j_iload_n (pc := 19) C 1 1 rfl rfl dX10_image_19 ?_
      refine j_sipush (pc := 20) (w := 432) C rfl dX10_image_20 ?_
      refine j_icmp_ge (pc := 23) C 44 rfl (by omega) dX10_image_23 (fun h_4p23 => ?_) (fun h_4p23 => ?_)
      · skip
        refine j_ext (ws' := [(h, oC 9 [.ref (r 0), .ref (r 1), vI (ms_w S), vI (ms_l S), vL (ms_s S), vI (ms_a S), vI (ms_t S), vI (ms_p S), vI (g_np (gIM G (ms_s S))), .ref (r 9), .ref (r 10), .ref (r 11), .ref (r 12), .ref (r 13), vI (g_nc (gIM G (ms_s S))), .ref (r 15), .ref (r 16), .ref (r 17), vI (g_pl (gIM G (ms_s S))), .ref (r 19), vI (g_ik (gIM G (ms_s S))), vL (g_ks (gIM G (ms_s S))), .ref (r 22), vL (g_ss (gIM G (ms_s S))), .ref (r 24), vI (g_fa (gIM G (ms_s S))), vI (g_iw (gIM G (ms_s S))), vI (g_nw (gIM G (ms_s S))), vI (g_ns (gIM G (ms_s S))), vI (g_ne (gIM G (ms_s S))), .ref (r 30), .ref (r 31), .ref (r 32), .ref (r 33), vL (g_h (gIM G (ms_s S)))]), ((r 24), aI (Y 0) 432 (packS S)), ((r 22), aI (Y 0) 432 (packS S))]) 2 rfl (fun j hj => i19_1 j hj.1 (by omega)) rfl ?_
        refine j_aload_n (pc := 44) C 0 0 rfl rfl dX10_image_44 ?_
        refine j_callVi (pc := 45) (As := []) (na := 0) (st := []) C [] [0, 1, 2] (wr := [(h, oC 9 [.ref (r 0), .ref (r 1), vI (ms_w S), vI (ms_l S), vL (ms_s S), vI (ms_a S), vI (ms_t S), vI (ms_p S), vI (g_np (gIM G (ms_s S))), .ref (r 9), .ref (r 10), .ref (r 11), .ref (r 12), .ref (r 13), vI (g_nc (gIM G (ms_s S))), .ref (r 15), .ref (r 16), .ref (r 17), vI (g_pl (gIM G (ms_s S))), .ref (r 19), vI (g_ik (gIM G (ms_s S))), vL (g_ks (gIM G (ms_s S))), .ref (r 22), vL (g_ss (gIM G (ms_s S))), .ref (r 24), vI (g_fa (gIM G (ms_s S))), vI (g_iw (gIM G (ms_s S))), vI (g_nw (gIM G (ms_s S))), vI (g_ns (gIM G (ms_s S))), vI (g_ne (gIM G (ms_s S))), .ref (r 30), .ref (r 31), .ref (r 32), .ref (r 33), vL (g_h (gIM G (ms_s S)))]), ((r 24), aI (Y 0) 432 (packS S)), ((r 22), aI (Y 0) 432 (packS S))]) (fun l => m_pebbles l D Y _ h r S (gIM G (ms_s S)) (List.mem_append_left _ (List.mem_of_getElem? (i := 0) rfl)) (List.mem_append_right _ r1) ) rfl rfl rfl rfl (by decide) rfl (Or.inr (List.mem_append_left _ (List.mem_of_getElem? (i := 0) rfl))) rfl gX10_image_X10_pebbles ⟨rfl, by decide +kernel⟩ (by decide) rfl rfl (Nat.le_of_ble_eq_true rfl) (by decide) dX10_image_45 (fun e_5 w_6 h_7 => ?_)
        obtain ⟨rfl, rfl⟩ := h_7
        refine j_perm (ws' := [(h, oC 9 [.ref (r 0), .ref (r 1), vI (ms_w S), vI (ms_l S), vL (ms_s S), vI (ms_a S), vI (ms_t S), vI (ms_p S), vI (g_np (gIM G (ms_s S))), .ref (r 9), .ref (r 10), .ref (r 11), .ref (r 12), .ref (r 13), vI (g_nc (gIM G (ms_s S))), .ref (r 15), .ref (r 16), .ref (r 17), vI (g_pl (gIM G (ms_s S))), .ref (r 19), vI (g_ik (gIM G (ms_s S))), vL (g_ks (gIM G (ms_s S))), .ref (r 22), vL (g_ss (gIM G (ms_s S))), .ref (r 24), vI (g_fa (gIM G (ms_s S))), vI (g_iw (gIM G (ms_s S))), vI (g_nw (gIM G (ms_s S))), vI (g_ns (gIM G (ms_s S))), vI (g_ne (gIM G (ms_s S))), .ref (r 30), .ref (r 31), .ref (r 32), .ref (r 33), vL (g_h (gIM G (ms_s S)))]), ((r 24), aI (Y 0) 432 (packS S)), ((r 22), aI (Y 0) 432 (packS S))]) [0, 1, 2] rfl rfl ?_
        exact Rt _ _ _ _ _ _ (by decide) (by decide) ⟨rfl, rfl⟩ dX10_image_48
      · skip
        refine j_aload_n (pc := 26) C 0 0 rfl rfl dX10_image_26 ?_
        refine j_get (pc := 27) C (Or.inl (List.mem_of_getElem? (i := 0) rfl)) rfl fX10_image_X10 22 (by decide) (List.mem_of_getElem? (i := 4) rfl) (Or.inl rfl) rfl dX10_image_27 ?_
        refine j_iload_n (pc := 30) C 1 1 rfl rfl dX10_image_30 ?_
        refine j_aload_n (pc := 31) C 0 0 rfl rfl dX10_image_31 ?_
        refine j_get (pc := 32) C (Or.inl (List.mem_of_getElem? (i := 0) rfl)) rfl fX10_image_X10 24 (by decide) (List.mem_of_getElem? (i := 5) rfl) (Or.inl rfl) rfl dX10_image_32 ?_
        refine j_iload_n (pc := 35) C 1 1 rfl rfl dX10_image_35 ?_
        refine j_iald (pc := 36) C (Or.inl (List.mem_of_getElem? (i := 1) rfl)) rfl (by omega) (by decide) dX10_image_36 ?_
        refine j_iast (pc := 37) (ws' := [(h, oC 9 [.ref (r 0), .ref (r 1), vI (ms_w S), vI (ms_l S), vL (ms_s S), vI (ms_a S), vI (ms_t S), vI (ms_p S), vI (g_np (gIM G (ms_s S))), .ref (r 9), .ref (r 10), .ref (r 11), .ref (r 12), .ref (r 13), vI (g_nc (gIM G (ms_s S))), .ref (r 15), .ref (r 16), .ref (r 17), vI (g_pl (gIM G (ms_s S))), .ref (r 19), vI (g_ik (gIM G (ms_s S))), vL (g_ks (gIM G (ms_s S))), .ref (r 22), vL (g_ss (gIM G (ms_s S))), .ref (r 24), vI (g_fa (gIM G (ms_s S))), vI (g_iw (gIM G (ms_s S))), vI (g_nw (gIM G (ms_s S))), vI (g_ns (gIM G (ms_s S))), vI (g_ne (gIM G (ms_s S))), .ref (r 30), .ref (r 31), .ref (r 32), .ref (r 33), vL (g_h (gIM G (ms_s S)))]), ((r 24), aI (Y 0) 432 (packS S)), ((r 22), aI (Y 0) 432 (up w i (packS S i)))]) C 2 rfl rfl (by omega) (by decide) rfl dX10_image_37 ?_
        refine j_iinc (pc := 38) (lc' := [(1, vI (i + 1)), (0, .ref h)]) C 1 rfl (by decide) rfl dX10_image_38 ?_
        refine j_goto (pc := 41) C 19 rfl dX10_image_41 ?_
        refine j_locals (lc' := [(0, .ref h), (1, vI (i + 1))]) [1, 0] rfl ?_
        exact ih19 (i + 1) (up w i (packS S i)) (by omega) (by omega) (up_agree i19_1)
  refine j_locals (lc' := [(0, .ref h), (1, vI 0)]) [1, 0] rfl ?_
  exact hL19 _ 0 kv (Nat.lt_succ_self _) (by omega) (fun j h0 h1 => by omega)

theorem fX10_restore_X10 : ∀ w ∈ u_ws RX10 TX10 35, w ∈ wsX10_restore := j_words [23, 24, 25, 26, 27, 28, 29, 30, 31, 32, 33, 34, 35, 36, 37, 38, 39, 40, 41, 42, 43, 44, 45, 46, 47, 48, 49, 50, 51, 52, 53, 54, 55, 56, 57] (by decide +kernel)
set_option maxHeartbeats 4000000 in
set_option maxRecDepth 100000 in
theorem m_restore (l : Launch) (D : va_G) (Y : Nat → ClassId) (RO : va_W) (h : Nat) (r : Nat → Nat) (S : MS) (T : MS) (G : GS) (v : Int → Int) (kv : Int → Int) (rk : ((r 22), aI (Y 0) 432 kv) ∈ RO) (hik : 0 ≤ g_ik G ∧ g_ik G ≤ 1) (hk : g_ik G = 1 → kv = packS T ∧ g_ks G = ms_s T) : jMi l yX10_restore wsX10_restore { frames := 1, cells := 0, slots := 0, locals := 22 } D Y RO [.ref h] [(h, oC 9 [.ref (r 0), .ref (r 1), vI (ms_w S), vI (ms_l S), vL (ms_s S), vI (ms_a S), vI (ms_t S), vI (ms_p S), vI (g_np G), .ref (r 9), .ref (r 10), .ref (r 11), .ref (r 12), .ref (r 13), vI (g_nc G), .ref (r 15), .ref (r 16), .ref (r 17), vI (g_pl G), .ref (r 19), vI (g_ik G), vL (g_ks G), .ref (r 22), vL (g_ss G), .ref (r 24), vI (g_fa G), vI (g_iw G), vI (g_nw G), vI (g_ns G), vI (g_ne G), .ref (r 30), .ref (r 31), .ref (r 32), .ref (r 33), vL (g_h G)]), ((r 1), aI (Y 0) 7 (ms_h S)), ((r 0), aI (Y 0) 420 (ms_m S)), ((r 24), aI (Y 0) 432 v)] (fun e w1 => e = rRestore (g_ik G) S T ∧ ∃ (G1 : GS) (v1 : Int → Int), gEq G G1 ∧ w1 = [(h, oC 9 [.ref (r 0), .ref (r 1), vI (ms_w ((sRestore (g_ik G) S T))), vI (ms_l ((sRestore (g_ik G) S T))), vL (ms_s ((sRestore (g_ik G) S T))), vI (ms_a ((sRestore (g_ik G) S T))), vI (ms_t ((sRestore (g_ik G) S T))), vI (ms_p ((sRestore (g_ik G) S T))), vI (g_np G1), .ref (r 9), .ref (r 10), .ref (r 11), .ref (r 12), .ref (r 13), vI (g_nc G1), .ref (r 15), .ref (r 16), .ref (r 17), vI (g_pl G1), .ref (r 19), vI (g_ik G1), vL (g_ks G1), .ref (r 22), vL (g_ss G1), .ref (r 24), vI (g_fa G1), vI (g_iw G1), vI (g_nw G1), vI (g_ns G1), vI (g_ne G1), .ref (r 30), .ref (r 31), .ref (r 32), .ref (r 33), vL (g_h G1)]), ((r 1), aI (Y 0) 7 (ms_h ((sRestore (g_ik G) S T)))), ((r 0), aI (Y 0) 420 (ms_m ((sRestore (g_ik G) S T)))), ((r 24), aI (Y 0) 432 v1)]) := by
  refine j_ofi RX10 rfl rfl rfl (Nat.le_of_ble_eq_true rfl) (fun X C Rt => ?_)
  refine j_aload_n (pc := 0) C 0 0 rfl rfl dX10_restore_0 ?_
  refine j_get (pc := 1) C (Or.inl (List.mem_of_getElem? (i := 0) rfl)) rfl fX10_restore_X10 20 (by decide) (List.mem_of_getElem? (i := 1) rfl) (Or.inl rfl) rfl dX10_restore_1 ?_
  refine j_if_ne (pc := 4) C 10 rfl (by omega) dX10_restore_4 (fun h_1p4 => ?_) (fun h_1p4 => ?_)
  · skip
    refine j_aload_n (pc := 10) C 0 0 rfl rfl dX10_restore_10 ?_
    refine j_aload_n (pc := 11) C 0 0 rfl rfl dX10_restore_11 ?_
    refine j_get (pc := 12) C (Or.inl (List.mem_of_getElem? (i := 0) rfl)) rfl fX10_restore_X10 21 (by decide) (List.mem_of_getElem? (i := 2) rfl) (Or.inl rfl) rfl dX10_restore_12 ?_
    refine j_put (pc := 15) (ws' := [(h, oC 9 [.ref (r 0), .ref (r 1), vI (ms_w S), vI (ms_l S), vL (ms_s S), vI (ms_a S), vI (ms_t S), vI (ms_p S), vI (g_np G), .ref (r 9), .ref (r 10), .ref (r 11), .ref (r 12), .ref (r 13), vI (g_nc G), .ref (r 15), .ref (r 16), .ref (r 17), vI (g_pl G), .ref (r 19), vI (g_ik G), vL (g_ks G), .ref (r 22), vL (g_ks G), .ref (r 24), vI (g_fa G), vI (g_iw G), vI (g_nw G), vI (g_ns G), vI (g_ne G), .ref (r 30), .ref (r 31), .ref (r 32), .ref (r 33), vL (g_h G)]), ((r 1), aI (Y 0) 7 (ms_h S)), ((r 0), aI (Y 0) 420 (ms_m S)), ((r 24), aI (Y 0) 432 v)]) C 0 rfl rfl fX10_restore_X10 tyX10_ok nmX10 23 (by decide) (List.mem_of_getElem? (i := 3) rfl) (Or.inl rfl) rfl rfl rfl rfl (Nat.le_of_ble_eq_true rfl) rfl dX10_restore_15 ?_
    refine j_iconst (pc := 18) C dX10_restore_18 ?_
    refine j_istore_n (pc := 19) (lc' := [(1, vI 0), (0, .ref h)]) C 1 rfl (by decide) rfl dX10_restore_19 ?_
    have hL20 : ∀ (N20 : Nat) (i : Int) (w : Int → Int), ((432 - i).toNat) < N20 → (0 ≤ i ∧ i ≤ 432) → (∀ j : Int, 0 ≤ j → j < i → w j = kv j) → jW X 2 0 0 [(h, oC 9 [.ref (r 0), .ref (r 1), vI (ms_w S), vI (ms_l S), vL (ms_s S), vI (ms_a S), vI (ms_t S), vI (ms_p S), vI (g_np (gSS G (g_ks G))), .ref (r 9), .ref (r 10), .ref (r 11), .ref (r 12), .ref (r 13), vI (g_nc (gSS G (g_ks G))), .ref (r 15), .ref (r 16), .ref (r 17), vI (g_pl (gSS G (g_ks G))), .ref (r 19), vI (g_ik (gSS G (g_ks G))), vL (g_ks (gSS G (g_ks G))), .ref (r 22), vL (g_ss (gSS G (g_ks G))), .ref (r 24), vI (g_fa (gSS G (g_ks G))), vI (g_iw (gSS G (g_ks G))), vI (g_nw (gSS G (g_ks G))), vI (g_ns (gSS G (g_ks G))), vI (g_ne (gSS G (g_ks G))), .ref (r 30), .ref (r 31), .ref (r 32), .ref (r 33), vL (g_h (gSS G (g_ks G)))]), ((r 1), aI (Y 0) 7 (ms_h S)), ((r 0), aI (Y 0) 420 (ms_m S)), ((r 24), aI (Y 0) 432 w)] [(0, .ref h), (1, vI i)] 20 [] := by
      intro N20
      induction N20 with
      | zero => intro i w hm20 i20_0 i20_1; omega
      | succ N20 ih20 =>
        intro i w hm20 i20_0 i20_1
        refine j_iload_n (pc := 20) C 1 1 rfl rfl dX10_restore_20 ?_
        refine j_sipush (pc := 21) (w := 432) C rfl dX10_restore_21 ?_
        refine j_icmp_ge (pc := 24) C 45 rfl (by omega) dX10_restore_24 (fun h_2p24 => ?_) (fun h_2p24 => ?_)
        · skip
          have hkk := hk (by omega)
          refine j_ext (ws' := [(h, oC 9 [.ref (r 0), .ref (r 1), vI (ms_w S), vI (ms_l S), vL (ms_s S), vI (ms_a S), vI (ms_t S), vI (ms_p S), vI (g_np (gSS G (g_ks G))), .ref (r 9), .ref (r 10), .ref (r 11), .ref (r 12), .ref (r 13), vI (g_nc (gSS G (g_ks G))), .ref (r 15), .ref (r 16), .ref (r 17), vI (g_pl (gSS G (g_ks G))), .ref (r 19), vI (g_ik (gSS G (g_ks G))), vL (g_ks (gSS G (g_ks G))), .ref (r 22), vL (g_ss (gSS G (g_ks G))), .ref (r 24), vI (g_fa (gSS G (g_ks G))), vI (g_iw (gSS G (g_ks G))), vI (g_nw (gSS G (g_ks G))), vI (g_ns (gSS G (g_ks G))), vI (g_ne (gSS G (g_ks G))), .ref (r 30), .ref (r 31), .ref (r 32), .ref (r 33), vL (g_h (gSS G (g_ks G)))]), ((r 1), aI (Y 0) 7 (ms_h S)), ((r 0), aI (Y 0) 420 (ms_m S)), ((r 24), aI (Y 0) 432 (packS T))]) 3 rfl (fun j hj => (i20_1 j hj.1 (by omega)).trans (by rw [hkk.1])) rfl ?_
          refine j_aload_n (pc := 45) C 0 0 rfl rfl dX10_restore_45 ?_
          refine j_callVv (pc := 46) (As := []) (na := 0) (st := []) C [0, 1, 2] [3] (wr := [((r 24), aI (Y 0) 432 (packS T))]) (fun l => m_back l D Y _ h r T S (gSS G (g_ks G)) (List.mem_append_left _ (List.mem_of_getElem? (i := 0) rfl)) hkk.2) rfl rfl rfl rfl (by decide) rfl (Or.inl (List.mem_of_getElem? (i := 0) rfl)) rfl gX10_restore_X10_back ⟨rfl, by decide +kernel⟩ (by decide) rfl rfl (Nat.le_of_ble_eq_true rfl) (by decide) dX10_restore_46 (fun w_4 h_5 => ?_)
          subst h_5
          refine j_perm (ws' := [(h, oC 9 [.ref (r 0), .ref (r 1), vI (ms_w T), vI (ms_l T), vL (ms_s T), vI (ms_a T), vI (ms_t T), vI (ms_p T), vI (g_np (gSS G (g_ks G))), .ref (r 9), .ref (r 10), .ref (r 11), .ref (r 12), .ref (r 13), vI (g_nc (gSS G (g_ks G))), .ref (r 15), .ref (r 16), .ref (r 17), vI (g_pl (gSS G (g_ks G))), .ref (r 19), vI (g_ik (gSS G (g_ks G))), vL (g_ks (gSS G (g_ks G))), .ref (r 22), vL (g_ss (gSS G (g_ks G))), .ref (r 24), vI (g_fa (gSS G (g_ks G))), vI (g_iw (gSS G (g_ks G))), vI (g_nw (gSS G (g_ks G))), vI (g_ns (gSS G (g_ks G))), vI (g_ne (gSS G (g_ks G))), .ref (r 30), .ref (r 31), .ref (r 32), .ref (r 33), vL (g_h (gSS G (g_ks G)))]), ((r 1), aI (Y 0) 7 (ms_h T)), ((r 0), aI (Y 0) 420 (ms_m T)), ((r 24), aI (Y 0) 432 (packS T))]) [1, 2, 3, 0] rfl rfl ?_
          refine j_aload_n (pc := 49) C 0 0 rfl rfl dX10_restore_49 ?_
          refine j_callVi (pc := 50) (As := []) (na := 0) (st := []) C [] [0, 1, 2, 3] (wr := [(h, oC 9 [.ref (r 0), .ref (r 1), vI (ms_w T), vI (ms_l T), vL (ms_s T), vI (ms_a T), vI (ms_t T), vI (ms_p T), vI (g_np (gSS G (g_ks G))), .ref (r 9), .ref (r 10), .ref (r 11), .ref (r 12), .ref (r 13), vI (g_nc (gSS G (g_ks G))), .ref (r 15), .ref (r 16), .ref (r 17), vI (g_pl (gSS G (g_ks G))), .ref (r 19), vI (g_ik (gSS G (g_ks G))), vL (g_ks (gSS G (g_ks G))), .ref (r 22), vL (g_ss (gSS G (g_ks G))), .ref (r 24), vI (g_fa (gSS G (g_ks G))), vI (g_iw (gSS G (g_ks G))), vI (g_nw (gSS G (g_ks G))), vI (g_ns (gSS G (g_ks G))), vI (g_ne (gSS G (g_ks G))), .ref (r 30), .ref (r 31), .ref (r 32), .ref (r 33), vL (g_h (gSS G (g_ks G)))]), ((r 1), aI (Y 0) 7 (ms_h T)), ((r 0), aI (Y 0) 420 (ms_m T)), ((r 24), aI (Y 0) 432 (packS T))]) (fun l => m_pebbles l D Y _ h r T (gSS G (g_ks G)) (List.mem_append_left _ (List.mem_of_getElem? (i := 0) rfl)) (List.mem_append_left _ (List.mem_of_getElem? (i := 1) rfl)) ) rfl rfl rfl rfl (by decide) rfl (Or.inr (List.mem_append_left _ (List.mem_of_getElem? (i := 0) rfl))) rfl gX10_restore_X10_pebbles ⟨rfl, by decide +kernel⟩ (by decide) rfl rfl (Nat.le_of_ble_eq_true rfl) (by decide) dX10_restore_50 (fun e_6 w_7 h_8 => ?_)
          obtain ⟨rfl, rfl⟩ := h_8
          refine j_perm (ws' := [(h, oC 9 [.ref (r 0), .ref (r 1), vI (ms_w T), vI (ms_l T), vL (ms_s T), vI (ms_a T), vI (ms_t T), vI (ms_p T), vI (g_np (gSS G (g_ks G))), .ref (r 9), .ref (r 10), .ref (r 11), .ref (r 12), .ref (r 13), vI (g_nc (gSS G (g_ks G))), .ref (r 15), .ref (r 16), .ref (r 17), vI (g_pl (gSS G (g_ks G))), .ref (r 19), vI (g_ik (gSS G (g_ks G))), vL (g_ks (gSS G (g_ks G))), .ref (r 22), vL (g_ss (gSS G (g_ks G))), .ref (r 24), vI (g_fa (gSS G (g_ks G))), vI (g_iw (gSS G (g_ks G))), vI (g_nw (gSS G (g_ks G))), vI (g_ns (gSS G (g_ks G))), vI (g_ne (gSS G (g_ks G))), .ref (r 30), .ref (r 31), .ref (r 32), .ref (r 33), vL (g_h (gSS G (g_ks G)))]), ((r 1), aI (Y 0) 7 (ms_h T)), ((r 0), aI (Y 0) 420 (ms_m T)), ((r 24), aI (Y 0) 432 (packS T))]) [0, 1, 2, 3] rfl rfl ?_
          exact Rt _ _ _ _ _ _ (by decide) (by decide) ⟨by unfold rRestore; rw [if_neg (by omega)], _, _, gEq.ss _ _, by unfold sRestore; rw [if_neg (by omega)]⟩ dX10_restore_53
        · skip
          refine j_aload_n (pc := 27) C 0 0 rfl rfl dX10_restore_27 ?_
          refine j_get (pc := 28) C (Or.inl (List.mem_of_getElem? (i := 0) rfl)) rfl fX10_restore_X10 24 (by decide) (List.mem_of_getElem? (i := 4) rfl) (Or.inl rfl) rfl dX10_restore_28 ?_
          refine j_iload_n (pc := 31) C 1 1 rfl rfl dX10_restore_31 ?_
          refine j_aload_n (pc := 32) C 0 0 rfl rfl dX10_restore_32 ?_
          refine j_get (pc := 33) C (Or.inl (List.mem_of_getElem? (i := 0) rfl)) rfl fX10_restore_X10 22 (by decide) (List.mem_of_getElem? (i := 5) rfl) (Or.inl rfl) rfl dX10_restore_33 ?_
          refine j_iload_n (pc := 36) C 1 1 rfl rfl dX10_restore_36 ?_
          refine j_iald (pc := 37) C (Or.inr rk) rfl (by omega) (by decide) dX10_restore_37 ?_
          refine j_iast (pc := 38) (ws' := [(h, oC 9 [.ref (r 0), .ref (r 1), vI (ms_w S), vI (ms_l S), vL (ms_s S), vI (ms_a S), vI (ms_t S), vI (ms_p S), vI (g_np (gSS G (g_ks G))), .ref (r 9), .ref (r 10), .ref (r 11), .ref (r 12), .ref (r 13), vI (g_nc (gSS G (g_ks G))), .ref (r 15), .ref (r 16), .ref (r 17), vI (g_pl (gSS G (g_ks G))), .ref (r 19), vI (g_ik (gSS G (g_ks G))), vL (g_ks (gSS G (g_ks G))), .ref (r 22), vL (g_ss (gSS G (g_ks G))), .ref (r 24), vI (g_fa (gSS G (g_ks G))), vI (g_iw (gSS G (g_ks G))), vI (g_nw (gSS G (g_ks G))), vI (g_ns (gSS G (g_ks G))), vI (g_ne (gSS G (g_ks G))), .ref (r 30), .ref (r 31), .ref (r 32), .ref (r 33), vL (g_h (gSS G (g_ks G)))]), ((r 1), aI (Y 0) 7 (ms_h S)), ((r 0), aI (Y 0) 420 (ms_m S)), ((r 24), aI (Y 0) 432 (up w i (kv i)))]) C 3 rfl rfl (by omega) (by decide) rfl dX10_restore_38 ?_
          refine j_iinc (pc := 39) (lc' := [(1, vI (i + 1)), (0, .ref h)]) C 1 rfl (by decide) rfl dX10_restore_39 ?_
          refine j_goto (pc := 42) C 20 rfl dX10_restore_42 ?_
          refine j_locals (lc' := [(0, .ref h), (1, vI (i + 1))]) [1, 0] rfl ?_
          exact ih20 (i + 1) (up w i (kv i)) (by omega) (by omega) (up_agree i20_1)
    refine j_locals (lc' := [(0, .ref h), (1, vI 0)]) [1, 0] rfl ?_
    exact hL20 _ 0 v (Nat.lt_succ_self _) (by omega) (fun j h0 h1 => by omega)
  · skip
    refine j_bipush (pc := 7) (w := (-103)) C rfl dX10_restore_7 ?_
    exact Rt _ _ _ _ _ _ (by decide) (by decide) ⟨by unfold rRestore; rw [if_pos (by omega)], _, _, gEq.rf G, by unfold sRestore; rw [if_pos (by omega)]⟩ dX10_restore_9

theorem fX10_howMany_X10 : ∀ w ∈ u_ws RX10 TX10 35, w ∈ wsX10_howMany := j_words [16, 17, 18, 19, 20, 21, 22, 23, 24, 25, 26, 27, 28, 29, 30, 31, 32, 33, 34, 35, 36, 37, 38, 39, 40, 41, 42, 43, 44, 45, 46, 47, 48, 49, 50] (by decide +kernel)
set_option maxHeartbeats 4000000 in
set_option maxRecDepth 100000 in
theorem m_howMany (l : Launch) (D : va_G) (Y : Nat → ClassId) (RO : va_W) (h : Nat) (r : Nat → Nat) (S : MS) (G : GS) (w : Int) (r0 : (h, oC 9 [.ref (r 0), .ref (r 1), vI (ms_w S), vI (ms_l S), vL (ms_s S), vI (ms_a S), vI (ms_t S), vI (ms_p S), vI (g_np G), .ref (r 9), .ref (r 10), .ref (r 11), .ref (r 12), .ref (r 13), vI (g_nc G), .ref (r 15), .ref (r 16), .ref (r 17), vI (g_pl G), .ref (r 19), vI (g_ik G), vL (g_ks G), .ref (r 22), vL (g_ss G), .ref (r 24), vI (g_fa G), vI (g_iw G), vI (g_nw G), vI (g_ns G), vI (g_ne G), .ref (r 30), .ref (r 31), .ref (r 32), .ref (r 33), vL (g_h G)]) ∈ RO) (r1 : ((r 1), aI (Y 0) 7 (ms_h S)) ∈ RO) (hw : -2147483648 ≤ w ∧ w ≤ 2147483647) : jMi l yX10_howMany wsX10_howMany { frames := 1, cells := 0, slots := 0, locals := 22 } D Y RO [.ref h, vI w] [] (fun e w1 => e = rCount w (g_np G) (g_nc G) (g_pl G) S ∧ w1 = []) := by
  refine j_ofi RX10 rfl rfl rfl (Nat.le_of_ble_eq_true rfl) (fun X C Rt => ?_)
  refine j_iload_n (pc := 0) C 1 1 rfl rfl dX10_howMany_0 ?_
  rcases (show w = 0 ∨ w = 1 ∨ w = 2 ∨ w = 3 ∨ w = 4 ∨ w = 5 ∨ w = 6 ∨ w = 7 ∨ w = 8 ∨ w = 9 ∨ (w < 0 ∨ 9 < w) by omega) with h_1p1 | h_1p1 | h_1p1 | h_1p1 | h_1p1 | h_1p1 | h_1p1 | h_1p1 | h_1p1 | h_1p1 | h_1p1
  · refine j_tableC (pc := 1) C 0 56 h_1p1 (by decide) rfl rfl dX10_howMany_1 ?_
    refine j_aload_n (pc := 56) C 0 0 rfl rfl dX10_howMany_56 ?_
    refine j_get (pc := 57) C (Or.inr r0) rfl fX10_howMany_X10 8 (by decide) (List.mem_of_getElem? (i := 1) rfl) (Or.inl rfl) rfl dX10_howMany_57 ?_
    exact Rt _ _ _ _ _ _ (by decide) (by decide) ⟨by unfold rCount; rw [if_pos (by omega)], rfl⟩ dX10_howMany_60
  · refine j_tableC (pc := 1) C 1 61 h_1p1 (by decide) rfl rfl dX10_howMany_1 ?_
    refine j_aload_n (pc := 61) C 0 0 rfl rfl dX10_howMany_61 ?_
    refine j_get (pc := 62) C (Or.inr r0) rfl fX10_howMany_X10 14 (by decide) (List.mem_of_getElem? (i := 2) rfl) (Or.inl rfl) rfl dX10_howMany_62 ?_
    exact Rt _ _ _ _ _ _ (by decide) (by decide) ⟨by unfold rCount; rw [if_neg (by omega), if_pos (by omega)], rfl⟩ dX10_howMany_65
  · refine j_tableC (pc := 1) C 2 66 h_1p1 (by decide) rfl rfl dX10_howMany_1 ?_
    refine j_aload_n (pc := 66) C 0 0 rfl rfl dX10_howMany_66 ?_
    refine j_callVi (pc := 67) (As := []) (na := 0) (st := []) C [] [] (wr := []) (fun l => m_pebbles l D Y _ h r S G (List.mem_append_right _ r0) (List.mem_append_right _ r1) ) rfl rfl rfl rfl (by decide) rfl (Or.inr (List.mem_append_right _ r0)) rfl gX10_howMany_X10_pebbles ⟨rfl, by decide +kernel⟩ (by decide) rfl rfl (Nat.le_of_ble_eq_true rfl) (by decide) dX10_howMany_67 (fun e_2 w_3 h_4 => ?_)
    obtain ⟨rfl, rfl⟩ := h_4
    refine j_perm (ws' := []) [] rfl rfl ?_
    exact Rt _ _ _ _ _ _ (by decide) (by decide) ⟨by unfold rCount; rw [if_neg (by omega), if_neg (by omega), if_pos (by omega)], rfl⟩ dX10_howMany_70
  · refine j_tableC (pc := 1) C 3 71 h_1p1 (by decide) rfl rfl dX10_howMany_1 ?_
    refine j_aload_n (pc := 71) C 0 0 rfl rfl dX10_howMany_71 ?_
    refine j_get (pc := 72) C (Or.inr r0) rfl fX10_howMany_X10 2 (by decide) (List.mem_of_getElem? (i := 3) rfl) (Or.inl rfl) rfl dX10_howMany_72 ?_
    exact Rt _ _ _ _ _ _ (by decide) (by decide) ⟨by unfold rCount; rw [if_neg (by omega), if_neg (by omega), if_neg (by omega), if_pos (by omega)], rfl⟩ dX10_howMany_75
  · refine j_tableC (pc := 1) C 4 76 h_1p1 (by decide) rfl rfl dX10_howMany_1 ?_
    refine j_aload_n (pc := 76) C 0 0 rfl rfl dX10_howMany_76 ?_
    refine j_get (pc := 77) C (Or.inr r0) rfl fX10_howMany_X10 4 (by decide) (List.mem_of_getElem? (i := 4) rfl) (Or.inl rfl) rfl dX10_howMany_77 ?_
    refine j_l2i (pc := 80) C dX10_howMany_80 ?_
    exact Rt _ _ _ _ _ _ (by decide) (by decide) ⟨by unfold rCount; rw [if_neg (by omega), if_neg (by omega), if_neg (by omega), if_neg (by omega), if_pos (by omega)], rfl⟩ dX10_howMany_81
  · refine j_tableC (pc := 1) C 5 82 h_1p1 (by decide) rfl rfl dX10_howMany_1 ?_
    refine j_aload_n (pc := 82) C 0 0 rfl rfl dX10_howMany_82 ?_
    refine j_get (pc := 83) C (Or.inr r0) rfl fX10_howMany_X10 3 (by decide) (List.mem_of_getElem? (i := 5) rfl) (Or.inl rfl) rfl dX10_howMany_83 ?_
    exact Rt _ _ _ _ _ _ (by decide) (by decide) ⟨by unfold rCount; rw [if_neg (by omega), if_neg (by omega), if_neg (by omega), if_neg (by omega), if_neg (by omega), if_pos (by omega)], rfl⟩ dX10_howMany_86
  · refine j_tableC (pc := 1) C 6 87 h_1p1 (by decide) rfl rfl dX10_howMany_1 ?_
    refine j_aload_n (pc := 87) C 0 0 rfl rfl dX10_howMany_87 ?_
    refine j_get (pc := 88) C (Or.inr r0) rfl fX10_howMany_X10 5 (by decide) (List.mem_of_getElem? (i := 6) rfl) (Or.inl rfl) rfl dX10_howMany_88 ?_
    exact Rt _ _ _ _ _ _ (by decide) (by decide) ⟨by unfold rCount; rw [if_neg (by omega), if_neg (by omega), if_neg (by omega), if_neg (by omega), if_neg (by omega), if_neg (by omega), if_pos (by omega)], rfl⟩ dX10_howMany_91
  · refine j_tableC (pc := 1) C 7 92 h_1p1 (by decide) rfl rfl dX10_howMany_1 ?_
    refine j_aload_n (pc := 92) C 0 0 rfl rfl dX10_howMany_92 ?_
    refine j_get (pc := 93) C (Or.inr r0) rfl fX10_howMany_X10 6 (by decide) (List.mem_of_getElem? (i := 7) rfl) (Or.inl rfl) rfl dX10_howMany_93 ?_
    exact Rt _ _ _ _ _ _ (by decide) (by decide) ⟨by unfold rCount; rw [if_neg (by omega), if_neg (by omega), if_neg (by omega), if_neg (by omega), if_neg (by omega), if_neg (by omega), if_neg (by omega), if_pos (by omega)], rfl⟩ dX10_howMany_96
  · refine j_tableC (pc := 1) C 8 97 h_1p1 (by decide) rfl rfl dX10_howMany_1 ?_
    refine j_aload_n (pc := 97) C 0 0 rfl rfl dX10_howMany_97 ?_
    refine j_get (pc := 98) C (Or.inr r0) rfl fX10_howMany_X10 7 (by decide) (List.mem_of_getElem? (i := 8) rfl) (Or.inl rfl) rfl dX10_howMany_98 ?_
    exact Rt _ _ _ _ _ _ (by decide) (by decide) ⟨by unfold rCount; rw [if_neg (by omega), if_neg (by omega), if_neg (by omega), if_neg (by omega), if_neg (by omega), if_neg (by omega), if_neg (by omega), if_neg (by omega), if_pos (by omega)], rfl⟩ dX10_howMany_101
  · refine j_tableC (pc := 1) C 9 102 h_1p1 (by decide) rfl rfl dX10_howMany_1 ?_
    refine j_aload_n (pc := 102) C 0 0 rfl rfl dX10_howMany_102 ?_
    refine j_get (pc := 103) C (Or.inr r0) rfl fX10_howMany_X10 18 (by decide) (List.mem_of_getElem? (i := 9) rfl) (Or.inl rfl) rfl dX10_howMany_103 ?_
    exact Rt _ _ _ _ _ _ (by decide) (by decide) ⟨by unfold rCount; rw [if_neg (by omega), if_neg (by omega), if_neg (by omega), if_neg (by omega), if_neg (by omega), if_neg (by omega), if_neg (by omega), if_neg (by omega), if_neg (by omega), if_pos (by omega)], rfl⟩ dX10_howMany_106
  · refine j_tableD (pc := 1) C 107 (by omega) h_1p1 rfl dX10_howMany_1 ?_
    refine j_bipush (pc := 107) (w := (-102)) C rfl dX10_howMany_107 ?_
    exact Rt _ _ _ _ _ _ (by decide) (by decide) ⟨by unfold rCount; rw [if_neg (by omega), if_neg (by omega), if_neg (by omega), if_neg (by omega), if_neg (by omega), if_neg (by omega), if_neg (by omega), if_neg (by omega), if_neg (by omega), if_neg (by omega)], rfl⟩ dX10_howMany_109

set_option maxHeartbeats 4000000 in
set_option maxRecDepth 100000 in
theorem m_count (l : Launch) (D : va_G) (Y : Nat → ClassId) (RO : va_W) (h : Nat) (r : Nat → Nat) (S : MS) (G : GS) (w : Int) (r0 : (h, oC 9 [.ref (r 0), .ref (r 1), vI (ms_w S), vI (ms_l S), vL (ms_s S), vI (ms_a S), vI (ms_t S), vI (ms_p S), vI (g_np G), .ref (r 9), .ref (r 10), .ref (r 11), .ref (r 12), .ref (r 13), vI (g_nc G), .ref (r 15), .ref (r 16), .ref (r 17), vI (g_pl G), .ref (r 19), vI (g_ik G), vL (g_ks G), .ref (r 22), vL (g_ss G), .ref (r 24), vI (g_fa G), vI (g_iw G), vI (g_nw G), vI (g_ns G), vI (g_ne G), .ref (r 30), .ref (r 31), .ref (r 32), .ref (r 33), vL (g_h G)]) ∈ RO) (r1 : ((r 1), aI (Y 0) 7 (ms_h S)) ∈ RO) (hw : -2147483648 ≤ w ∧ w ≤ 2147483647) : jMi l yX10_count wsX10_count { frames := 2, cells := 0, slots := 0, locals := 43 } D Y RO [.ref h, vI w] [] (fun e w1 => e = rCount w (g_np G) (g_nc G) (g_pl G) S ∧ w1 = []) := by
  refine j_ofi RX10 rfl rfl rfl (Nat.le_of_ble_eq_true rfl) (fun X C Rt => ?_)
  refine j_aload_n (pc := 0) C 0 0 rfl rfl dX10_count_0 ?_
  refine j_iload_n (pc := 1) C 1 1 rfl rfl dX10_count_1 ?_
  refine j_callVi (pc := 2) (As := [vI w]) (na := 1) (st := []) C [] [] (wr := []) (fun l => m_howMany l D Y _ h r S G w (List.mem_append_right _ r0) (List.mem_append_right _ r1) (by first | assumption | omega)) rfl rfl rfl rfl (by decide) rfl (Or.inr (List.mem_append_right _ r0)) rfl gX10_count_X10_howMany ⟨rfl, by decide +kernel⟩ (by decide) rfl rfl (Nat.le_of_ble_eq_true rfl) (by decide) dX10_count_2 (fun e_1 w_2 h_3 => ?_)
  obtain ⟨rfl, rfl⟩ := h_3
  refine j_perm (ws' := []) [] rfl rfl ?_
  exact Rt _ _ _ _ _ _ (by decide) (by decide) ⟨rfl, rfl⟩ dX10_count_5
