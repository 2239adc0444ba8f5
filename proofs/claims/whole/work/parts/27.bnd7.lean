theorem fX10_canBe_X10 : ∀ w ∈ u_ws RX10 TX10 35, w ∈ wsX10_canBe := j_words [4, 5, 6, 7, 8, 9, 10, 11, 12, 13, 14, 15, 16, 17, 18, 19, 20, 21, 22, 23, 24, 25, 26, 27, 28, 29, 30, 31, 32, 33, 34, 35, 36, 37, 38] (by decide +kernel)
set_option maxHeartbeats 4000000 in
set_option maxRecDepth 100000 in
theorem m_canBe (l : Launch) (D : va_G) (Y : Nat → ClassId) (RO : va_W) (h : Nat) (r : Nat → Nat) (S : MS) (G : GS) (ps : Int → PT) (p : Int) (w : Int) (s : Int) (r0 : (h, oC 9 [.ref (r 0), .ref (r 1), vI (ms_w S), vI (ms_l S), vL (ms_s S), vI (ms_a S), vI (ms_t S), vI (ms_p S), vI (g_np G), .ref (r 9), .ref (r 10), .ref (r 11), .ref (r 12), .ref (r 13), vI (g_nc G), .ref (r 15), .ref (r 16), .ref (r 17), vI (g_pl G), .ref (r 19), vI (g_ik G), vL (g_ks G), .ref (r 22), vL (g_ss G), .ref (r 24), vI (g_fa G), vI (g_iw G), vI (g_nw G), vI (g_ns G), vI (g_ne G), .ref (r 30), .ref (r 31), .ref (r 32), .ref (r 33), vL (g_h G)]) ∈ RO) (k2 : ((r 11), aI (Y 0) 6 (wof ps)) ∈ RO) (k3 : ((r 12), aI (Y 0) 6 (iof ps)) ∈ RO) (k4 : ((r 13), aI (Y 0) 6 (zof ps)) ∈ RO) (hp : 0 ≤ p ∧ p < 6) (hP : okP (ps p)) (hw : 0 ≤ w ∧ w ≤ 9) (hs : 0 ≤ s ∧ s ≤ 9) : jMi l yX10_canBe wsX10_canBe { frames := 0, cells := 0, slots := 0, locals := 0 } D Y RO [.ref h, vI p, vI w, vI s] [] (fun e w1 => e = (if cbP (ps p) w s then 1 else 0) ∧ w1 = []) := by
  refine j_ofz RX10 rfl rfl rfl (Nat.le_of_ble_eq_true rfl) (fun X C Rt => ?_)
  have hPw := hP.2.2.2.2.1
  have hPi := hP.2.2.2.2.2.1
  have hPz := hP.2.2.2.2.2.2
  refine j_aload_n (pc := 0) C 0 0 rfl rfl dX10_canBe_0 ?_
  refine j_get (pc := 1) C (Or.inr r0) rfl fX10_canBe_X10 11 (by decide) (List.mem_of_getElem? (i := 1) rfl) (Or.inl rfl) rfl dX10_canBe_1 ?_
  refine j_iload_n (pc := 4) C 1 1 rfl rfl dX10_canBe_4 ?_
  refine j_iald (pc := 5) C (Or.inr k2) rfl (by omega) (by decide) dX10_canBe_5 ?_
  refine j_st (st' := [vI (pw (ps p))]) rfl rfl rfl ?_
  refine j_iload_n (pc := 6) C 2 2 rfl rfl dX10_canBe_6 ?_
  refine j_isub (pc := 7) C dX10_canBe_7 ?_
  refine j_iload_n (pc := 8) C 3 3 rfl rfl dX10_canBe_8 ?_
  refine j_isub (pc := 9) C dX10_canBe_9 ?_
  refine j_istore (pc := 10) (lc' := [(4, vI ((pw (ps p) - w) - s)), (0, .ref h), (1, vI p), (2, vI w), (3, vI s)]) C (by decide) rfl dX10_canBe_10 ?_
  refine j_iload_n (pc := 12) C 2 3 rfl rfl dX10_canBe_12 ?_
  refine j_if_eq (pc := 13) C 25 rfl (by omega) dX10_canBe_13 (fun h_1p13 => ?_) (fun h_1p13 => ?_)
  · skip
    refine j_iconst (pc := 25) C dX10_canBe_25 ?_
    refine j_goto (pc := 26) C 30 rfl dX10_canBe_26 ?_
    refine j_istore (pc := 30) (lc' := [(5, vI 1), (4, vI ((pw (ps p) - w) - s)), (0, .ref h), (1, vI p), (2, vI w), (3, vI s)]) C (by decide) rfl dX10_canBe_30 ?_
    refine j_iload_n (pc := 32) C 3 5 rfl rfl dX10_canBe_32 ?_
    refine j_if_eq (pc := 33) C 56 rfl (by omega) dX10_canBe_33 (fun h_2p33 => ?_) (fun h_2p33 => ?_)
    · skip
      refine j_iconst (pc := 56) C dX10_canBe_56 ?_
      refine j_goto (pc := 57) C 61 rfl dX10_canBe_57 ?_
      refine j_istore (pc := 61) (lc' := [(6, vI 1), (5, vI 1), (4, vI ((pw (ps p) - w) - s)), (0, .ref h), (1, vI p), (2, vI w), (3, vI s)]) C (by decide) rfl dX10_canBe_61 ?_
      refine j_iload (pc := 63) C 2 rfl dX10_canBe_63 ?_
      refine j_if_lt (pc := 65) C 109 rfl (by omega) dX10_canBe_65 (fun h_3p65 => ?_) (fun h_3p65 => ?_)
      · skip
        refine j_iconst (pc := 109) C dX10_canBe_109 ?_
        exact Rt _ _ _ _ _ _ (by decide) (by decide) (by decide) ⟨by split <;> omega, rfl⟩ dX10_canBe_110
      · skip
        refine j_iload (pc := 68) C 1 rfl dX10_canBe_68 ?_
        refine j_if_eq (pc := 70) C 109 rfl (by omega) dX10_canBe_70 (fun h_4 => absurd h_4 (by decide)) (fun _ => ?_)
        refine j_iload (pc := 73) C 0 rfl dX10_canBe_73 ?_
        refine j_if_eq (pc := 75) C 109 rfl (by omega) dX10_canBe_75 (fun h_5 => absurd h_5 (by decide)) (fun _ => ?_)
        refine j_iload (pc := 78) C 2 rfl dX10_canBe_78 ?_
        refine j_if_eq (pc := 80) C 105 rfl (by omega) dX10_canBe_80 (fun h_6p80 => ?_) (fun h_6p80 => ?_)
        · skip
          refine j_iconst (pc := 105) C dX10_canBe_105 ?_
          refine j_goto (pc := 106) C 110 rfl dX10_canBe_106 ?_
          exact Rt _ _ _ _ _ _ (by decide) (by decide) (by decide) ⟨by split <;> omega, rfl⟩ dX10_canBe_110
        · skip
          refine j_aload_n (pc := 83) C 0 3 rfl rfl dX10_canBe_83 ?_
          refine j_get (pc := 84) C (Or.inr r0) rfl fX10_canBe_X10 12 (by decide) (List.mem_of_getElem? (i := 2) rfl) (Or.inl rfl) rfl dX10_canBe_84 ?_
          refine j_iload_n (pc := 87) C 1 4 rfl rfl dX10_canBe_87 ?_
          refine j_iald (pc := 88) C (Or.inr k3) rfl (by omega) (by decide) dX10_canBe_88 ?_
          refine j_st (st' := [vI (pi (ps p))]) rfl rfl rfl ?_
          refine j_bipush (pc := 89) (w := 10) C rfl dX10_canBe_89 ?_
          refine j_icmp_ge (pc := 91) C 109 rfl (by omega) dX10_canBe_91 (fun h_7p91 => ?_) (fun h_7p91 => ?_)
          · skip
            refine j_iconst (pc := 109) C dX10_canBe_109 ?_
            exact Rt _ _ _ _ _ _ (by decide) (by decide) (by decide) ⟨by split <;> omega, rfl⟩ dX10_canBe_110
          · skip
            refine j_aload_n (pc := 94) C 0 3 rfl rfl dX10_canBe_94 ?_
            refine j_get (pc := 95) C (Or.inr r0) rfl fX10_canBe_X10 13 (by decide) (List.mem_of_getElem? (i := 3) rfl) (Or.inl rfl) rfl dX10_canBe_95 ?_
            refine j_iload_n (pc := 98) C 1 4 rfl rfl dX10_canBe_98 ?_
            refine j_iald (pc := 99) C (Or.inr k4) rfl (by omega) (by decide) dX10_canBe_99 ?_
            refine j_st (st' := [vI (pz (ps p))]) rfl rfl rfl ?_
            refine j_bipush (pc := 100) (w := 10) C rfl dX10_canBe_100 ?_
            refine j_icmp_ge (pc := 102) C 109 rfl (by omega) dX10_canBe_102 (fun h_8p102 => ?_) (fun h_8p102 => ?_)
            · skip
              refine j_iconst (pc := 109) C dX10_canBe_109 ?_
              exact Rt _ _ _ _ _ _ (by decide) (by decide) (by decide) ⟨by split <;> omega, rfl⟩ dX10_canBe_110
            · skip
              refine j_iconst (pc := 105) C dX10_canBe_105 ?_
              refine j_goto (pc := 106) C 110 rfl dX10_canBe_106 ?_
              exact Rt _ _ _ _ _ _ (by decide) (by decide) (by decide) ⟨by split <;> omega, rfl⟩ dX10_canBe_110
    · skip
      refine j_aload_n (pc := 36) C 0 2 rfl rfl dX10_canBe_36 ?_
      refine j_get (pc := 37) C (Or.inr r0) rfl fX10_canBe_X10 12 (by decide) (List.mem_of_getElem? (i := 2) rfl) (Or.inl rfl) rfl dX10_canBe_37 ?_
      refine j_iload_n (pc := 40) C 1 3 rfl rfl dX10_canBe_40 ?_
      refine j_iald (pc := 41) C (Or.inr k3) rfl (by omega) (by decide) dX10_canBe_41 ?_
      refine j_st (st' := [vI (pi (ps p))]) rfl rfl rfl ?_
      refine j_bipush (pc := 42) (w := 10) C rfl dX10_canBe_42 ?_
      refine j_icmp_ge (pc := 44) C 60 rfl (by omega) dX10_canBe_44 (fun h_9p44 => ?_) (fun h_9p44 => ?_)
      · skip
        refine j_iconst (pc := 60) C dX10_canBe_60 ?_
        refine j_istore (pc := 61) (lc' := [(6, vI 0), (5, vI 1), (4, vI ((pw (ps p) - w) - s)), (0, .ref h), (1, vI p), (2, vI w), (3, vI s)]) C (by decide) rfl dX10_canBe_61 ?_
        refine j_iload (pc := 63) C 2 rfl dX10_canBe_63 ?_
        refine j_if_lt (pc := 65) C 109 rfl (by omega) dX10_canBe_65 (fun h_10p65 => ?_) (fun h_10p65 => ?_)
        · skip
          refine j_iconst (pc := 109) C dX10_canBe_109 ?_
          exact Rt _ _ _ _ _ _ (by decide) (by decide) (by decide) ⟨by split <;> omega, rfl⟩ dX10_canBe_110
        · skip
          refine j_iload (pc := 68) C 1 rfl dX10_canBe_68 ?_
          refine j_if_eq (pc := 70) C 109 rfl (by omega) dX10_canBe_70 (fun h_11 => absurd h_11 (by decide)) (fun _ => ?_)
          refine j_iload (pc := 73) C 0 rfl dX10_canBe_73 ?_
          refine j_if_eq (pc := 75) C 109 rfl (by omega) dX10_canBe_75 (fun _ => ?_) (fun h_12 => absurd h_12 (by decide))
          refine j_iconst (pc := 109) C dX10_canBe_109 ?_
          exact Rt _ _ _ _ _ _ (by decide) (by decide) (by decide) ⟨by split <;> omega, rfl⟩ dX10_canBe_110
      · skip
        refine j_aload_n (pc := 47) C 0 2 rfl rfl dX10_canBe_47 ?_
        refine j_get (pc := 48) C (Or.inr r0) rfl fX10_canBe_X10 13 (by decide) (List.mem_of_getElem? (i := 3) rfl) (Or.inl rfl) rfl dX10_canBe_48 ?_
        refine j_iload_n (pc := 51) C 1 3 rfl rfl dX10_canBe_51 ?_
        refine j_iald (pc := 52) C (Or.inr k4) rfl (by omega) (by decide) dX10_canBe_52 ?_
        refine j_st (st' := [vI (pz (ps p))]) rfl rfl rfl ?_
        refine j_if_le (pc := 53) C 60 rfl (by omega) dX10_canBe_53 (fun h_13p53 => ?_) (fun h_13p53 => ?_)
        · skip
          refine j_iconst (pc := 60) C dX10_canBe_60 ?_
          refine j_istore (pc := 61) (lc' := [(6, vI 0), (5, vI 1), (4, vI ((pw (ps p) - w) - s)), (0, .ref h), (1, vI p), (2, vI w), (3, vI s)]) C (by decide) rfl dX10_canBe_61 ?_
          refine j_iload (pc := 63) C 2 rfl dX10_canBe_63 ?_
          refine j_if_lt (pc := 65) C 109 rfl (by omega) dX10_canBe_65 (fun h_14p65 => ?_) (fun h_14p65 => ?_)
          · skip
            refine j_iconst (pc := 109) C dX10_canBe_109 ?_
            exact Rt _ _ _ _ _ _ (by decide) (by decide) (by decide) ⟨by split <;> omega, rfl⟩ dX10_canBe_110
          · skip
            refine j_iload (pc := 68) C 1 rfl dX10_canBe_68 ?_
            refine j_if_eq (pc := 70) C 109 rfl (by omega) dX10_canBe_70 (fun h_15 => absurd h_15 (by decide)) (fun _ => ?_)
            refine j_iload (pc := 73) C 0 rfl dX10_canBe_73 ?_
            refine j_if_eq (pc := 75) C 109 rfl (by omega) dX10_canBe_75 (fun _ => ?_) (fun h_16 => absurd h_16 (by decide))
            refine j_iconst (pc := 109) C dX10_canBe_109 ?_
            exact Rt _ _ _ _ _ _ (by decide) (by decide) (by decide) ⟨by split <;> omega, rfl⟩ dX10_canBe_110
        · skip
          refine j_iconst (pc := 56) C dX10_canBe_56 ?_
          refine j_goto (pc := 57) C 61 rfl dX10_canBe_57 ?_
          refine j_istore (pc := 61) (lc' := [(6, vI 1), (5, vI 1), (4, vI ((pw (ps p) - w) - s)), (0, .ref h), (1, vI p), (2, vI w), (3, vI s)]) C (by decide) rfl dX10_canBe_61 ?_
          refine j_iload (pc := 63) C 2 rfl dX10_canBe_63 ?_
          refine j_if_lt (pc := 65) C 109 rfl (by omega) dX10_canBe_65 (fun h_17p65 => ?_) (fun h_17p65 => ?_)
          · skip
            refine j_iconst (pc := 109) C dX10_canBe_109 ?_
            exact Rt _ _ _ _ _ _ (by decide) (by decide) (by decide) ⟨by split <;> omega, rfl⟩ dX10_canBe_110
          · skip
            refine j_iload (pc := 68) C 1 rfl dX10_canBe_68 ?_
            refine j_if_eq (pc := 70) C 109 rfl (by omega) dX10_canBe_70 (fun h_18 => absurd h_18 (by decide)) (fun _ => ?_)
            refine j_iload (pc := 73) C 0 rfl dX10_canBe_73 ?_
            refine j_if_eq (pc := 75) C 109 rfl (by omega) dX10_canBe_75 (fun h_19 => absurd h_19 (by decide)) (fun _ => ?_)
            refine j_iload (pc := 78) C 2 rfl dX10_canBe_78 ?_
            refine j_if_eq (pc := 80) C 105 rfl (by omega) dX10_canBe_80 (fun h_20p80 => ?_) (fun h_20p80 => ?_)
            · skip
              refine j_iconst (pc := 105) C dX10_canBe_105 ?_
              refine j_goto (pc := 106) C 110 rfl dX10_canBe_106 ?_
              exact Rt _ _ _ _ _ _ (by decide) (by decide) (by decide) ⟨by split <;> omega, rfl⟩ dX10_canBe_110
            · skip
              refine j_aload_n (pc := 83) C 0 3 rfl rfl dX10_canBe_83 ?_
              refine j_get (pc := 84) C (Or.inr r0) rfl fX10_canBe_X10 12 (by decide) (List.mem_of_getElem? (i := 2) rfl) (Or.inl rfl) rfl dX10_canBe_84 ?_
              refine j_iload_n (pc := 87) C 1 4 rfl rfl dX10_canBe_87 ?_
              refine j_iald (pc := 88) C (Or.inr k3) rfl (by omega) (by decide) dX10_canBe_88 ?_
              refine j_st (st' := [vI (pi (ps p))]) rfl rfl rfl ?_
              refine j_bipush (pc := 89) (w := 10) C rfl dX10_canBe_89 ?_
              refine j_icmp_ge (pc := 91) C 109 rfl (by omega) dX10_canBe_91 (fun h_21p91 => ?_) (fun h_21p91 => ?_)
              · skip
                refine j_iconst (pc := 109) C dX10_canBe_109 ?_
                exact Rt _ _ _ _ _ _ (by decide) (by decide) (by decide) ⟨by split <;> omega, rfl⟩ dX10_canBe_110
              · skip
                refine j_aload_n (pc := 94) C 0 3 rfl rfl dX10_canBe_94 ?_
                refine j_get (pc := 95) C (Or.inr r0) rfl fX10_canBe_X10 13 (by decide) (List.mem_of_getElem? (i := 3) rfl) (Or.inl rfl) rfl dX10_canBe_95 ?_
                refine j_iload_n (pc := 98) C 1 4 rfl rfl dX10_canBe_98 ?_
                refine j_iald (pc := 99) C (Or.inr k4) rfl (by omega) (by decide) dX10_canBe_99 ?_
                refine j_st (st' := [vI (pz (ps p))]) rfl rfl rfl ?_
                refine j_bipush (pc := 100) (w := 10) C rfl dX10_canBe_100 ?_
                refine j_icmp_ge (pc := 102) C 109 rfl (by omega) dX10_canBe_102 (fun h_22p102 => ?_) (fun h_22p102 => ?_)
                · skip
                  refine j_iconst (pc := 109) C dX10_canBe_109 ?_
                  exact Rt _ _ _ _ _ _ (by decide) (by decide) (by decide) ⟨by split <;> omega, rfl⟩ dX10_canBe_110
                · skip
                  refine j_iconst (pc := 105) C dX10_canBe_105 ?_
                  refine j_goto (pc := 106) C 110 rfl dX10_canBe_106 ?_
                  exact Rt _ _ _ _ _ _ (by decide) (by decide) (by decide) ⟨by split <;> omega, rfl⟩ dX10_canBe_110
  · skip
    refine j_aload_n (pc := 16) C 0 1 rfl rfl dX10_canBe_16 ?_
    refine j_get (pc := 17) C (Or.inr r0) rfl fX10_canBe_X10 12 (by decide) (List.mem_of_getElem? (i := 2) rfl) (Or.inl rfl) rfl dX10_canBe_17 ?_
    refine j_iload_n (pc := 20) C 1 2 rfl rfl dX10_canBe_20 ?_
    refine j_iald (pc := 21) C (Or.inr k3) rfl (by omega) (by decide) dX10_canBe_21 ?_
    refine j_st (st' := [vI (pi (ps p))]) rfl rfl rfl ?_
    refine j_if_le (pc := 22) C 29 rfl (by omega) dX10_canBe_22 (fun h_23p22 => ?_) (fun h_23p22 => ?_)
    · skip
      refine j_iconst (pc := 29) C dX10_canBe_29 ?_
      refine j_istore (pc := 30) (lc' := [(5, vI 0), (4, vI ((pw (ps p) - w) - s)), (0, .ref h), (1, vI p), (2, vI w), (3, vI s)]) C (by decide) rfl dX10_canBe_30 ?_
      refine j_iload_n (pc := 32) C 3 5 rfl rfl dX10_canBe_32 ?_
      refine j_if_eq (pc := 33) C 56 rfl (by omega) dX10_canBe_33 (fun h_24p33 => ?_) (fun h_24p33 => ?_)
      · skip
        refine j_iconst (pc := 56) C dX10_canBe_56 ?_
        refine j_goto (pc := 57) C 61 rfl dX10_canBe_57 ?_
        refine j_istore (pc := 61) (lc' := [(6, vI 1), (5, vI 0), (4, vI ((pw (ps p) - w) - s)), (0, .ref h), (1, vI p), (2, vI w), (3, vI s)]) C (by decide) rfl dX10_canBe_61 ?_
        refine j_iload (pc := 63) C 2 rfl dX10_canBe_63 ?_
        refine j_if_lt (pc := 65) C 109 rfl (by omega) dX10_canBe_65 (fun h_25p65 => ?_) (fun h_25p65 => ?_)
        · skip
          refine j_iconst (pc := 109) C dX10_canBe_109 ?_
          exact Rt _ _ _ _ _ _ (by decide) (by decide) (by decide) ⟨by split <;> omega, rfl⟩ dX10_canBe_110
        · skip
          refine j_iload (pc := 68) C 1 rfl dX10_canBe_68 ?_
          refine j_if_eq (pc := 70) C 109 rfl (by omega) dX10_canBe_70 (fun _ => ?_) (fun h_26 => absurd h_26 (by decide))
          refine j_iconst (pc := 109) C dX10_canBe_109 ?_
          exact Rt _ _ _ _ _ _ (by decide) (by decide) (by decide) ⟨by split <;> omega, rfl⟩ dX10_canBe_110
      · skip
        refine j_aload_n (pc := 36) C 0 2 rfl rfl dX10_canBe_36 ?_
        refine j_get (pc := 37) C (Or.inr r0) rfl fX10_canBe_X10 12 (by decide) (List.mem_of_getElem? (i := 2) rfl) (Or.inl rfl) rfl dX10_canBe_37 ?_
        refine j_iload_n (pc := 40) C 1 3 rfl rfl dX10_canBe_40 ?_
        refine j_iald (pc := 41) C (Or.inr k3) rfl (by omega) (by decide) dX10_canBe_41 ?_
        refine j_st (st' := [vI (pi (ps p))]) rfl rfl rfl ?_
        refine j_bipush (pc := 42) (w := 10) C rfl dX10_canBe_42 ?_
        refine j_icmp_ge (pc := 44) C 60 rfl (by omega) dX10_canBe_44 (fun h_27p44 => ?_) (fun h_27p44 => ?_)
        · skip
          refine j_iconst (pc := 60) C dX10_canBe_60 ?_
          refine j_istore (pc := 61) (lc' := [(6, vI 0), (5, vI 0), (4, vI ((pw (ps p) - w) - s)), (0, .ref h), (1, vI p), (2, vI w), (3, vI s)]) C (by decide) rfl dX10_canBe_61 ?_
          refine j_iload (pc := 63) C 2 rfl dX10_canBe_63 ?_
          refine j_if_lt (pc := 65) C 109 rfl (by omega) dX10_canBe_65 (fun h_28p65 => ?_) (fun h_28p65 => ?_)
          · skip
            refine j_iconst (pc := 109) C dX10_canBe_109 ?_
            exact Rt _ _ _ _ _ _ (by decide) (by decide) (by decide) ⟨by split <;> omega, rfl⟩ dX10_canBe_110
          · skip
            refine j_iload (pc := 68) C 1 rfl dX10_canBe_68 ?_
            refine j_if_eq (pc := 70) C 109 rfl (by omega) dX10_canBe_70 (fun _ => ?_) (fun h_29 => absurd h_29 (by decide))
            refine j_iconst (pc := 109) C dX10_canBe_109 ?_
            exact Rt _ _ _ _ _ _ (by decide) (by decide) (by decide) ⟨by split <;> omega, rfl⟩ dX10_canBe_110
        · skip
          refine j_aload_n (pc := 47) C 0 2 rfl rfl dX10_canBe_47 ?_
          refine j_get (pc := 48) C (Or.inr r0) rfl fX10_canBe_X10 13 (by decide) (List.mem_of_getElem? (i := 3) rfl) (Or.inl rfl) rfl dX10_canBe_48 ?_
          refine j_iload_n (pc := 51) C 1 3 rfl rfl dX10_canBe_51 ?_
          refine j_iald (pc := 52) C (Or.inr k4) rfl (by omega) (by decide) dX10_canBe_52 ?_
          refine j_st (st' := [vI (pz (ps p))]) rfl rfl rfl ?_
          refine j_if_le (pc := 53) C 60 rfl (by omega) dX10_canBe_53 (fun h_30p53 => ?_) (fun h_30p53 => ?_)
          · skip
            refine j_iconst (pc := 60) C dX10_canBe_60 ?_
            refine j_istore (pc := 61) (lc' := [(6, vI 0), (5, vI 0), (4, vI ((pw (ps p) - w) - s)), (0, .ref h), (1, vI p), (2, vI w), (3, vI s)]) C (by decide) rfl dX10_canBe_61 ?_
            refine j_iload (pc := 63) C 2 rfl dX10_canBe_63 ?_
            refine j_if_lt (pc := 65) C 109 rfl (by omega) dX10_canBe_65 (fun h_31p65 => ?_) (fun h_31p65 => ?_)
            · skip
              refine j_iconst (pc := 109) C dX10_canBe_109 ?_
              exact Rt _ _ _ _ _ _ (by decide) (by decide) (by decide) ⟨by split <;> omega, rfl⟩ dX10_canBe_110
            · skip
              refine j_iload (pc := 68) C 1 rfl dX10_canBe_68 ?_
              refine j_if_eq (pc := 70) C 109 rfl (by omega) dX10_canBe_70 (fun _ => ?_) (fun h_32 => absurd h_32 (by decide))
              refine j_iconst (pc := 109) C dX10_canBe_109 ?_
              exact Rt _ _ _ _ _ _ (by decide) (by decide) (by decide) ⟨by split <;> omega, rfl⟩ dX10_canBe_110
          · skip
            refine j_iconst (pc := 56) C dX10_canBe_56 ?_
            refine j_goto (pc := 57) C 61 rfl dX10_canBe_57 ?_
            refine j_istore (pc := 61) (lc' := [(6, vI 1), (5, vI 0), (4, vI ((pw (ps p) - w) - s)), (0, .ref h), (1, vI p), (2, vI w), (3, vI s)]) C (by decide) rfl dX10_canBe_61 ?_
            refine j_iload (pc := 63) C 2 rfl dX10_canBe_63 ?_
            refine j_if_lt (pc := 65) C 109 rfl (by omega) dX10_canBe_65 (fun h_33p65 => ?_) (fun h_33p65 => ?_)
            · skip
              refine j_iconst (pc := 109) C dX10_canBe_109 ?_
              exact Rt _ _ _ _ _ _ (by decide) (by decide) (by decide) ⟨by split <;> omega, rfl⟩ dX10_canBe_110
            · skip
              refine j_iload (pc := 68) C 1 rfl dX10_canBe_68 ?_
              refine j_if_eq (pc := 70) C 109 rfl (by omega) dX10_canBe_70 (fun _ => ?_) (fun h_34 => absurd h_34 (by decide))
              refine j_iconst (pc := 109) C dX10_canBe_109 ?_
              exact Rt _ _ _ _ _ _ (by decide) (by decide) (by decide) ⟨by split <;> omega, rfl⟩ dX10_canBe_110
    · skip
      refine j_iconst (pc := 25) C dX10_canBe_25 ?_
      refine j_goto (pc := 26) C 30 rfl dX10_canBe_26 ?_
      refine j_istore (pc := 30) (lc' := [(5, vI 1), (4, vI ((pw (ps p) - w) - s)), (0, .ref h), (1, vI p), (2, vI w), (3, vI s)]) C (by decide) rfl dX10_canBe_30 ?_
      refine j_iload_n (pc := 32) C 3 5 rfl rfl dX10_canBe_32 ?_
      refine j_if_eq (pc := 33) C 56 rfl (by omega) dX10_canBe_33 (fun h_35p33 => ?_) (fun h_35p33 => ?_)
      · skip
        refine j_iconst (pc := 56) C dX10_canBe_56 ?_
        refine j_goto (pc := 57) C 61 rfl dX10_canBe_57 ?_
        refine j_istore (pc := 61) (lc' := [(6, vI 1), (5, vI 1), (4, vI ((pw (ps p) - w) - s)), (0, .ref h), (1, vI p), (2, vI w), (3, vI s)]) C (by decide) rfl dX10_canBe_61 ?_
        refine j_iload (pc := 63) C 2 rfl dX10_canBe_63 ?_
        refine j_if_lt (pc := 65) C 109 rfl (by omega) dX10_canBe_65 (fun h_36p65 => ?_) (fun h_36p65 => ?_)
        · skip
          refine j_iconst (pc := 109) C dX10_canBe_109 ?_
          exact Rt _ _ _ _ _ _ (by decide) (by decide) (by decide) ⟨by split <;> omega, rfl⟩ dX10_canBe_110
        · skip
          refine j_iload (pc := 68) C 1 rfl dX10_canBe_68 ?_
          refine j_if_eq (pc := 70) C 109 rfl (by omega) dX10_canBe_70 (fun h_37 => absurd h_37 (by decide)) (fun _ => ?_)
          refine j_iload (pc := 73) C 0 rfl dX10_canBe_73 ?_
          refine j_if_eq (pc := 75) C 109 rfl (by omega) dX10_canBe_75 (fun h_38 => absurd h_38 (by decide)) (fun _ => ?_)
          refine j_iload (pc := 78) C 2 rfl dX10_canBe_78 ?_
          refine j_if_eq (pc := 80) C 105 rfl (by omega) dX10_canBe_80 (fun h_39p80 => ?_) (fun h_39p80 => ?_)
          · skip
            refine j_iconst (pc := 105) C dX10_canBe_105 ?_
            refine j_goto (pc := 106) C 110 rfl dX10_canBe_106 ?_
            exact Rt _ _ _ _ _ _ (by decide) (by decide) (by decide) ⟨by split <;> omega, rfl⟩ dX10_canBe_110
          · skip
            refine j_aload_n (pc := 83) C 0 3 rfl rfl dX10_canBe_83 ?_
            refine j_get (pc := 84) C (Or.inr r0) rfl fX10_canBe_X10 12 (by decide) (List.mem_of_getElem? (i := 2) rfl) (Or.inl rfl) rfl dX10_canBe_84 ?_
            refine j_iload_n (pc := 87) C 1 4 rfl rfl dX10_canBe_87 ?_
            refine j_iald (pc := 88) C (Or.inr k3) rfl (by omega) (by decide) dX10_canBe_88 ?_
            refine j_st (st' := [vI (pi (ps p))]) rfl rfl rfl ?_
            refine j_bipush (pc := 89) (w := 10) C rfl dX10_canBe_89 ?_
            refine j_icmp_ge (pc := 91) C 109 rfl (by omega) dX10_canBe_91 (fun h_40p91 => ?_) (fun h_40p91 => ?_)
            · skip
              refine j_iconst (pc := 109) C dX10_canBe_109 ?_
              exact Rt _ _ _ _ _ _ (by decide) (by decide) (by decide) ⟨by split <;> omega, rfl⟩ dX10_canBe_110
            · skip
              refine j_aload_n (pc := 94) C 0 3 rfl rfl dX10_canBe_94 ?_
              refine j_get (pc := 95) C (Or.inr r0) rfl fX10_canBe_X10 13 (by decide) (List.mem_of_getElem? (i := 3) rfl) (Or.inl rfl) rfl dX10_canBe_95 ?_
              refine j_iload_n (pc := 98) C 1 4 rfl rfl dX10_canBe_98 ?_
              refine j_iald (pc := 99) C (Or.inr k4) rfl (by omega) (by decide) dX10_canBe_99 ?_
              refine j_st (st' := [vI (pz (ps p))]) rfl rfl rfl ?_
              refine j_bipush (pc := 100) (w := 10) C rfl dX10_canBe_100 ?_
              refine j_icmp_ge (pc := 102) C 109 rfl (by omega) dX10_canBe_102 (fun h_41p102 => ?_) (fun h_41p102 => ?_)
              · skip
                refine j_iconst (pc := 109) C dX10_canBe_109 ?_
                exact Rt _ _ _ _ _ _ (by decide) (by decide) (by decide) ⟨by split <;> omega, rfl⟩ dX10_canBe_110
              · skip
                refine j_iconst (pc := 105) C dX10_canBe_105 ?_
                refine j_goto (pc := 106) C 110 rfl dX10_canBe_106 ?_
                exact Rt _ _ _ _ _ _ (by decide) (by decide) (by decide) ⟨by split <;> omega, rfl⟩ dX10_canBe_110
      · skip
        refine j_aload_n (pc := 36) C 0 2 rfl rfl dX10_canBe_36 ?_
        refine j_get (pc := 37) C (Or.inr r0) rfl fX10_canBe_X10 12 (by decide) (List.mem_of_getElem? (i := 2) rfl) (Or.inl rfl) rfl dX10_canBe_37 ?_
        refine j_iload_n (pc := 40) C 1 3 rfl rfl dX10_canBe_40 ?_
        refine j_iald (pc := 41) C (Or.inr k3) rfl (by omega) (by decide) dX10_canBe_41 ?_
        refine j_st (st' := [vI (pi (ps p))]) rfl rfl rfl ?_
        refine j_bipush (pc := 42) (w := 10) C rfl dX10_canBe_42 ?_
        refine j_icmp_ge (pc := 44) C 60 rfl (by omega) dX10_canBe_44 (fun h_42p44 => ?_) (fun h_42p44 => ?_)
        · skip
          refine j_iconst (pc := 60) C dX10_canBe_60 ?_
          refine j_istore (pc := 61) (lc' := [(6, vI 0), (5, vI 1), (4, vI ((pw (ps p) - w) - s)), (0, .ref h), (1, vI p), (2, vI w), (3, vI s)]) C (by decide) rfl dX10_canBe_61 ?_
          refine j_iload (pc := 63) C 2 rfl dX10_canBe_63 ?_
          refine j_if_lt (pc := 65) C 109 rfl (by omega) dX10_canBe_65 (fun h_43p65 => ?_) (fun h_43p65 => ?_)
          · skip
            refine j_iconst (pc := 109) C dX10_canBe_109 ?_
            exact Rt _ _ _ _ _ _ (by decide) (by decide) (by decide) ⟨by split <;> omega, rfl⟩ dX10_canBe_110
          · skip
            refine j_iload (pc := 68) C 1 rfl dX10_canBe_68 ?_
            refine j_if_eq (pc := 70) C 109 rfl (by omega) dX10_canBe_70 (fun h_44 => absurd h_44 (by decide)) (fun _ => ?_)
            refine j_iload (pc := 73) C 0 rfl dX10_canBe_73 ?_
            refine j_if_eq (pc := 75) C 109 rfl (by omega) dX10_canBe_75 (fun _ => ?_) (fun h_45 => absurd h_45 (by decide))
            refine j_iconst (pc := 109) C dX10_canBe_109 ?_
            exact Rt _ _ _ _ _ _ (by decide) (by decide) (by decide) ⟨by split <;> omega, rfl⟩ dX10_canBe_110
        · skip
          refine j_aload_n (pc := 47) C 0 2 rfl rfl dX10_canBe_47 ?_
          refine j_get (pc := 48) C (Or.inr r0) rfl fX10_canBe_X10 13 (by decide) (List.mem_of_getElem? (i := 3) rfl) (Or.inl rfl) rfl dX10_canBe_48 ?_
          refine j_iload_n (pc := 51) C 1 3 rfl rfl dX10_canBe_51 ?_
          refine j_iald (pc := 52) C (Or.inr k4) rfl (by omega) (by decide) dX10_canBe_52 ?_
          refine j_st (st' := [vI (pz (ps p))]) rfl rfl rfl ?_
          refine j_if_le (pc := 53) C 60 rfl (by omega) dX10_canBe_53 (fun h_46p53 => ?_) (fun h_46p53 => ?_)
          · skip
            refine j_iconst (pc := 60) C dX10_canBe_60 ?_
            refine j_istore (pc := 61) (lc' := [(6, vI 0), (5, vI 1), (4, vI ((pw (ps p) - w) - s)), (0, .ref h), (1, vI p), (2, vI w), (3, vI s)]) C (by decide) rfl dX10_canBe_61 ?_
            refine j_iload (pc := 63) C 2 rfl dX10_canBe_63 ?_
            refine j_if_lt (pc := 65) C 109 rfl (by omega) dX10_canBe_65 (fun h_47p65 => ?_) (fun h_47p65 => ?_)
            · skip
              refine j_iconst (pc := 109) C dX10_canBe_109 ?_
              exact Rt _ _ _ _ _ _ (by decide) (by decide) (by decide) ⟨by split <;> omega, rfl⟩ dX10_canBe_110
            · skip
              refine j_iload (pc := 68) C 1 rfl dX10_canBe_68 ?_
              refine j_if_eq (pc := 70) C 109 rfl (by omega) dX10_canBe_70 (fun h_48 => absurd h_48 (by decide)) (fun _ => ?_)
              refine j_iload (pc := 73) C 0 rfl dX10_canBe_73 ?_
              refine j_if_eq (pc := 75) C 109 rfl (by omega) dX10_canBe_75 (fun _ => ?_) (fun h_49 => absurd h_49 (by decide))
              refine j_iconst (pc := 109) C dX10_canBe_109 ?_
              exact Rt _ _ _ _ _ _ (by decide) (by decide) (by decide) ⟨by split <;> omega, rfl⟩ dX10_canBe_110
          · skip
            refine j_iconst (pc := 56) C dX10_canBe_56 ?_
            refine j_goto (pc := 57) C 61 rfl dX10_canBe_57 ?_
            refine j_istore (pc := 61) (lc' := [(6, vI 1), (5, vI 1), (4, vI ((pw (ps p) - w) - s)), (0, .ref h), (1, vI p), (2, vI w), (3, vI s)]) C (by decide) rfl dX10_canBe_61 ?_
            refine j_iload (pc := 63) C 2 rfl dX10_canBe_63 ?_
            refine j_if_lt (pc := 65) C 109 rfl (by omega) dX10_canBe_65 (fun h_50p65 => ?_) (fun h_50p65 => ?_)
            · skip
              refine j_iconst (pc := 109) C dX10_canBe_109 ?_
              exact Rt _ _ _ _ _ _ (by decide) (by decide) (by decide) ⟨by split <;> omega, rfl⟩ dX10_canBe_110
            · skip
              refine j_iload (pc := 68) C 1 rfl dX10_canBe_68 ?_
              refine j_if_eq (pc := 70) C 109 rfl (by omega) dX10_canBe_70 (fun h_51 => absurd h_51 (by decide)) (fun _ => ?_)
              refine j_iload (pc := 73) C 0 rfl dX10_canBe_73 ?_
              refine j_if_eq (pc := 75) C 109 rfl (by omega) dX10_canBe_75 (fun h_52 => absurd h_52 (by decide)) (fun _ => ?_)
              refine j_iload (pc := 78) C 2 rfl dX10_canBe_78 ?_
              refine j_if_eq (pc := 80) C 105 rfl (by omega) dX10_canBe_80 (fun h_53p80 => ?_) (fun h_53p80 => ?_)
              · skip
                refine j_iconst (pc := 105) C dX10_canBe_105 ?_
                refine j_goto (pc := 106) C 110 rfl dX10_canBe_106 ?_
                exact Rt _ _ _ _ _ _ (by decide) (by decide) (by decide) ⟨by split <;> omega, rfl⟩ dX10_canBe_110
              · skip
                refine j_aload_n (pc := 83) C 0 3 rfl rfl dX10_canBe_83 ?_
                refine j_get (pc := 84) C (Or.inr r0) rfl fX10_canBe_X10 12 (by decide) (List.mem_of_getElem? (i := 2) rfl) (Or.inl rfl) rfl dX10_canBe_84 ?_
                refine j_iload_n (pc := 87) C 1 4 rfl rfl dX10_canBe_87 ?_
                refine j_iald (pc := 88) C (Or.inr k3) rfl (by omega) (by decide) dX10_canBe_88 ?_
                refine j_st (st' := [vI (pi (ps p))]) rfl rfl rfl ?_
                refine j_bipush (pc := 89) (w := 10) C rfl dX10_canBe_89 ?_
                refine j_icmp_ge (pc := 91) C 109 rfl (by omega) dX10_canBe_91 (fun h_54p91 => ?_) (fun h_54p91 => ?_)
                · skip
                  refine j_iconst (pc := 109) C dX10_canBe_109 ?_
                  exact Rt _ _ _ _ _ _ (by decide) (by decide) (by decide) ⟨by split <;> omega, rfl⟩ dX10_canBe_110
                · skip
                  refine j_aload_n (pc := 94) C 0 3 rfl rfl dX10_canBe_94 ?_
                  refine j_get (pc := 95) C (Or.inr r0) rfl fX10_canBe_X10 13 (by decide) (List.mem_of_getElem? (i := 3) rfl) (Or.inl rfl) rfl dX10_canBe_95 ?_
                  refine j_iload_n (pc := 98) C 1 4 rfl rfl dX10_canBe_98 ?_
                  refine j_iald (pc := 99) C (Or.inr k4) rfl (by omega) (by decide) dX10_canBe_99 ?_
                  refine j_st (st' := [vI (pz (ps p))]) rfl rfl rfl ?_
                  refine j_bipush (pc := 100) (w := 10) C rfl dX10_canBe_100 ?_
                  refine j_icmp_ge (pc := 102) C 109 rfl (by omega) dX10_canBe_102 (fun h_55p102 => ?_) (fun h_55p102 => ?_)
                  · skip
                    refine j_iconst (pc := 109) C dX10_canBe_109 ?_
                    exact Rt _ _ _ _ _ _ (by decide) (by decide) (by decide) ⟨by split <;> omega, rfl⟩ dX10_canBe_110
                  · skip
                    refine j_iconst (pc := 105) C dX10_canBe_105 ?_
                    refine j_goto (pc := 106) C 110 rfl dX10_canBe_106 ?_
                    exact Rt _ _ _ _ _ _ (by decide) (by decide) (by decide) ⟨by split <;> omega, rfl⟩ dX10_canBe_110

theorem fX10_addWay_X10 : ∀ w ∈ u_ws RX10 TX10 35, w ∈ wsX10_addWay := j_words [10, 11, 12, 13, 14, 15, 16, 17, 18, 19, 20, 21, 22, 23, 24, 25, 26, 27, 28, 29, 30, 31, 32, 33, 34, 35, 36, 37, 38, 39, 40, 41, 42, 43, 44] (by decide +kernel)
set_option maxHeartbeats 4000000 in
set_option maxRecDepth 100000 in
theorem m_addWay (l : Launch) (D : va_G) (Y : Nat → ClassId) (RO : va_W) (h : Nat) (r : Nat → Nat) (S : MS) (G : GS) (f : Int → Int) (mo : Int → Int) (f2 : Int → Int) (m2 : Int → Int) (bb : Int) (s : Int) (r0 : (h, oC 9 [.ref (r 0), .ref (r 1), vI (ms_w S), vI (ms_l S), vL (ms_s S), vI (ms_a S), vI (ms_t S), vI (ms_p S), vI (g_np G), .ref (r 9), .ref (r 10), .ref (r 11), .ref (r 12), .ref (r 13), vI (g_nc G), .ref (r 15), .ref (r 16), .ref (r 17), vI (g_pl G), .ref (r 19), vI (g_ik G), vL (g_ks G), .ref (r 22), vL (g_ss G), .ref (r 24), vI (g_fa G), vI (g_iw G), vI (g_nw G), vI (g_ns G), vI (g_ne G), .ref (r 30), .ref (r 31), .ref (r 32), .ref (r 33), vL (g_h G)]) ∈ RO) (w0 : ((r 30), aI (Y 0) 271 f) ∈ RO) (w1 : ((r 31), aI (Y 0) 271 mo) ∈ RO) (hbb : -9 ≤ bb ∧ bb ≤ 36) (hs : 0 ≤ s ∧ s ≤ 9) (hf : ∀ j, 0 ≤ j ∧ j < 271 → 0 ≤ f j ∧ f j ≤ 268435456) (hmo : ∀ j, 0 ≤ j ∧ j < 271 → -1 ≤ mo j ∧ mo j ≤ 500) (hf2 : ∀ j, 0 ≤ j ∧ j < 271 → 0 ≤ f2 j ∧ f2 j ≤ 268435456) (hm2 : ∀ j, 0 ≤ j ∧ j < 271 → -1 ≤ m2 j ∧ m2 j ≤ 1000) : jMv l yX10_addWay wsX10_addWay { frames := 1, cells := 0, slots := 0, locals := 22 } D Y RO [.ref h, vI bb, vI s] [((r 32), aI (Y 0) 271 f2), ((r 33), aI (Y 0) 271 m2)] (fun w1 => w1 = [((r 32), aI (Y 0) 271 (waysF 1 f f bb s f2)), ((r 33), aI (Y 0) 271 (waysF (-1) f mo bb s m2))]) := by
  refine j_ofv RX10 rfl rfl rfl (Nat.le_of_ble_eq_true rfl) (fun X C Rt hI => ?_)
  refine j_iconst (pc := 0) C dX10_addWay_0 ?_
  refine j_istore_n (pc := 1) (lc' := [(3, vI 0), (0, .ref h), (1, vI bb), (2, vI s)]) C 3 rfl (by decide) rfl dX10_addWay_1 ?_
  have hL2 : ∀ (N2 : Nat) (i : Int) (z : Int → Int) (z2 : Int → Int), ((271 - i).toNat) < N2 → (0 ≤ i ∧ i ≤ 271) → (z = fo (wayF 1 f f bb s) i f2) → (z2 = fo (wayF (-1) f mo bb s) i m2) → (∀ j, 0 ≤ j ∧ j < 271 → 0 ≤ z j ∧ z j ≤ 268435456) → (∀ j, 0 ≤ j ∧ j < 271 → -1 ≤ z2 j ∧ z2 j ≤ 1000) → jW X 7 0 0 [((r 32), aI (Y 0) 271 z), ((r 33), aI (Y 0) 271 z2)] [(0, .ref h), (1, vI bb), (2, vI s), (3, vI i)] 2 [] := by
    intro N2
    induction N2 with
    | zero => intro i z z2 hm2 i2_0 i2_1 i2_2 i2_3 i2_4; omega
    | succ N2 ih2 =>
      intro i z z2 hm2 i2_0 i2_1 i2_2 i2_3 i2_4
      refine j_iload_n (pc := 2) C 3 3 rfl rfl dX10_addWay_2 ?_
      refine j_sipush (pc := 3) (w := 271) C rfl dX10_addWay_3 ?_
      refine j_icmp_ge (pc := 6) C 125 rfl (by omega) dX10_addWay_6 (fun h_1p6 => ?_) (fun h_1p6 => ?_)
      · skip
        exact Rt _ _ _ _ _ (by decide) (by decide) (by unfold waysF; rw [i2_1, i2_2, show i = 271 by omega]) dX10_addWay_125
      · skip
        refine j_iload_n (pc := 9) C 3 3 rfl rfl dX10_addWay_9 ?_
        refine j_iload_n (pc := 10) C 1 1 rfl rfl dX10_addWay_10 ?_
        refine j_iadd (pc := 11) C dX10_addWay_11 ?_
        refine j_istore (pc := 12) (lc' := [(4, vI (i + bb)), (0, .ref h), (1, vI bb), (2, vI s), (3, vI i)]) C (by decide) rfl dX10_addWay_12 ?_
        refine j_aload_n (pc := 14) C 0 1 rfl rfl dX10_addWay_14 ?_
        refine j_get (pc := 15) C (Or.inr r0) rfl fX10_addWay_X10 30 (by decide) (List.mem_of_getElem? (i := 1) rfl) (Or.inl rfl) rfl dX10_addWay_15 ?_
        refine j_iload_n (pc := 18) C 3 4 rfl rfl dX10_addWay_18 ?_
        refine j_iald (pc := 19) C (Or.inr w0) rfl (by omega) (by decide) dX10_addWay_19 ?_
        have f_2 := hf i (by omega)
        refine j_ldc (pc := 20) (w := 268435456) C (List.mem_of_getElem? (i := 2) rfl) dX10_addWay_20 ?_
        refine j_icmp_ge (pc := 22) C 119 rfl (by omega) dX10_addWay_22 (fun h_3p22 => ?_) (fun h_3p22 => ?_)
        · skip
          refine j_iinc (pc := 119) (lc' := [(3, vI (i + 1)), (4, vI (i + bb)), (0, .ref h), (1, vI bb), (2, vI s)]) C 4 rfl (by decide) rfl dX10_addWay_119 ?_
          refine j_goto (pc := 122) C 2 rfl dX10_addWay_122 ?_
          refine j_locals (lc' := [(0, .ref h), (1, vI bb), (2, vI s), (3, vI (i + 1))]) [2, 3, 4, 0] rfl ?_
          exact ih2 (i + 1) z z2 (by omega) (by omega) (by rw [fo_succ _ (by omega)]; rw [← i2_1]; first | (rw [wayF_o (by omega)]; done) | (rw [wayF_y (by omega) (by omega)]; done) | (rw [wayF_n (by omega) (by omega), up_self]; done) | (rw [wayF_n (by omega) (by omega)]; done)) (by rw [fo_succ _ (by omega)]; rw [← i2_2]; first | (rw [wayF_o (by omega)]; done) | (rw [wayF_y (by omega) (by omega)]; done) | (rw [wayF_n (by omega) (by omega), up_self]; done) | (rw [wayF_n (by omega) (by omega)]; done)) (by first | exact i2_3 | exact up_rng i2_3 (by omega)) (by first | exact i2_4 | exact up_rng i2_4 (by omega))
        · skip
          refine j_iload (pc := 25) C 0 rfl dX10_addWay_25 ?_
          refine j_iconst (pc := 27) C dX10_addWay_27 ?_
          refine j_sipush (pc := 28) (w := 270) C rfl dX10_addWay_28 ?_
          refine j_callSi (pc := 31) (As := [vI (i + bb), vI 0, vI 270]) (na := 3) (st := []) C [] [0, 1] (wr := [((r 32), aI (Y 0) 271 z), ((r 33), aI (Y 0) 271 z2)]) (fun l => m_within l D Y _ (i + bb) 0 270 (by first | assumption | omega) (by first | assumption | omega) (by first | assumption | omega)) rfl rfl rfl rfl (by decide) rfl gX10_addWay_X10_within (by decide +kernel) (by decide) rfl rfl (Nat.le_of_ble_eq_true rfl) (by decide) dX10_addWay_31 (fun e_4 w_5 h_6 => ?_)
          obtain ⟨rfl, rfl⟩ := h_6
          refine j_perm (ws' := [((r 32), aI (Y 0) 271 z), ((r 33), aI (Y 0) 271 z2)]) [0, 1] rfl rfl ?_
          refine j_if_eqb (pc := 34) C 119 rfl dX10_addWay_34 (fun h_7p34 => ?_) (fun h_7p34 => ?_)
          · skip
            refine j_iinc (pc := 119) (lc' := [(3, vI (i + 1)), (4, vI (i + bb)), (0, .ref h), (1, vI bb), (2, vI s)]) C 4 rfl (by decide) rfl dX10_addWay_119 ?_
            refine j_goto (pc := 122) C 2 rfl dX10_addWay_122 ?_
            refine j_locals (lc' := [(0, .ref h), (1, vI bb), (2, vI s), (3, vI (i + 1))]) [2, 3, 4, 0] rfl ?_
            exact ih2 (i + 1) z z2 (by omega) (by omega) (by rw [fo_succ _ (by omega)]; rw [← i2_1]; first | (rw [wayF_o (by omega)]; done) | (rw [wayF_y (by omega) (by omega)]; done) | (rw [wayF_n (by omega) (by omega), up_self]; done) | (rw [wayF_n (by omega) (by omega)]; done)) (by rw [fo_succ _ (by omega)]; rw [← i2_2]; first | (rw [wayF_o (by omega)]; done) | (rw [wayF_y (by omega) (by omega)]; done) | (rw [wayF_n (by omega) (by omega), up_self]; done) | (rw [wayF_n (by omega) (by omega)]; done)) (by first | exact i2_3 | exact up_rng i2_3 (by omega)) (by first | exact i2_4 | exact up_rng i2_4 (by omega))
          · skip
            refine j_aload_n (pc := 37) C 0 1 rfl rfl dX10_addWay_37 ?_
            refine j_get (pc := 38) C (Or.inr r0) rfl fX10_addWay_X10 30 (by decide) (List.mem_of_getElem? (i := 1) rfl) (Or.inl rfl) rfl dX10_addWay_38 ?_
            refine j_iload_n (pc := 41) C 3 4 rfl rfl dX10_addWay_41 ?_
            refine j_iald (pc := 42) C (Or.inr w0) rfl (by omega) (by decide) dX10_addWay_42 ?_
            have f_8 := hf i (by omega)
            refine j_iload_n (pc := 43) C 2 3 rfl rfl dX10_addWay_43 ?_
            refine j_iadd (pc := 44) C dX10_addWay_44 ?_
            refine j_istore (pc := 45) (lc' := [(5, vI (f i + s)), (4, vI (i + bb)), (0, .ref h), (1, vI bb), (2, vI s), (3, vI i)]) C (by decide) rfl dX10_addWay_45 ?_
            refine j_aload_n (pc := 47) C 0 2 rfl rfl dX10_addWay_47 ?_
            refine j_get (pc := 48) C (Or.inr r0) rfl fX10_addWay_X10 31 (by decide) (List.mem_of_getElem? (i := 3) rfl) (Or.inl rfl) rfl dX10_addWay_48 ?_
            refine j_iload_n (pc := 51) C 3 5 rfl rfl dX10_addWay_51 ?_
            refine j_iald (pc := 52) C (Or.inr w1) rfl (by omega) (by decide) dX10_addWay_52 ?_
            have f_9 := hmo i (by omega)
            refine j_iload_n (pc := 53) C 2 4 rfl rfl dX10_addWay_53 ?_
            refine j_iadd (pc := 54) C dX10_addWay_54 ?_
            refine j_istore (pc := 55) (lc' := [(6, vI (mo i + s)), (5, vI (f i + s)), (4, vI (i + bb)), (0, .ref h), (1, vI bb), (2, vI s), (3, vI i)]) C (by decide) rfl dX10_addWay_55 ?_
            refine j_aload_n (pc := 57) C 0 3 rfl rfl dX10_addWay_57 ?_
            refine j_get (pc := 58) C (Or.inr r0) rfl fX10_addWay_X10 32 (by decide) (List.mem_of_getElem? (i := 4) rfl) (Or.inl rfl) rfl dX10_addWay_58 ?_
            refine j_iload (pc := 61) C 2 rfl dX10_addWay_61 ?_
            refine j_iload (pc := 63) C 1 rfl dX10_addWay_63 ?_
            refine j_aload_n (pc := 65) C 0 3 rfl rfl dX10_addWay_65 ?_
            refine j_get (pc := 66) C (Or.inr r0) rfl fX10_addWay_X10 32 (by decide) (List.mem_of_getElem? (i := 4) rfl) (Or.inl rfl) rfl dX10_addWay_66 ?_
            refine j_iload (pc := 69) C 2 rfl dX10_addWay_69 ?_
            refine j_iald (pc := 71) C (Or.inl (List.mem_of_getElem? (i := 0) rfl)) rfl (by omega) (by decide) dX10_addWay_71 ?_
            have f_10 := i2_3 (i + bb) (by omega)
            refine j_icmp_ge (pc := 72) C 80 rfl (by omega) dX10_addWay_72 (fun h_11p72 => ?_) (fun h_11p72 => ?_)
            · skip
              refine j_aload_n (pc := 80) C 0 3 rfl rfl dX10_addWay_80 ?_
              refine j_get (pc := 81) C (Or.inr r0) rfl fX10_addWay_X10 32 (by decide) (List.mem_of_getElem? (i := 4) rfl) (Or.inl rfl) rfl dX10_addWay_81 ?_
              refine j_iload (pc := 84) C 2 rfl dX10_addWay_84 ?_
              refine j_iald (pc := 86) C (Or.inl (List.mem_of_getElem? (i := 0) rfl)) rfl (by omega) (by decide) dX10_addWay_86 ?_
              have f_12 := i2_3 (i + bb) (by omega)
              refine j_iast (pc := 87) (ws' := [((r 32), aI (Y 0) 271 (up z (i + bb) (z (i + bb)))), ((r 33), aI (Y 0) 271 z2)]) C 0 rfl rfl (by omega) (by decide) rfl dX10_addWay_87 ?_
              refine j_aload_n (pc := 88) C 0 3 rfl rfl dX10_addWay_88 ?_
              refine j_get (pc := 89) C (Or.inr r0) rfl fX10_addWay_X10 33 (by decide) (List.mem_of_getElem? (i := 5) rfl) (Or.inl rfl) rfl dX10_addWay_89 ?_
              refine j_iload (pc := 92) C 2 rfl dX10_addWay_92 ?_
              refine j_iload (pc := 94) C 0 rfl dX10_addWay_94 ?_
              refine j_aload_n (pc := 96) C 0 3 rfl rfl dX10_addWay_96 ?_
              refine j_get (pc := 97) C (Or.inr r0) rfl fX10_addWay_X10 33 (by decide) (List.mem_of_getElem? (i := 5) rfl) (Or.inl rfl) rfl dX10_addWay_97 ?_
              refine j_iload (pc := 100) C 2 rfl dX10_addWay_100 ?_
              refine j_iald (pc := 102) C (Or.inl (List.mem_of_getElem? (i := 1) rfl)) rfl (by omega) (by decide) dX10_addWay_102 ?_
              have f_13 := i2_4 (i + bb) (by omega)
              refine j_icmp_le (pc := 103) C 111 rfl (by omega) dX10_addWay_103 (fun h_14p103 => ?_) (fun h_14p103 => ?_)
              · skip
                refine j_aload_n (pc := 111) C 0 3 rfl rfl dX10_addWay_111 ?_
                refine j_get (pc := 112) C (Or.inr r0) rfl fX10_addWay_X10 33 (by decide) (List.mem_of_getElem? (i := 5) rfl) (Or.inl rfl) rfl dX10_addWay_112 ?_
                refine j_iload (pc := 115) C 2 rfl dX10_addWay_115 ?_
                refine j_iald (pc := 117) C (Or.inl (List.mem_of_getElem? (i := 1) rfl)) rfl (by omega) (by decide) dX10_addWay_117 ?_
                have f_15 := i2_4 (i + bb) (by omega)
                refine j_iast (pc := 118) (ws' := [((r 32), aI (Y 0) 271 (up z (i + bb) (z (i + bb)))), ((r 33), aI (Y 0) 271 (up z2 (i + bb) (z2 (i + bb))))]) C 1 rfl rfl (by omega) (by decide) rfl dX10_addWay_118 ?_
                refine j_iinc (pc := 119) (lc' := [(3, vI (i + 1)), (6, vI (mo i + s)), (5, vI (f i + s)), (4, vI (i + bb)), (0, .ref h), (1, vI bb), (2, vI s)]) C 6 rfl (by decide) rfl dX10_addWay_119 ?_
                refine j_goto (pc := 122) C 2 rfl dX10_addWay_122 ?_
                refine j_locals (lc' := [(0, .ref h), (1, vI bb), (2, vI s), (3, vI (i + 1))]) [4, 5, 6, 0] rfl ?_
                exact ih2 (i + 1) (up z (i + bb) (z (i + bb))) (up z2 (i + bb) (z2 (i + bb))) (by omega) (by omega) (by rw [fo_succ _ (by omega)]; rw [← i2_1]; first | (rw [wayF_o (by omega)]; done) | (rw [wayF_y (by omega) (by omega)]; done) | (rw [wayF_n (by omega) (by omega), up_self]; done) | (rw [wayF_n (by omega) (by omega)]; done)) (by rw [fo_succ _ (by omega)]; rw [← i2_2]; first | (rw [wayF_o (by omega)]; done) | (rw [wayF_y (by omega) (by omega)]; done) | (rw [wayF_n (by omega) (by omega), up_self]; done) | (rw [wayF_n (by omega) (by omega)]; done)) (by first | exact i2_3 | exact up_rng i2_3 (by omega)) (by first | exact i2_4 | exact up_rng i2_4 (by omega))
              · skip
                refine j_iload (pc := 106) C 0 rfl dX10_addWay_106 ?_
                refine j_goto (pc := 108) C 118 rfl dX10_addWay_108 ?_
                refine j_iast (pc := 118) (ws' := [((r 32), aI (Y 0) 271 (up z (i + bb) (z (i + bb)))), ((r 33), aI (Y 0) 271 (up z2 (i + bb) (mo i + s)))]) C 1 rfl rfl (by omega) (by decide) rfl dX10_addWay_118 ?_
                refine j_iinc (pc := 119) (lc' := [(3, vI (i + 1)), (6, vI (mo i + s)), (5, vI (f i + s)), (4, vI (i + bb)), (0, .ref h), (1, vI bb), (2, vI s)]) C 6 rfl (by decide) rfl dX10_addWay_119 ?_
                refine j_goto (pc := 122) C 2 rfl dX10_addWay_122 ?_
                refine j_locals (lc' := [(0, .ref h), (1, vI bb), (2, vI s), (3, vI (i + 1))]) [4, 5, 6, 0] rfl ?_
                exact ih2 (i + 1) (up z (i + bb) (z (i + bb))) (up z2 (i + bb) (mo i + s)) (by omega) (by omega) (by rw [fo_succ _ (by omega)]; rw [← i2_1]; first | (rw [wayF_o (by omega)]; done) | (rw [wayF_y (by omega) (by omega)]; done) | (rw [wayF_n (by omega) (by omega), up_self]; done) | (rw [wayF_n (by omega) (by omega)]; done)) (by rw [fo_succ _ (by omega)]; rw [← i2_2]; first | (rw [wayF_o (by omega)]; done) | (rw [wayF_y (by omega) (by omega)]; done) | (rw [wayF_n (by omega) (by omega), up_self]; done) | (rw [wayF_n (by omega) (by omega)]; done)) (by first | exact i2_3 | exact up_rng i2_3 (by omega)) (by first | exact i2_4 | exact up_rng i2_4 (by omega))
            · skip
              refine j_iload (pc := 75) C 1 rfl dX10_addWay_75 ?_
              refine j_goto (pc := 77) C 87 rfl dX10_addWay_77 ?_
              refine j_iast (pc := 87) (ws' := [((r 32), aI (Y 0) 271 (up z (i + bb) (f i + s))), ((r 33), aI (Y 0) 271 z2)]) C 0 rfl rfl (by omega) (by decide) rfl dX10_addWay_87 ?_
              refine j_aload_n (pc := 88) C 0 3 rfl rfl dX10_addWay_88 ?_
              refine j_get (pc := 89) C (Or.inr r0) rfl fX10_addWay_X10 33 (by decide) (List.mem_of_getElem? (i := 5) rfl) (Or.inl rfl) rfl dX10_addWay_89 ?_
              refine j_iload (pc := 92) C 2 rfl dX10_addWay_92 ?_
              refine j_iload (pc := 94) C 0 rfl dX10_addWay_94 ?_
              refine j_aload_n (pc := 96) C 0 3 rfl rfl dX10_addWay_96 ?_
              refine j_get (pc := 97) C (Or.inr r0) rfl fX10_addWay_X10 33 (by decide) (List.mem_of_getElem? (i := 5) rfl) (Or.inl rfl) rfl dX10_addWay_97 ?_
              refine j_iload (pc := 100) C 2 rfl dX10_addWay_100 ?_
              refine j_iald (pc := 102) C (Or.inl (List.mem_of_getElem? (i := 1) rfl)) rfl (by omega) (by decide) dX10_addWay_102 ?_
              have f_16 := i2_4 (i + bb) (by omega)
              refine j_icmp_le (pc := 103) C 111 rfl (by omega) dX10_addWay_103 (fun h_17p103 => ?_) (fun h_17p103 => ?_)
              · skip
                refine j_aload_n (pc := 111) C 0 3 rfl rfl dX10_addWay_111 ?_
                refine j_get (pc := 112) C (Or.inr r0) rfl fX10_addWay_X10 33 (by decide) (List.mem_of_getElem? (i := 5) rfl) (Or.inl rfl) rfl dX10_addWay_112 ?_
                refine j_iload (pc := 115) C 2 rfl dX10_addWay_115 ?_
                refine j_iald (pc := 117) C (Or.inl (List.mem_of_getElem? (i := 1) rfl)) rfl (by omega) (by decide) dX10_addWay_117 ?_
                have f_18 := i2_4 (i + bb) (by omega)
                refine j_iast (pc := 118) (ws' := [((r 32), aI (Y 0) 271 (up z (i + bb) (f i + s))), ((r 33), aI (Y 0) 271 (up z2 (i + bb) (z2 (i + bb))))]) C 1 rfl rfl (by omega) (by decide) rfl dX10_addWay_118 ?_
                refine j_iinc (pc := 119) (lc' := [(3, vI (i + 1)), (6, vI (mo i + s)), (5, vI (f i + s)), (4, vI (i + bb)), (0, .ref h), (1, vI bb), (2, vI s)]) C 6 rfl (by decide) rfl dX10_addWay_119 ?_
                refine j_goto (pc := 122) C 2 rfl dX10_addWay_122 ?_
                refine j_locals (lc' := [(0, .ref h), (1, vI bb), (2, vI s), (3, vI (i + 1))]) [4, 5, 6, 0] rfl ?_
                exact ih2 (i + 1) (up z (i + bb) (f i + s)) (up z2 (i + bb) (z2 (i + bb))) (by omega) (by omega) (by rw [fo_succ _ (by omega)]; rw [← i2_1]; first | (rw [wayF_o (by omega)]; done) | (rw [wayF_y (by omega) (by omega)]; done) | (rw [wayF_n (by omega) (by omega), up_self]; done) | (rw [wayF_n (by omega) (by omega)]; done)) (by rw [fo_succ _ (by omega)]; rw [← i2_2]; first | (rw [wayF_o (by omega)]; done) | (rw [wayF_y (by omega) (by omega)]; done) | (rw [wayF_n (by omega) (by omega), up_self]; done) | (rw [wayF_n (by omega) (by omega)]; done)) (by first | exact i2_3 | exact up_rng i2_3 (by omega)) (by first | exact i2_4 | exact up_rng i2_4 (by omega))
              · skip
                refine j_iload (pc := 106) C 0 rfl dX10_addWay_106 ?_
                refine j_goto (pc := 108) C 118 rfl dX10_addWay_108 ?_
                refine j_iast (pc := 118) (ws' := [((r 32), aI (Y 0) 271 (up z (i + bb) (f i + s))), ((r 33), aI (Y 0) 271 (up z2 (i + bb) (mo i + s)))]) C 1 rfl rfl (by omega) (by decide) rfl dX10_addWay_118 ?_
                refine j_iinc (pc := 119) (lc' := [(3, vI (i + 1)), (6, vI (mo i + s)), (5, vI (f i + s)), (4, vI (i + bb)), (0, .ref h), (1, vI bb), (2, vI s)]) C 6 rfl (by decide) rfl dX10_addWay_119 ?_
                refine j_goto (pc := 122) C 2 rfl dX10_addWay_122 ?_
                refine j_locals (lc' := [(0, .ref h), (1, vI bb), (2, vI s), (3, vI (i + 1))]) [4, 5, 6, 0] rfl ?_
                exact ih2 (i + 1) (up z (i + bb) (f i + s)) (up z2 (i + bb) (mo i + s)) (by omega) (by omega) (by rw [fo_succ _ (by omega)]; rw [← i2_1]; first | (rw [wayF_o (by omega)]; done) | (rw [wayF_y (by omega) (by omega)]; done) | (rw [wayF_n (by omega) (by omega), up_self]; done) | (rw [wayF_n (by omega) (by omega)]; done)) (by rw [fo_succ _ (by omega)]; rw [← i2_2]; first | (rw [wayF_o (by omega)]; done) | (rw [wayF_y (by omega) (by omega)]; done) | (rw [wayF_n (by omega) (by omega), up_self]; done) | (rw [wayF_n (by omega) (by omega)]; done)) (by first | exact i2_3 | exact up_rng i2_3 (by omega)) (by first | exact i2_4 | exact up_rng i2_4 (by omega))
  refine j_locals (lc' := [(0, .ref h), (1, vI bb), (2, vI s), (3, vI 0)]) [1, 2, 3, 0] rfl ?_
  exact hL2 _ 0 f2 m2 (Nat.lt_succ_self _) (by omega) rfl rfl hf2 hm2
