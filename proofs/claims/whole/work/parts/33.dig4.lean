theorem fX10_digest_X10 : ∀ w ∈ u_ws RX10 TX10 35, w ∈ wsX10_digest := j_words [148, 149, 150, 151, 152, 153, 154, 155, 156, 157, 158, 159, 160, 161, 162, 163, 164, 165, 166, 167, 168, 169, 170, 171, 172, 173, 174, 175, 176, 177, 178, 179, 180, 181, 182] (by decide +kernel)
set_option maxHeartbeats 4000000 in
set_option maxRecDepth 100000 in
theorem m_digest (l : Launch) (D : va_G) (Y : Nat → ClassId) (RO : va_W) (h : Nat) (r : Nat → Nat) (S : MS) (G : GS) (cs : Int → CT) (ps : Int → PT) (f : Int → Int) (mo : Int → Int) (f2 : Int → Int) (m2 : Int → Int) (v : Int → Int) (pg : Int → Int) (k0 : ((r 9), aI (Y 0) 6 (kof ps)) ∈ RO) (k1 : ((r 10), aI (Y 0) 6 (nof ps)) ∈ RO) (k2 : ((r 11), aI (Y 0) 6 (wof ps)) ∈ RO) (k3 : ((r 12), aI (Y 0) 6 (iof ps)) ∈ RO) (k4 : ((r 13), aI (Y 0) 6 (zof ps)) ∈ RO) (q0 : ((r 15), aI (Y 0) 4 (cwof cs)) ∈ RO) (q1 : ((r 16), aI (Y 0) 4 (czof cs)) ∈ RO) (q2 : ((r 17), aI (Y 0) 4 (ceof cs)) ∈ RO) (p0 : ((r 19), aI (Y 1) 16 pg) ∈ RO) (hS : okS S) (hw : ms_w S ≤ 9999) (hnp : 0 ≤ g_np G ∧ g_np G ≤ 6) (hps : ∀ i, 0 ≤ i ∧ i < g_np G → okP (ps i)) (hnc : 0 ≤ g_nc G ∧ g_nc G ≤ 4) (hcs : ∀ i, 0 ≤ i ∧ i < g_nc G → okC (cs i)) (hp : okPg pg (g_pl G)) : jMl l yX10_digest wsX10_digest { frames := 6, cells := 0, slots := 0, locals := 137 } D Y RO [.ref h] [(h, oC 9 [.ref (r 0), .ref (r 1), vI (ms_w S), vI (ms_l S), vL (ms_s S), vI (ms_a S), vI (ms_t S), vI (ms_p S), vI (g_np G), .ref (r 9), .ref (r 10), .ref (r 11), .ref (r 12), .ref (r 13), vI (g_nc G), .ref (r 15), .ref (r 16), .ref (r 17), vI (g_pl G), .ref (r 19), vI (g_ik G), vL (g_ks G), .ref (r 22), vL (g_ss G), .ref (r 24), vI (g_fa G), vI (g_iw G), vI (g_nw G), vI (g_ns G), vI (g_ne G), .ref (r 30), .ref (r 31), .ref (r 32), .ref (r 33), vL (g_h G)]), ((r 1), aI (Y 0) 7 (ms_h S)), ((r 0), aI (Y 0) 420 (ms_m S)), ((r 24), aI (Y 0) 432 v), ((r 30), aI (Y 0) 271 f), ((r 31), aI (Y 0) 271 mo), ((r 32), aI (Y 0) 271 f2), ((r 33), aI (Y 0) 271 m2)] (fun e w1 => e = (rDig (g_np G) (g_nc G) (g_pl G) cs ps pg S) ∧ ∃ (G1 : GS) (v1 fq mq f2q m2q : Int → Int), gEq G G1 ∧ w1 = [(h, oC 9 [.ref (r 0), .ref (r 1), vI (ms_w S), vI (ms_l S), vL (ms_s S), vI (ms_a S), vI (ms_t S), vI (ms_p S), vI (g_np G1), .ref (r 9), .ref (r 10), .ref (r 11), .ref (r 12), .ref (r 13), vI (g_nc G1), .ref (r 15), .ref (r 16), .ref (r 17), vI (g_pl G1), .ref (r 19), vI (g_ik G1), vL (g_ks G1), .ref (r 22), vL (g_ss G1), .ref (r 24), vI (g_fa G1), vI (g_iw G1), vI (g_nw G1), vI (g_ns G1), vI (g_ne G1), .ref (r 30), .ref (r 31), .ref (r 32), .ref (r 33), vL (g_h G1)]), ((r 1), aI (Y 0) 7 (ms_h S)), ((r 0), aI (Y 0) 420 (ms_m S)), ((r 24), aI (Y 0) 432 v1), ((r 30), aI (Y 0) 271 fq), ((r 31), aI (Y 0) 271 mq), ((r 32), aI (Y 0) 271 f2q), ((r 33), aI (Y 0) 271 m2q)]) := by
  refine j_ofl RX10 rfl rfl rfl (Nat.le_of_ble_eq_true rfl) (fun X C Rt => ?_)
  have hpl := hp.1
  refine j_aload_n (pc := 0) C 0 0 rfl rfl dX10_digest_0 ?_
  refine j_ldc2 (pc := 1) (w := 563) C (List.mem_of_getElem? (i := 1) rfl) dX10_digest_1 ?_
  refine j_put (pc := 4) (ws' := [(h, oC 9 [.ref (r 0), .ref (r 1), vI (ms_w S), vI (ms_l S), vL (ms_s S), vI (ms_a S), vI (ms_t S), vI (ms_p S), vI (g_np G), .ref (r 9), .ref (r 10), .ref (r 11), .ref (r 12), .ref (r 13), vI (g_nc G), .ref (r 15), .ref (r 16), .ref (r 17), vI (g_pl G), .ref (r 19), vI (g_ik G), vL (g_ks G), .ref (r 22), vL (g_ss G), .ref (r 24), vI (g_fa G), vI (g_iw G), vI (g_nw G), vI (g_ns G), vI (g_ne G), .ref (r 30), .ref (r 31), .ref (r 32), .ref (r 33), vL 563]), ((r 1), aI (Y 0) 7 (ms_h S)), ((r 0), aI (Y 0) 420 (ms_m S)), ((r 24), aI (Y 0) 432 v), ((r 30), aI (Y 0) 271 f), ((r 31), aI (Y 0) 271 mo), ((r 32), aI (Y 0) 271 f2), ((r 33), aI (Y 0) 271 m2)]) C 0 rfl rfl fX10_digest_X10 tyX10_ok nmX10 34 (by decide) (List.mem_of_getElem? (i := 2) rfl) (Or.inl rfl) rfl rfl rfl rfl (Nat.le_of_ble_eq_true rfl) rfl dX10_digest_4 ?_
  refine j_iconst (pc := 7) C dX10_digest_7 ?_
  refine j_istore_n (pc := 8) (lc' := [(1, vI 0), (0, .ref h)]) C 1 rfl (by decide) rfl dX10_digest_8 ?_
  have hL9 : ∀ (N9 : Nat) (c : Int) (G2 : GS), ((7 - c).toNat) < N9 → (0 ≤ c ∧ c ≤ 7) → (gEq G G2) → (g_h G2 = fo (cairnF S) c 563) → jW X 3 0 0 [(h, oC 9 [.ref (r 0), .ref (r 1), vI (ms_w S), vI (ms_l S), vL (ms_s S), vI (ms_a S), vI (ms_t S), vI (ms_p S), vI (g_np G2), .ref (r 9), .ref (r 10), .ref (r 11), .ref (r 12), .ref (r 13), vI (g_nc G2), .ref (r 15), .ref (r 16), .ref (r 17), vI (g_pl G2), .ref (r 19), vI (g_ik G2), vL (g_ks G2), .ref (r 22), vL (g_ss G2), .ref (r 24), vI (g_fa G2), vI (g_iw G2), vI (g_nw G2), vI (g_ns G2), vI (g_ne G2), .ref (r 30), .ref (r 31), .ref (r 32), .ref (r 33), vL (g_h G2)]), ((r 1), aI (Y 0) 7 (ms_h S)), ((r 0), aI (Y 0) 420 (ms_m S)), ((r 24), aI (Y 0) 432 v), ((r 30), aI (Y 0) 271 f), ((r 31), aI (Y 0) 271 mo), ((r 32), aI (Y 0) 271 f2), ((r 33), aI (Y 0) 271 m2)] [(0, .ref h), (1, vI c)] 9 [] := by
    intro N9
    induction N9 with
    | zero => intro c G2 hm9 i9_0 i9_1 i9_2; omega
    | succ N9 ih9 =>
      intro c G2 hm9 i9_0 i9_1 i9_2
      have hga9 := i9_1.1
      have hgb9 := i9_1.2.1
      have hgc9 := i9_1.2.2.1
      refine j_iload_n (pc := 9) C 1 1 rfl rfl dX10_digest_9 ?_
      refine j_bipush (pc := 10) (w := 7) C rfl dX10_digest_10 ?_
      refine j_icmp_ge (pc := 12) C 61 rfl (by omega) dX10_digest_12 (fun h_1p12 => ?_) (fun h_1p12 => ?_)
      · skip
        refine j_iconst (pc := 61) C dX10_digest_61 ?_
        refine j_istore_n (pc := 62) (lc' := [(1, vI 0), (0, .ref h)]) C 1 rfl (by decide) rfl dX10_digest_62 ?_
        have hL63 : ∀ (N63 : Nat) (p : Int) (G4 : GS), ((g_np G - p).toNat) < N63 → (0 ≤ p ∧ p ≤ g_np G) → (gEq G G4) → (g_h G4 = fo (parF ps) p (fo (cairnF S) 7 563)) → jW X 3 0 0 [(h, oC 9 [.ref (r 0), .ref (r 1), vI (ms_w S), vI (ms_l S), vL (ms_s S), vI (ms_a S), vI (ms_t S), vI (ms_p S), vI (g_np G4), .ref (r 9), .ref (r 10), .ref (r 11), .ref (r 12), .ref (r 13), vI (g_nc G4), .ref (r 15), .ref (r 16), .ref (r 17), vI (g_pl G4), .ref (r 19), vI (g_ik G4), vL (g_ks G4), .ref (r 22), vL (g_ss G4), .ref (r 24), vI (g_fa G4), vI (g_iw G4), vI (g_nw G4), vI (g_ns G4), vI (g_ne G4), .ref (r 30), .ref (r 31), .ref (r 32), .ref (r 33), vL (g_h G4)]), ((r 1), aI (Y 0) 7 (ms_h S)), ((r 0), aI (Y 0) 420 (ms_m S)), ((r 24), aI (Y 0) 432 v), ((r 30), aI (Y 0) 271 f), ((r 31), aI (Y 0) 271 mo), ((r 32), aI (Y 0) 271 f2), ((r 33), aI (Y 0) 271 m2)] [(0, .ref h), (1, vI p)] 63 [] := by
          intro N63
          induction N63 with
          | zero => intro p G4 hm63 i63_0 i63_1 i63_2; omega
          | succ N63 ih63 =>
            intro p G4 hm63 i63_0 i63_1 i63_2
            have hga63 := i63_1.1
            have hgb63 := i63_1.2.1
            have hgc63 := i63_1.2.2.1
            refine j_iload_n (pc := 63) C 1 1 rfl rfl dX10_digest_63 ?_
            refine j_aload_n (pc := 64) C 0 0 rfl rfl dX10_digest_64 ?_
            refine j_get (pc := 65) C (Or.inl (List.mem_of_getElem? (i := 0) rfl)) rfl fX10_digest_X10 8 (by decide) (List.mem_of_getElem? (i := 4) rfl) (Or.inl rfl) rfl dX10_digest_65 ?_
            refine j_icmp_ge (pc := 68) C 102 rfl (by omega) dX10_digest_68 (fun h_2p68 => ?_) (fun h_2p68 => ?_)
            · skip
              refine j_iconst (pc := 102) C dX10_digest_102 ?_
              refine j_istore_n (pc := 103) (lc' := [(1, vI 0), (0, .ref h)]) C 1 rfl (by decide) rfl dX10_digest_103 ?_
              have hL104 : ∀ (N104 : Nat) (c6 : Int) (G6 : GS) (v6 : Int → Int), ((g_nc G - c6).toNat) < N104 → (0 ≤ c6 ∧ c6 ≤ g_nc G) → (gEq G G6) → (g_h G6 = fo (cusF cs ps (g_np G) S) c6 (fo (parF ps) (g_np G) (fo (cairnF S) 7 563))) → jW X 3 0 0 [(h, oC 9 [.ref (r 0), .ref (r 1), vI (ms_w S), vI (ms_l S), vL (ms_s S), vI (ms_a S), vI (ms_t S), vI (ms_p S), vI (g_np G6), .ref (r 9), .ref (r 10), .ref (r 11), .ref (r 12), .ref (r 13), vI (g_nc G6), .ref (r 15), .ref (r 16), .ref (r 17), vI (g_pl G6), .ref (r 19), vI (g_ik G6), vL (g_ks G6), .ref (r 22), vL (g_ss G6), .ref (r 24), vI (g_fa G6), vI (g_iw G6), vI (g_nw G6), vI (g_ns G6), vI (g_ne G6), .ref (r 30), .ref (r 31), .ref (r 32), .ref (r 33), vL (g_h G6)]), ((r 1), aI (Y 0) 7 (ms_h S)), ((r 0), aI (Y 0) 420 (ms_m S)), ((r 24), aI (Y 0) 432 v6), ((r 30), aI (Y 0) 271 f), ((r 31), aI (Y 0) 271 mo), ((r 32), aI (Y 0) 271 f2), ((r 33), aI (Y 0) 271 m2)] [(0, .ref h), (1, vI c6)] 104 [] := by
                intro N104
                induction N104 with
                | zero => intro c6 G6 v6 hm104 i104_0 i104_1 i104_2; omega
                | succ N104 ih104 =>
                  intro c6 G6 v6 hm104 i104_0 i104_1 i104_2
                  have hga104 := i104_1.1
                  have hgb104 := i104_1.2.1
                  have hgc104 := i104_1.2.2.1
                  refine j_iload_n (pc := 104) C 1 1 rfl rfl dX10_digest_104 ?_
                  refine j_aload_n (pc := 105) C 0 0 rfl rfl dX10_digest_105 ?_
                  refine j_get (pc := 106) C (Or.inl (List.mem_of_getElem? (i := 0) rfl)) rfl fX10_digest_X10 14 (by decide) (List.mem_of_getElem? (i := 5) rfl) (Or.inl rfl) rfl dX10_digest_106 ?_
                  refine j_icmp_ge (pc := 109) C 123 rfl (by omega) dX10_digest_109 (fun h_3p109 => ?_) (fun h_3p109 => ?_)
                  · skip
                    refine j_iconst (pc := 123) C dX10_digest_123 ?_
                    refine j_istore_n (pc := 124) (lc' := [(1, vI 0), (0, .ref h)]) C 1 rfl (by decide) rfl dX10_digest_124 ?_
                    have hL125 : ∀ (N125 : Nat) (w7 : Int) (G7 : GS) (y1 : Int → Int) (y2 : Int → Int) (y3 : Int → Int) (y4 : Int → Int), ((4 - w7).toNat) < N125 → (0 ≤ w7 ∧ w7 ≤ 4) → (gEq G G7) → (g_h G7 = fo (bndF ps (g_np G)) w7 (fo (cusF cs ps (g_np G) S) (g_nc G) (fo (parF ps) (g_np G) (fo (cairnF S) 7 563)))) → jW X 3 0 0 [(h, oC 9 [.ref (r 0), .ref (r 1), vI (ms_w S), vI (ms_l S), vL (ms_s S), vI (ms_a S), vI (ms_t S), vI (ms_p S), vI (g_np G7), .ref (r 9), .ref (r 10), .ref (r 11), .ref (r 12), .ref (r 13), vI (g_nc G7), .ref (r 15), .ref (r 16), .ref (r 17), vI (g_pl G7), .ref (r 19), vI (g_ik G7), vL (g_ks G7), .ref (r 22), vL (g_ss G7), .ref (r 24), vI (g_fa G7), vI (g_iw G7), vI (g_nw G7), vI (g_ns G7), vI (g_ne G7), .ref (r 30), .ref (r 31), .ref (r 32), .ref (r 33), vL (g_h G7)]), ((r 1), aI (Y 0) 7 (ms_h S)), ((r 0), aI (Y 0) 420 (ms_m S)), ((r 24), aI (Y 0) 432 v6), ((r 30), aI (Y 0) 271 y1), ((r 31), aI (Y 0) 271 y2), ((r 32), aI (Y 0) 271 y3), ((r 33), aI (Y 0) 271 y4)] [(0, .ref h), (1, vI w7)] 125 [] := by
                      intro N125
                      induction N125 with
                      | zero => intro w7 G7 y1 y2 y3 y4 hm125 i125_0 i125_1 i125_2; omega
                      | succ N125 ih125 =>
                        intro w7 G7 y1 y2 y3 y4 hm125 i125_0 i125_1 i125_2
                        have hga125 := i125_1.1
                        have hgb125 := i125_1.2.1
                        have hgc125 := i125_1.2.2.1
                        refine j_iload_n (pc := 125) C 1 1 rfl rfl dX10_digest_125 ?_
                        refine j_iconst (pc := 126) C dX10_digest_126 ?_
                        refine j_icmp_ge (pc := 127) C 147 rfl (by omega) dX10_digest_127 (fun h_4p127 => ?_) (fun h_4p127 => ?_)
                        · skip
                          refine j_iconst (pc := 147) C dX10_digest_147 ?_
                          refine j_istore_n (pc := 148) (lc' := [(1, vI 0), (0, .ref h)]) C 1 rfl (by decide) rfl dX10_digest_148 ?_
                          have hL149 : ∀ (N149 : Nat) (i8 : Int) (G8 : GS), ((g_pl G - i8).toNat) < N149 → (0 ≤ i8 ∧ i8 ≤ g_pl G) → (gEq G G8) → (g_h G8 = fo (pgF pg) i8 (fo (bndF ps (g_np G)) 4 (fo (cusF cs ps (g_np G) S) (g_nc G) (fo (parF ps) (g_np G) (fo (cairnF S) 7 563))))) → jW X 3 0 0 [(h, oC 9 [.ref (r 0), .ref (r 1), vI (ms_w S), vI (ms_l S), vL (ms_s S), vI (ms_a S), vI (ms_t S), vI (ms_p S), vI (g_np G8), .ref (r 9), .ref (r 10), .ref (r 11), .ref (r 12), .ref (r 13), vI (g_nc G8), .ref (r 15), .ref (r 16), .ref (r 17), vI (g_pl G8), .ref (r 19), vI (g_ik G8), vL (g_ks G8), .ref (r 22), vL (g_ss G8), .ref (r 24), vI (g_fa G8), vI (g_iw G8), vI (g_nw G8), vI (g_ns G8), vI (g_ne G8), .ref (r 30), .ref (r 31), .ref (r 32), .ref (r 33), vL (g_h G8)]), ((r 1), aI (Y 0) 7 (ms_h S)), ((r 0), aI (Y 0) 420 (ms_m S)), ((r 24), aI (Y 0) 432 v6), ((r 30), aI (Y 0) 271 y1), ((r 31), aI (Y 0) 271 y2), ((r 32), aI (Y 0) 271 y3), ((r 33), aI (Y 0) 271 y4)] [(0, .ref h), (1, vI i8)] 149 [] := by
                            intro N149
                            induction N149 with
                            | zero => intro i8 G8 hm149 i149_0 i149_1 i149_2; omega
                            | succ N149 ih149 =>
                              intro i8 G8 hm149 i149_0 i149_1 i149_2
                              have hga149 := i149_1.1
                              have hgb149 := i149_1.2.1
                              have hgc149 := i149_1.2.2.1
                              refine j_iload_n (pc := 149) C 1 1 rfl rfl dX10_digest_149 ?_
                              refine j_aload_n (pc := 150) C 0 0 rfl rfl dX10_digest_150 ?_
                              refine j_get (pc := 151) C (Or.inl (List.mem_of_getElem? (i := 0) rfl)) rfl fX10_digest_X10 18 (by decide) (List.mem_of_getElem? (i := 6) rfl) (Or.inl rfl) rfl dX10_digest_151 ?_
                              refine j_icmp_ge (pc := 154) C 174 rfl (by omega) dX10_digest_154 (fun h_5p154 => ?_) (fun h_5p154 => ?_)
                              · skip
                                refine j_iconst (pc := 174) C dX10_digest_174 ?_
                                refine j_istore_n (pc := 175) (lc' := [(1, vI 0), (0, .ref h)]) C 1 rfl (by decide) rfl dX10_digest_175 ?_
                                have hL176 : ∀ (N176 : Nat) (w9 : Int) (G9 : GS), ((10 - w9).toNat) < N176 → (0 ≤ w9 ∧ w9 ≤ 10) → (gEq G G9) → (g_h G9 = fo (couF (g_np G) (g_nc G) (g_pl G) S) w9 (fo (pgF pg) (g_pl G) (fo (bndF ps (g_np G)) 4 (fo (cusF cs ps (g_np G) S) (g_nc G) (fo (parF ps) (g_np G) (fo (cairnF S) 7 563)))))) → jW X 3 0 0 [(h, oC 9 [.ref (r 0), .ref (r 1), vI (ms_w S), vI (ms_l S), vL (ms_s S), vI (ms_a S), vI (ms_t S), vI (ms_p S), vI (g_np G9), .ref (r 9), .ref (r 10), .ref (r 11), .ref (r 12), .ref (r 13), vI (g_nc G9), .ref (r 15), .ref (r 16), .ref (r 17), vI (g_pl G9), .ref (r 19), vI (g_ik G9), vL (g_ks G9), .ref (r 22), vL (g_ss G9), .ref (r 24), vI (g_fa G9), vI (g_iw G9), vI (g_nw G9), vI (g_ns G9), vI (g_ne G9), .ref (r 30), .ref (r 31), .ref (r 32), .ref (r 33), vL (g_h G9)]), ((r 1), aI (Y 0) 7 (ms_h S)), ((r 0), aI (Y 0) 420 (ms_m S)), ((r 24), aI (Y 0) 432 v6), ((r 30), aI (Y 0) 271 y1), ((r 31), aI (Y 0) 271 y2), ((r 32), aI (Y 0) 271 y3), ((r 33), aI (Y 0) 271 y4)] [(0, .ref h), (1, vI w9)] 176 [] := by
                                  intro N176
                                  induction N176 with
                                  | zero => intro w9 G9 hm176 i176_0 i176_1 i176_2; omega
                                  | succ N176 ih176 =>
                                    intro w9 G9 hm176 i176_0 i176_1 i176_2
                                    have hga176 := i176_1.1
                                    have hgb176 := i176_1.2.1
                                    have hgc176 := i176_1.2.2.1
                                    refine j_iload_n (pc := 176) C 1 1 rfl rfl dX10_digest_176 ?_
                                    refine j_bipush (pc := 177) (w := 10) C rfl dX10_digest_177 ?_
                                    refine j_icmp_ge (pc := 179) C 198 rfl (by omega) dX10_digest_179 (fun h_6p179 => ?_) (fun h_6p179 => ?_)
                                    · skip
                                      refine j_aload_n (pc := 198) C 0 0 rfl rfl dX10_digest_198 ?_
                                      refine j_get (pc := 199) C (Or.inl (List.mem_of_getElem? (i := 0) rfl)) rfl fX10_digest_X10 34 (by decide) (List.mem_of_getElem? (i := 2) rfl) (Or.inl rfl) rfl dX10_digest_199 ?_
                                      exact Rt _ _ _ _ _ _ (by decide) (by decide) ⟨by unfold rDig; rw [i176_2, show w9 = 10 by omega], _, _, _, _, _, _, i176_1, rfl⟩ dX10_digest_202
                                    · skip
                                      refine j_aload_n (pc := 182) C 0 0 rfl rfl dX10_digest_182 ?_
                                      refine j_aload_n (pc := 183) C 0 0 rfl rfl dX10_digest_183 ?_
                                      refine j_iload_n (pc := 184) C 1 1 rfl rfl dX10_digest_184 ?_
                                      refine j_callVi (pc := 185) (As := [vI w9]) (na := 1) (st := [.ref h]) C [] [0, 1, 2, 3, 4, 5, 6, 7] (wr := [(h, oC 9 [.ref (r 0), .ref (r 1), vI (ms_w S), vI (ms_l S), vL (ms_s S), vI (ms_a S), vI (ms_t S), vI (ms_p S), vI (g_np G9), .ref (r 9), .ref (r 10), .ref (r 11), .ref (r 12), .ref (r 13), vI (g_nc G9), .ref (r 15), .ref (r 16), .ref (r 17), vI (g_pl G9), .ref (r 19), vI (g_ik G9), vL (g_ks G9), .ref (r 22), vL (g_ss G9), .ref (r 24), vI (g_fa G9), vI (g_iw G9), vI (g_nw G9), vI (g_ns G9), vI (g_ne G9), .ref (r 30), .ref (r 31), .ref (r 32), .ref (r 33), vL (g_h G9)]), ((r 1), aI (Y 0) 7 (ms_h S)), ((r 0), aI (Y 0) 420 (ms_m S)), ((r 24), aI (Y 0) 432 v6), ((r 30), aI (Y 0) 271 y1), ((r 31), aI (Y 0) 271 y2), ((r 32), aI (Y 0) 271 y3), ((r 33), aI (Y 0) 271 y4)]) (fun l => m_howMany l D Y _ h r S G9 w9 (List.mem_append_left _ (List.mem_of_getElem? (i := 0) rfl)) (List.mem_append_left _ (List.mem_of_getElem? (i := 1) rfl)) (by omega)) rfl rfl rfl rfl (by decide) rfl (Or.inr (List.mem_append_left _ (List.mem_of_getElem? (i := 0) rfl))) rfl gX10_digest_X10_howMany ⟨rfl, by decide +kernel⟩ (by decide) rfl rfl (Nat.le_of_ble_eq_true rfl) (by decide) dX10_digest_185 (fun e_7 w_8 h_9 => ?_)
                                      obtain ⟨rfl, rfl⟩ := h_9
                                      refine j_perm (ws' := [(h, oC 9 [.ref (r 0), .ref (r 1), vI (ms_w S), vI (ms_l S), vL (ms_s S), vI (ms_a S), vI (ms_t S), vI (ms_p S), vI (g_np G9), .ref (r 9), .ref (r 10), .ref (r 11), .ref (r 12), .ref (r 13), vI (g_nc G9), .ref (r 15), .ref (r 16), .ref (r 17), vI (g_pl G9), .ref (r 19), vI (g_ik G9), vL (g_ks G9), .ref (r 22), vL (g_ss G9), .ref (r 24), vI (g_fa G9), vI (g_iw G9), vI (g_nw G9), vI (g_ns G9), vI (g_ne G9), .ref (r 30), .ref (r 31), .ref (r 32), .ref (r 33), vL (g_h G9)]), ((r 1), aI (Y 0) 7 (ms_h S)), ((r 0), aI (Y 0) 420 (ms_m S)), ((r 24), aI (Y 0) 432 v6), ((r 30), aI (Y 0) 271 y1), ((r 31), aI (Y 0) 271 y2), ((r 32), aI (Y 0) 271 y3), ((r 33), aI (Y 0) 271 y4)]) [0, 1, 2, 3, 4, 5, 6, 7] rfl rfl ?_
                                      rw [vI_n32 (rCount w9 (g_np G9) (g_nc G9) (g_pl G9) S)]
                                      have hn_10 := n32_in (rCount w9 (g_np G9) (g_nc G9) (g_pl G9) S)
                                      refine j_i2l (pc := 188) C (by omega) dX10_digest_188 ?_
                                      refine j_callVv (pc := 189) (As := [vL (n32 (rCount w9 (g_np G9) (g_nc G9) (g_pl G9) S))]) (na := 1) (st := []) C [0] [1, 2, 3, 4, 5, 6, 7] (wr := [((r 1), aI (Y 0) 7 (ms_h S)), ((r 0), aI (Y 0) 420 (ms_m S)), ((r 24), aI (Y 0) 432 v6), ((r 30), aI (Y 0) 271 y1), ((r 31), aI (Y 0) 271 y2), ((r 32), aI (Y 0) 271 y3), ((r 33), aI (Y 0) 271 y4)]) (fun l => m_mix l D Y _ h r S G9 (n32 (rCount w9 (g_np G9) (g_nc G9) (g_pl G9) S)) ) rfl rfl rfl rfl (by decide) rfl (Or.inl (List.mem_of_getElem? (i := 0) rfl)) rfl gX10_digest_X10_mix ⟨rfl, by decide +kernel⟩ (by decide) rfl rfl (Nat.le_of_ble_eq_true rfl) (by decide) dX10_digest_189 (fun w_12 h_13 => ?_)
                                      subst h_13
                                      refine j_perm (ws' := [(h, oC 9 [.ref (r 0), .ref (r 1), vI (ms_w S), vI (ms_l S), vL (ms_s S), vI (ms_a S), vI (ms_t S), vI (ms_p S), vI (g_np (gH G9 (31 * g_h G9 + (n32 (rCount w9 (g_np G9) (g_nc G9) (g_pl G9) S))))), .ref (r 9), .ref (r 10), .ref (r 11), .ref (r 12), .ref (r 13), vI (g_nc (gH G9 (31 * g_h G9 + (n32 (rCount w9 (g_np G9) (g_nc G9) (g_pl G9) S))))), .ref (r 15), .ref (r 16), .ref (r 17), vI (g_pl (gH G9 (31 * g_h G9 + (n32 (rCount w9 (g_np G9) (g_nc G9) (g_pl G9) S))))), .ref (r 19), vI (g_ik (gH G9 (31 * g_h G9 + (n32 (rCount w9 (g_np G9) (g_nc G9) (g_pl G9) S))))), vL (g_ks (gH G9 (31 * g_h G9 + (n32 (rCount w9 (g_np G9) (g_nc G9) (g_pl G9) S))))), .ref (r 22), vL (g_ss (gH G9 (31 * g_h G9 + (n32 (rCount w9 (g_np G9) (g_nc G9) (g_pl G9) S))))), .ref (r 24), vI (g_fa (gH G9 (31 * g_h G9 + (n32 (rCount w9 (g_np G9) (g_nc G9) (g_pl G9) S))))), vI (g_iw (gH G9 (31 * g_h G9 + (n32 (rCount w9 (g_np G9) (g_nc G9) (g_pl G9) S))))), vI (g_nw (gH G9 (31 * g_h G9 + (n32 (rCount w9 (g_np G9) (g_nc G9) (g_pl G9) S))))), vI (g_ns (gH G9 (31 * g_h G9 + (n32 (rCount w9 (g_np G9) (g_nc G9) (g_pl G9) S))))), vI (g_ne (gH G9 (31 * g_h G9 + (n32 (rCount w9 (g_np G9) (g_nc G9) (g_pl G9) S))))), .ref (r 30), .ref (r 31), .ref (r 32), .ref (r 33), vL (g_h (gH G9 (31 * g_h G9 + (n32 (rCount w9 (g_np G9) (g_nc G9) (g_pl G9) S)))))]), ((r 1), aI (Y 0) 7 (ms_h S)), ((r 0), aI (Y 0) 420 (ms_m S)), ((r 24), aI (Y 0) 432 v6), ((r 30), aI (Y 0) 271 y1), ((r 31), aI (Y 0) 271 y2), ((r 32), aI (Y 0) 271 y3), ((r 33), aI (Y 0) 271 y4)]) [7, 0, 1, 2, 3, 4, 5, 6] rfl rfl ?_
                                      refine j_iinc (pc := 192) (lc' := [(1, vI (w9 + 1)), (0, .ref h)]) C 1 rfl (by decide) rfl dX10_digest_192 ?_
                                      refine j_goto (pc := 195) C 176 rfl dX10_digest_195 ?_
                                      refine j_locals (lc' := [(0, .ref h), (1, vI (w9 + 1))]) [1, 0] rfl ?_
                                      exact ih176 (w9 + 1) (gH G9 (31 * g_h G9 + (n32 (rCount w9 (g_np G9) (g_nc G9) (g_pl G9) S)))) (by omega) (by omega) (i176_1.tr (gEq.hh _ _)) (by rw [fo_succ _ (by omega), ← i176_2, ← i176_1.1, ← i176_1.2.1, ← i176_1.2.2.1]; rfl)
                                refine j_locals (lc' := [(0, .ref h), (1, vI 0)]) [1, 0] rfl ?_
                                exact hL176 _ 0 G8 (Nat.lt_succ_self _) (by omega) i149_1 (by rw [i149_2, show i8 = g_pl G by omega]; exact (fo_zero _ _).symm)
                              · skip
                                refine j_aload_n (pc := 157) C 0 0 rfl rfl dX10_digest_157 ?_
                                refine j_aload_n (pc := 158) C 0 0 rfl rfl dX10_digest_158 ?_
                                refine j_get (pc := 159) C (Or.inl (List.mem_of_getElem? (i := 0) rfl)) rfl fX10_digest_X10 19 (by decide) (List.mem_of_getElem? (i := 7) rfl) (Or.inl rfl) rfl dX10_digest_159 ?_
                                refine j_iload_n (pc := 162) C 1 1 rfl rfl dX10_digest_162 ?_
                                refine j_bald (pc := 163) C (Or.inr p0) rfl (by omega) (by decide) dX10_digest_163 ?_
                                rw [vI_n32 (pg i8)]
                                have hn_14 := n32_in (pg i8)
                                refine j_i2l (pc := 164) C (by omega) dX10_digest_164 ?_
                                refine j_callVv (pc := 165) (As := [vL (n32 (pg i8))]) (na := 1) (st := []) C [0] [1, 2, 3, 4, 5, 6, 7] (wr := [((r 1), aI (Y 0) 7 (ms_h S)), ((r 0), aI (Y 0) 420 (ms_m S)), ((r 24), aI (Y 0) 432 v6), ((r 30), aI (Y 0) 271 y1), ((r 31), aI (Y 0) 271 y2), ((r 32), aI (Y 0) 271 y3), ((r 33), aI (Y 0) 271 y4)]) (fun l => m_mix l D Y _ h r S G8 (n32 (pg i8)) ) rfl rfl rfl rfl (by decide) rfl (Or.inl (List.mem_of_getElem? (i := 0) rfl)) rfl gX10_digest_X10_mix ⟨rfl, by decide +kernel⟩ (by decide) rfl rfl (Nat.le_of_ble_eq_true rfl) (by decide) dX10_digest_165 (fun w_16 h_17 => ?_)
                                subst h_17
                                refine j_perm (ws' := [(h, oC 9 [.ref (r 0), .ref (r 1), vI (ms_w S), vI (ms_l S), vL (ms_s S), vI (ms_a S), vI (ms_t S), vI (ms_p S), vI (g_np (gH G8 (31 * g_h G8 + (n32 (pg i8))))), .ref (r 9), .ref (r 10), .ref (r 11), .ref (r 12), .ref (r 13), vI (g_nc (gH G8 (31 * g_h G8 + (n32 (pg i8))))), .ref (r 15), .ref (r 16), .ref (r 17), vI (g_pl (gH G8 (31 * g_h G8 + (n32 (pg i8))))), .ref (r 19), vI (g_ik (gH G8 (31 * g_h G8 + (n32 (pg i8))))), vL (g_ks (gH G8 (31 * g_h G8 + (n32 (pg i8))))), .ref (r 22), vL (g_ss (gH G8 (31 * g_h G8 + (n32 (pg i8))))), .ref (r 24), vI (g_fa (gH G8 (31 * g_h G8 + (n32 (pg i8))))), vI (g_iw (gH G8 (31 * g_h G8 + (n32 (pg i8))))), vI (g_nw (gH G8 (31 * g_h G8 + (n32 (pg i8))))), vI (g_ns (gH G8 (31 * g_h G8 + (n32 (pg i8))))), vI (g_ne (gH G8 (31 * g_h G8 + (n32 (pg i8))))), .ref (r 30), .ref (r 31), .ref (r 32), .ref (r 33), vL (g_h (gH G8 (31 * g_h G8 + (n32 (pg i8)))))]), ((r 1), aI (Y 0) 7 (ms_h S)), ((r 0), aI (Y 0) 420 (ms_m S)), ((r 24), aI (Y 0) 432 v6), ((r 30), aI (Y 0) 271 y1), ((r 31), aI (Y 0) 271 y2), ((r 32), aI (Y 0) 271 y3), ((r 33), aI (Y 0) 271 y4)]) [7, 0, 1, 2, 3, 4, 5, 6] rfl rfl ?_
                                refine j_iinc (pc := 168) (lc' := [(1, vI (i8 + 1)), (0, .ref h)]) C 1 rfl (by decide) rfl dX10_digest_168 ?_
                                refine j_goto (pc := 171) C 149 rfl dX10_digest_171 ?_
                                refine j_locals (lc' := [(0, .ref h), (1, vI (i8 + 1))]) [1, 0] rfl ?_
                                exact ih149 (i8 + 1) (gH G8 (31 * g_h G8 + (n32 (pg i8)))) (by omega) (by omega) (i149_1.tr (gEq.hh _ _)) (by rw [fo_succ _ (by omega), ← i149_2]; rfl)
                          refine j_locals (lc' := [(0, .ref h), (1, vI 0)]) [1, 0] rfl ?_
                          exact hL149 _ 0 G7 (Nat.lt_succ_self _) (by omega) i125_1 (by rw [i125_2, show w7 = 4 by omega]; exact (fo_zero _ _).symm)
                        · skip
                          refine j_aload_n (pc := 130) C 0 0 rfl rfl dX10_digest_130 ?_
                          refine j_aload_n (pc := 131) C 0 0 rfl rfl dX10_digest_131 ?_
                          refine j_iconst (pc := 132) C dX10_digest_132 ?_
                          refine j_iload_n (pc := 133) C 1 1 rfl rfl dX10_digest_133 ?_
                          refine j_callVi (pc := 134) (As := [vI 1, vI w7]) (na := 2) (st := [.ref h]) C [4, 5, 6, 7] [0, 1, 2, 3] (wr := [(h, oC 9 [.ref (r 0), .ref (r 1), vI (ms_w S), vI (ms_l S), vL (ms_s S), vI (ms_a S), vI (ms_t S), vI (ms_p S), vI (g_np G7), .ref (r 9), .ref (r 10), .ref (r 11), .ref (r 12), .ref (r 13), vI (g_nc G7), .ref (r 15), .ref (r 16), .ref (r 17), vI (g_pl G7), .ref (r 19), vI (g_ik G7), vL (g_ks G7), .ref (r 22), vL (g_ss G7), .ref (r 24), vI (g_fa G7), vI (g_iw G7), vI (g_nw G7), vI (g_ns G7), vI (g_ne G7), .ref (r 30), .ref (r 31), .ref (r 32), .ref (r 33), vL (g_h G7)]), ((r 1), aI (Y 0) 7 (ms_h S)), ((r 0), aI (Y 0) 420 (ms_m S)), ((r 24), aI (Y 0) 432 v6)]) (fun l => m_boundsOf l D Y _ h r S G7 ps y1 y2 y3 y4 1 w7 (List.mem_append_left _ (List.mem_of_getElem? (i := 0) rfl)) (List.mem_append_right _ k0) (List.mem_append_right _ k1) (List.mem_append_right _ k2) (List.mem_append_right _ k3) (List.mem_append_right _ k4) (by rw [i125_1.1]; exact hnp) (by rw [i125_1.1]; exact hps) (by decide) (by omega)) rfl rfl rfl rfl (by decide) rfl (Or.inr (List.mem_append_left _ (List.mem_of_getElem? (i := 0) rfl))) rfl gX10_digest_X10_boundsOf ⟨rfl, by decide +kernel⟩ (by decide) rfl rfl (Nat.le_of_ble_eq_true rfl) (by decide) dX10_digest_134 (fun e_18 w_19 h_20 => ?_)
                          obtain ⟨fq_21, mq_22, f2q_23, m2q_24, rfl, rfl⟩ := h_20
                          refine j_perm (ws' := [(h, oC 9 [.ref (r 0), .ref (r 1), vI (ms_w S), vI (ms_l S), vL (ms_s S), vI (ms_a S), vI (ms_t S), vI (ms_p S), vI (g_np G7), .ref (r 9), .ref (r 10), .ref (r 11), .ref (r 12), .ref (r 13), vI (g_nc G7), .ref (r 15), .ref (r 16), .ref (r 17), vI (g_pl G7), .ref (r 19), vI (g_ik G7), vL (g_ks G7), .ref (r 22), vL (g_ss G7), .ref (r 24), vI (g_fa G7), vI (g_iw G7), vI (g_nw G7), vI (g_ns G7), vI (g_ne G7), .ref (r 30), .ref (r 31), .ref (r 32), .ref (r 33), vL (g_h G7)]), ((r 1), aI (Y 0) 7 (ms_h S)), ((r 0), aI (Y 0) 420 (ms_m S)), ((r 24), aI (Y 0) 432 v6), ((r 30), aI (Y 0) 271 fq_21), ((r 31), aI (Y 0) 271 mq_22), ((r 32), aI (Y 0) 271 f2q_23), ((r 33), aI (Y 0) 271 m2q_24)]) [0, 1, 2, 3, 4, 5, 6, 7] rfl rfl ?_
                          rw [vI_n32 (rBounds 1 w7 (g_np G7) ps)]
                          have hn_27 := n32_in (rBounds 1 w7 (g_np G7) ps)
                          refine j_i2l (pc := 137) C (by omega) dX10_digest_137 ?_
                          refine j_callVv (pc := 138) (As := [vL (n32 (rBounds 1 w7 (g_np G7) ps))]) (na := 1) (st := []) C [0] [1, 2, 3, 4, 5, 6, 7] (wr := [((r 1), aI (Y 0) 7 (ms_h S)), ((r 0), aI (Y 0) 420 (ms_m S)), ((r 24), aI (Y 0) 432 v6), ((r 30), aI (Y 0) 271 fq_21), ((r 31), aI (Y 0) 271 mq_22), ((r 32), aI (Y 0) 271 f2q_23), ((r 33), aI (Y 0) 271 m2q_24)]) (fun l => m_mix l D Y _ h r S G7 (n32 (rBounds 1 w7 (g_np G7) ps)) ) rfl rfl rfl rfl (by decide) rfl (Or.inl (List.mem_of_getElem? (i := 0) rfl)) rfl gX10_digest_X10_mix ⟨rfl, by decide +kernel⟩ (by decide) rfl rfl (Nat.le_of_ble_eq_true rfl) (by decide) dX10_digest_138 (fun w_29 h_30 => ?_)
                          subst h_30
                          refine j_perm (ws' := [(h, oC 9 [.ref (r 0), .ref (r 1), vI (ms_w S), vI (ms_l S), vL (ms_s S), vI (ms_a S), vI (ms_t S), vI (ms_p S), vI (g_np (gH G7 (31 * g_h G7 + (n32 (rBounds 1 w7 (g_np G7) ps))))), .ref (r 9), .ref (r 10), .ref (r 11), .ref (r 12), .ref (r 13), vI (g_nc (gH G7 (31 * g_h G7 + (n32 (rBounds 1 w7 (g_np G7) ps))))), .ref (r 15), .ref (r 16), .ref (r 17), vI (g_pl (gH G7 (31 * g_h G7 + (n32 (rBounds 1 w7 (g_np G7) ps))))), .ref (r 19), vI (g_ik (gH G7 (31 * g_h G7 + (n32 (rBounds 1 w7 (g_np G7) ps))))), vL (g_ks (gH G7 (31 * g_h G7 + (n32 (rBounds 1 w7 (g_np G7) ps))))), .ref (r 22), vL (g_ss (gH G7 (31 * g_h G7 + (n32 (rBounds 1 w7 (g_np G7) ps))))), .ref (r 24), vI (g_fa (gH G7 (31 * g_h G7 + (n32 (rBounds 1 w7 (g_np G7) ps))))), vI (g_iw (gH G7 (31 * g_h G7 + (n32 (rBounds 1 w7 (g_np G7) ps))))), vI (g_nw (gH G7 (31 * g_h G7 + (n32 (rBounds 1 w7 (g_np G7) ps))))), vI (g_ns (gH G7 (31 * g_h G7 + (n32 (rBounds 1 w7 (g_np G7) ps))))), vI (g_ne (gH G7 (31 * g_h G7 + (n32 (rBounds 1 w7 (g_np G7) ps))))), .ref (r 30), .ref (r 31), .ref (r 32), .ref (r 33), vL (g_h (gH G7 (31 * g_h G7 + (n32 (rBounds 1 w7 (g_np G7) ps)))))]), ((r 1), aI (Y 0) 7 (ms_h S)), ((r 0), aI (Y 0) 420 (ms_m S)), ((r 24), aI (Y 0) 432 v6), ((r 30), aI (Y 0) 271 fq_21), ((r 31), aI (Y 0) 271 mq_22), ((r 32), aI (Y 0) 271 f2q_23), ((r 33), aI (Y 0) 271 m2q_24)]) [7, 0, 1, 2, 3, 4, 5, 6] rfl rfl ?_
                          refine j_iinc (pc := 141) (lc' := [(1, vI (w7 + 1)), (0, .ref h)]) C 1 rfl (by decide) rfl dX10_digest_141 ?_
                          refine j_goto (pc := 144) C 125 rfl dX10_digest_144 ?_
                          refine j_locals (lc' := [(0, .ref h), (1, vI (w7 + 1))]) [1, 0] rfl ?_
                          exact ih125 (w7 + 1) (gH G7 (31 * g_h G7 + (n32 (rBounds 1 w7 (g_np G7) ps)))) fq_21 mq_22 f2q_23 m2q_24 (by omega) (by omega) (i125_1.tr (gEq.hh _ _)) (by rw [fo_succ _ (by omega), ← i125_2, ← i125_1.1]; rfl)
                    refine j_locals (lc' := [(0, .ref h), (1, vI 0)]) [1, 0] rfl ?_
                    exact hL125 _ 0 G6 f mo f2 m2 (Nat.lt_succ_self _) (by omega) i104_1 (by rw [i104_2, show c6 = g_nc G by omega]; exact (fo_zero _ _).symm)
                  · skip
                    refine j_aload_n (pc := 112) C 0 0 rfl rfl dX10_digest_112 ?_
                    refine j_iload_n (pc := 113) C 1 1 rfl rfl dX10_digest_113 ?_
                    refine j_callVv (pc := 114) (As := [vI c6]) (na := 1) (st := []) C [0, 1, 2, 3] [4, 5, 6, 7] (wr := [((r 30), aI (Y 0) 271 f), ((r 31), aI (Y 0) 271 mo), ((r 32), aI (Y 0) 271 f2), ((r 33), aI (Y 0) 271 m2)]) (fun l => m_mixCustom l D Y _ h r S G6 cs ps v6 c6 (List.mem_append_right _ k0) (List.mem_append_right _ k1) (List.mem_append_right _ k2) (List.mem_append_right _ k3) (List.mem_append_right _ k4) (List.mem_append_right _ q0) (List.mem_append_right _ q1) (List.mem_append_right _ q2) hS hw (by rw [i104_1.1]; exact hnp) (by rw [i104_1.1]; exact hps) (by rw [i104_1.2.1]; exact hnc) (by rw [i104_1.2.1]; exact hcs) (by omega)) rfl rfl rfl rfl (by decide) rfl (Or.inl (List.mem_of_getElem? (i := 0) rfl)) rfl gX10_digest_X10_mixCustom ⟨rfl, by decide +kernel⟩ (by decide) rfl rfl (Nat.le_of_ble_eq_true rfl) (by decide) dX10_digest_114 (fun w_32 h_33 => ?_)
                    obtain ⟨G1_34, v1_35, gG1_34, hgh_36, rfl⟩ := h_33
                    refine j_perm (ws' := [(h, oC 9 [.ref (r 0), .ref (r 1), vI (ms_w S), vI (ms_l S), vL (ms_s S), vI (ms_a S), vI (ms_t S), vI (ms_p S), vI (g_np G1_34), .ref (r 9), .ref (r 10), .ref (r 11), .ref (r 12), .ref (r 13), vI (g_nc G1_34), .ref (r 15), .ref (r 16), .ref (r 17), vI (g_pl G1_34), .ref (r 19), vI (g_ik G1_34), vL (g_ks G1_34), .ref (r 22), vL (g_ss G1_34), .ref (r 24), vI (g_fa G1_34), vI (g_iw G1_34), vI (g_nw G1_34), vI (g_ns G1_34), vI (g_ne G1_34), .ref (r 30), .ref (r 31), .ref (r 32), .ref (r 33), vL (g_h G1_34)]), ((r 1), aI (Y 0) 7 (ms_h S)), ((r 0), aI (Y 0) 420 (ms_m S)), ((r 24), aI (Y 0) 432 v1_35), ((r 30), aI (Y 0) 271 f), ((r 31), aI (Y 0) 271 mo), ((r 32), aI (Y 0) 271 f2), ((r 33), aI (Y 0) 271 m2)]) [4, 5, 6, 7, 0, 1, 2, 3] rfl rfl ?_
                    refine j_iinc (pc := 117) (lc' := [(1, vI (c6 + 1)), (0, .ref h)]) C 1 rfl (by decide) rfl dX10_digest_117 ?_
                    refine j_goto (pc := 120) C 104 rfl dX10_digest_120 ?_
                    refine j_locals (lc' := [(0, .ref h), (1, vI (c6 + 1))]) [1, 0] rfl ?_
                    exact ih104 (c6 + 1) G1_34 v1_35 (by omega) (by omega) (i104_1.tr gG1_34) (by rw [fo_succ _ (by omega), ← i104_2, ← i104_1.1]; assumption)
              refine j_locals (lc' := [(0, .ref h), (1, vI 0)]) [1, 0] rfl ?_
              exact hL104 _ 0 G4 v (Nat.lt_succ_self _) (by omega) i63_1 (by rw [i63_2, show p = g_np G by omega]; exact (fo_zero _ _).symm)
            · skip
              refine j_iconst (pc := 71) C dX10_digest_71 ?_
              refine j_istore_n (pc := 72) (lc' := [(2, vI 0), (0, .ref h), (1, vI p)]) C 2 rfl (by decide) rfl dX10_digest_72 ?_
              have hL73 : ∀ (N73 : Nat) (w : Int) (G5 : GS), ((6 - w).toNat) < N73 → (0 ≤ w ∧ w ≤ 6) → (gEq G G5) → (g_h G5 = fo (tolF (ps p)) w (g_h G4)) → jW X 3 0 0 [(h, oC 9 [.ref (r 0), .ref (r 1), vI (ms_w S), vI (ms_l S), vL (ms_s S), vI (ms_a S), vI (ms_t S), vI (ms_p S), vI (g_np G5), .ref (r 9), .ref (r 10), .ref (r 11), .ref (r 12), .ref (r 13), vI (g_nc G5), .ref (r 15), .ref (r 16), .ref (r 17), vI (g_pl G5), .ref (r 19), vI (g_ik G5), vL (g_ks G5), .ref (r 22), vL (g_ss G5), .ref (r 24), vI (g_fa G5), vI (g_iw G5), vI (g_nw G5), vI (g_ns G5), vI (g_ne G5), .ref (r 30), .ref (r 31), .ref (r 32), .ref (r 33), vL (g_h G5)]), ((r 1), aI (Y 0) 7 (ms_h S)), ((r 0), aI (Y 0) 420 (ms_m S)), ((r 24), aI (Y 0) 432 v), ((r 30), aI (Y 0) 271 f), ((r 31), aI (Y 0) 271 mo), ((r 32), aI (Y 0) 271 f2), ((r 33), aI (Y 0) 271 m2)] [(0, .ref h), (1, vI p), (2, vI w)] 73 [] := by
                intro N73
                induction N73 with
                | zero => intro w G5 hm73 i73_0 i73_1 i73_2; omega
                | succ N73 ih73 =>
                  intro w G5 hm73 i73_0 i73_1 i73_2
                  have hga73 := i73_1.1
                  have hgb73 := i73_1.2.1
                  have hgc73 := i73_1.2.2.1
                  refine j_iload_n (pc := 73) C 2 2 rfl rfl dX10_digest_73 ?_
                  refine j_bipush (pc := 74) (w := 6) C rfl dX10_digest_74 ?_
                  refine j_icmp_ge (pc := 76) C 96 rfl (by omega) dX10_digest_76 (fun h_37p76 => ?_) (fun h_37p76 => ?_)
                  · skip
                    refine j_iinc (pc := 96) (lc' := [(1, vI (p + 1)), (0, .ref h), (2, vI w)]) C 1 rfl (by decide) rfl dX10_digest_96 ?_
                    refine j_goto (pc := 99) C 63 rfl dX10_digest_99 ?_
                    refine j_locals (lc' := [(0, .ref h), (1, vI (p + 1))]) [1, 0] rfl ?_
                    exact ih63 (p + 1) G5 (by omega) (by omega) i73_1 (by rw [fo_succ _ (by omega), ← i63_2, i73_2, show w = 6 by omega]; rfl)
                  · skip
                    refine j_aload_n (pc := 79) C 0 0 rfl rfl dX10_digest_79 ?_
                    refine j_aload_n (pc := 80) C 0 0 rfl rfl dX10_digest_80 ?_
                    refine j_iload_n (pc := 81) C 1 1 rfl rfl dX10_digest_81 ?_
                    refine j_iload_n (pc := 82) C 2 2 rfl rfl dX10_digest_82 ?_
                    refine j_callVi (pc := 83) (As := [vI p, vI w]) (na := 2) (st := [.ref h]) C [] [0, 1, 2, 3, 4, 5, 6, 7] (wr := [(h, oC 9 [.ref (r 0), .ref (r 1), vI (ms_w S), vI (ms_l S), vL (ms_s S), vI (ms_a S), vI (ms_t S), vI (ms_p S), vI (g_np G5), .ref (r 9), .ref (r 10), .ref (r 11), .ref (r 12), .ref (r 13), vI (g_nc G5), .ref (r 15), .ref (r 16), .ref (r 17), vI (g_pl G5), .ref (r 19), vI (g_ik G5), vL (g_ks G5), .ref (r 22), vL (g_ss G5), .ref (r 24), vI (g_fa G5), vI (g_iw G5), vI (g_nw G5), vI (g_ns G5), vI (g_ne G5), .ref (r 30), .ref (r 31), .ref (r 32), .ref (r 33), vL (g_h G5)]), ((r 1), aI (Y 0) 7 (ms_h S)), ((r 0), aI (Y 0) 420 (ms_m S)), ((r 24), aI (Y 0) 432 v), ((r 30), aI (Y 0) 271 f), ((r 31), aI (Y 0) 271 mo), ((r 32), aI (Y 0) 271 f2), ((r 33), aI (Y 0) 271 m2)]) (fun l => m_parishNow l D Y _ h r S G5 ps p w (List.mem_append_left _ (List.mem_of_getElem? (i := 0) rfl)) (List.mem_append_right _ k0) (List.mem_append_right _ k1) (List.mem_append_right _ k2) (List.mem_append_right _ k3) (List.mem_append_right _ k4) (by omega) (hps p (by omega)) (by omega)) rfl rfl rfl rfl (by decide) rfl (Or.inr (List.mem_append_left _ (List.mem_of_getElem? (i := 0) rfl))) rfl gX10_digest_X10_parishNow ⟨rfl, by decide +kernel⟩ (by decide) rfl rfl (Nat.le_of_ble_eq_true rfl) (by decide) dX10_digest_83 (fun e_38 w_39 h_40 => ?_)
                    obtain ⟨rfl, rfl⟩ := h_40
                    refine j_perm (ws' := [(h, oC 9 [.ref (r 0), .ref (r 1), vI (ms_w S), vI (ms_l S), vL (ms_s S), vI (ms_a S), vI (ms_t S), vI (ms_p S), vI (g_np G5), .ref (r 9), .ref (r 10), .ref (r 11), .ref (r 12), .ref (r 13), vI (g_nc G5), .ref (r 15), .ref (r 16), .ref (r 17), vI (g_pl G5), .ref (r 19), vI (g_ik G5), vL (g_ks G5), .ref (r 22), vL (g_ss G5), .ref (r 24), vI (g_fa G5), vI (g_iw G5), vI (g_nw G5), vI (g_ns G5), vI (g_ne G5), .ref (r 30), .ref (r 31), .ref (r 32), .ref (r 33), vL (g_h G5)]), ((r 1), aI (Y 0) 7 (ms_h S)), ((r 0), aI (Y 0) 420 (ms_m S)), ((r 24), aI (Y 0) 432 v), ((r 30), aI (Y 0) 271 f), ((r 31), aI (Y 0) 271 mo), ((r 32), aI (Y 0) 271 f2), ((r 33), aI (Y 0) 271 m2)]) [0, 1, 2, 3, 4, 5, 6, 7] rfl rfl ?_
                    rw [vI_n32 (toldP (ps p) w)]
                    have hn_41 := n32_in (toldP (ps p) w)
                    refine j_i2l (pc := 86) C (by omega) dX10_digest_86 ?_
                    refine j_callVv (pc := 87) (As := [vL (n32 (toldP (ps p) w))]) (na := 1) (st := []) C [0] [1, 2, 3, 4, 5, 6, 7] (wr := [((r 1), aI (Y 0) 7 (ms_h S)), ((r 0), aI (Y 0) 420 (ms_m S)), ((r 24), aI (Y 0) 432 v), ((r 30), aI (Y 0) 271 f), ((r 31), aI (Y 0) 271 mo), ((r 32), aI (Y 0) 271 f2), ((r 33), aI (Y 0) 271 m2)]) (fun l => m_mix l D Y _ h r S G5 (n32 (toldP (ps p) w)) ) rfl rfl rfl rfl (by decide) rfl (Or.inl (List.mem_of_getElem? (i := 0) rfl)) rfl gX10_digest_X10_mix ⟨rfl, by decide +kernel⟩ (by decide) rfl rfl (Nat.le_of_ble_eq_true rfl) (by decide) dX10_digest_87 (fun w_43 h_44 => ?_)
                    subst h_44
                    refine j_perm (ws' := [(h, oC 9 [.ref (r 0), .ref (r 1), vI (ms_w S), vI (ms_l S), vL (ms_s S), vI (ms_a S), vI (ms_t S), vI (ms_p S), vI (g_np (gH G5 (31 * g_h G5 + (n32 (toldP (ps p) w))))), .ref (r 9), .ref (r 10), .ref (r 11), .ref (r 12), .ref (r 13), vI (g_nc (gH G5 (31 * g_h G5 + (n32 (toldP (ps p) w))))), .ref (r 15), .ref (r 16), .ref (r 17), vI (g_pl (gH G5 (31 * g_h G5 + (n32 (toldP (ps p) w))))), .ref (r 19), vI (g_ik (gH G5 (31 * g_h G5 + (n32 (toldP (ps p) w))))), vL (g_ks (gH G5 (31 * g_h G5 + (n32 (toldP (ps p) w))))), .ref (r 22), vL (g_ss (gH G5 (31 * g_h G5 + (n32 (toldP (ps p) w))))), .ref (r 24), vI (g_fa (gH G5 (31 * g_h G5 + (n32 (toldP (ps p) w))))), vI (g_iw (gH G5 (31 * g_h G5 + (n32 (toldP (ps p) w))))), vI (g_nw (gH G5 (31 * g_h G5 + (n32 (toldP (ps p) w))))), vI (g_ns (gH G5 (31 * g_h G5 + (n32 (toldP (ps p) w))))), vI (g_ne (gH G5 (31 * g_h G5 + (n32 (toldP (ps p) w))))), .ref (r 30), .ref (r 31), .ref (r 32), .ref (r 33), vL (g_h (gH G5 (31 * g_h G5 + (n32 (toldP (ps p) w)))))]), ((r 1), aI (Y 0) 7 (ms_h S)), ((r 0), aI (Y 0) 420 (ms_m S)), ((r 24), aI (Y 0) 432 v), ((r 30), aI (Y 0) 271 f), ((r 31), aI (Y 0) 271 mo), ((r 32), aI (Y 0) 271 f2), ((r 33), aI (Y 0) 271 m2)]) [7, 0, 1, 2, 3, 4, 5, 6] rfl rfl ?_
                    refine j_iinc (pc := 90) (lc' := [(2, vI (w + 1)), (0, .ref h), (1, vI p)]) C 2 rfl (by decide) rfl dX10_digest_90 ?_
                    refine j_goto (pc := 93) C 73 rfl dX10_digest_93 ?_
                    refine j_locals (lc' := [(0, .ref h), (1, vI p), (2, vI (w + 1))]) [1, 2, 0] rfl ?_
                    exact ih73 (w + 1) (gH G5 (31 * g_h G5 + (n32 (toldP (ps p) w)))) (by omega) (by omega) (i73_1.tr (gEq.hh _ _)) (by rw [fo_succ _ (by omega), ← i73_2]; rfl)
              refine j_locals (lc' := [(0, .ref h), (1, vI p), (2, vI 0)]) [1, 2, 0] rfl ?_
              exact hL73 _ 0 G4 (Nat.lt_succ_self _) (by omega) i63_1 (fo_zero _ _).symm
        refine j_locals (lc' := [(0, .ref h), (1, vI 0)]) [1, 0] rfl ?_
        exact hL63 _ 0 G2 (Nat.lt_succ_self _) (by omega) i9_1 (by rw [i9_2, show c = 7 by omega]; exact (fo_zero _ _).symm)
      · skip
        refine j_aload_n (pc := 15) C 0 0 rfl rfl dX10_digest_15 ?_
        refine j_aload_n (pc := 16) C 0 0 rfl rfl dX10_digest_16 ?_
        refine j_get (pc := 17) C (Or.inl (List.mem_of_getElem? (i := 0) rfl)) rfl fX10_digest_X10 1 (by decide) (List.mem_of_getElem? (i := 3) rfl) (Or.inl rfl) rfl dX10_digest_17 ?_
        refine j_iload_n (pc := 20) C 1 1 rfl rfl dX10_digest_20 ?_
        refine j_iald (pc := 21) C (Or.inl (List.mem_of_getElem? (i := 1) rfl)) rfl (by omega) (by decide) dX10_digest_21 ?_
        have f_45 := hS.1 c (by omega)
        rw [vI_n32 (ms_h S c)]
        have hn_46 := n32_in (ms_h S c)
        refine j_i2l (pc := 22) C (by omega) dX10_digest_22 ?_
        refine j_callVv (pc := 23) (As := [vL (n32 (ms_h S c))]) (na := 1) (st := []) C [0] [1, 2, 3, 4, 5, 6, 7] (wr := [((r 1), aI (Y 0) 7 (ms_h S)), ((r 0), aI (Y 0) 420 (ms_m S)), ((r 24), aI (Y 0) 432 v), ((r 30), aI (Y 0) 271 f), ((r 31), aI (Y 0) 271 mo), ((r 32), aI (Y 0) 271 f2), ((r 33), aI (Y 0) 271 m2)]) (fun l => m_mix l D Y _ h r S G2 (n32 (ms_h S c)) ) rfl rfl rfl rfl (by decide) rfl (Or.inl (List.mem_of_getElem? (i := 0) rfl)) rfl gX10_digest_X10_mix ⟨rfl, by decide +kernel⟩ (by decide) rfl rfl (Nat.le_of_ble_eq_true rfl) (by decide) dX10_digest_23 (fun w_48 h_49 => ?_)
        subst h_49
        refine j_perm (ws' := [(h, oC 9 [.ref (r 0), .ref (r 1), vI (ms_w S), vI (ms_l S), vL (ms_s S), vI (ms_a S), vI (ms_t S), vI (ms_p S), vI (g_np (gH G2 (31 * g_h G2 + (n32 (ms_h S c))))), .ref (r 9), .ref (r 10), .ref (r 11), .ref (r 12), .ref (r 13), vI (g_nc (gH G2 (31 * g_h G2 + (n32 (ms_h S c))))), .ref (r 15), .ref (r 16), .ref (r 17), vI (g_pl (gH G2 (31 * g_h G2 + (n32 (ms_h S c))))), .ref (r 19), vI (g_ik (gH G2 (31 * g_h G2 + (n32 (ms_h S c))))), vL (g_ks (gH G2 (31 * g_h G2 + (n32 (ms_h S c))))), .ref (r 22), vL (g_ss (gH G2 (31 * g_h G2 + (n32 (ms_h S c))))), .ref (r 24), vI (g_fa (gH G2 (31 * g_h G2 + (n32 (ms_h S c))))), vI (g_iw (gH G2 (31 * g_h G2 + (n32 (ms_h S c))))), vI (g_nw (gH G2 (31 * g_h G2 + (n32 (ms_h S c))))), vI (g_ns (gH G2 (31 * g_h G2 + (n32 (ms_h S c))))), vI (g_ne (gH G2 (31 * g_h G2 + (n32 (ms_h S c))))), .ref (r 30), .ref (r 31), .ref (r 32), .ref (r 33), vL (g_h (gH G2 (31 * g_h G2 + (n32 (ms_h S c)))))]), ((r 1), aI (Y 0) 7 (ms_h S)), ((r 0), aI (Y 0) 420 (ms_m S)), ((r 24), aI (Y 0) 432 v), ((r 30), aI (Y 0) 271 f), ((r 31), aI (Y 0) 271 mo), ((r 32), aI (Y 0) 271 f2), ((r 33), aI (Y 0) 271 m2)]) [7, 0, 1, 2, 3, 4, 5, 6] rfl rfl ?_
        refine j_iconst (pc := 26) C dX10_digest_26 ?_
        refine j_istore_n (pc := 27) (lc' := [(2, vI 0), (0, .ref h), (1, vI c)]) C 2 rfl (by decide) rfl dX10_digest_27 ?_
        have hL28 : ∀ (N28 : Nat) (d : Int) (G3 : GS), ((ms_h S c - d).toNat) < N28 → (0 ≤ d ∧ d ≤ ms_h S c) → (gEq G G3) → (g_h G3 = fo (markF S c) d (31 * g_h G2 + n32 (ms_h S c))) → jW X 3 0 0 [(h, oC 9 [.ref (r 0), .ref (r 1), vI (ms_w S), vI (ms_l S), vL (ms_s S), vI (ms_a S), vI (ms_t S), vI (ms_p S), vI (g_np G3), .ref (r 9), .ref (r 10), .ref (r 11), .ref (r 12), .ref (r 13), vI (g_nc G3), .ref (r 15), .ref (r 16), .ref (r 17), vI (g_pl G3), .ref (r 19), vI (g_ik G3), vL (g_ks G3), .ref (r 22), vL (g_ss G3), .ref (r 24), vI (g_fa G3), vI (g_iw G3), vI (g_nw G3), vI (g_ns G3), vI (g_ne G3), .ref (r 30), .ref (r 31), .ref (r 32), .ref (r 33), vL (g_h G3)]), ((r 1), aI (Y 0) 7 (ms_h S)), ((r 0), aI (Y 0) 420 (ms_m S)), ((r 24), aI (Y 0) 432 v), ((r 30), aI (Y 0) 271 f), ((r 31), aI (Y 0) 271 mo), ((r 32), aI (Y 0) 271 f2), ((r 33), aI (Y 0) 271 m2)] [(0, .ref h), (1, vI c), (2, vI d)] 28 [] := by
          intro N28
          induction N28 with
          | zero => intro d G3 hm28 i28_0 i28_1 i28_2; omega
          | succ N28 ih28 =>
            intro d G3 hm28 i28_0 i28_1 i28_2
            have hga28 := i28_1.1
            have hgb28 := i28_1.2.1
            have hgc28 := i28_1.2.2.1
            refine j_iload_n (pc := 28) C 2 2 rfl rfl dX10_digest_28 ?_
            refine j_aload_n (pc := 29) C 0 0 rfl rfl dX10_digest_29 ?_
            refine j_get (pc := 30) C (Or.inl (List.mem_of_getElem? (i := 0) rfl)) rfl fX10_digest_X10 1 (by decide) (List.mem_of_getElem? (i := 3) rfl) (Or.inl rfl) rfl dX10_digest_30 ?_
            refine j_iload_n (pc := 33) C 1 1 rfl rfl dX10_digest_33 ?_
            refine j_iald (pc := 34) C (Or.inl (List.mem_of_getElem? (i := 1) rfl)) rfl (by omega) (by decide) dX10_digest_34 ?_
            have f_50 := hS.1 c (by omega)
            refine j_icmp_ge (pc := 35) C 55 rfl (by omega) dX10_digest_35 (fun h_51p35 => ?_) (fun h_51p35 => ?_)
            · skip
              refine j_iinc (pc := 55) (lc' := [(1, vI (c + 1)), (0, .ref h), (2, vI d)]) C 1 rfl (by decide) rfl dX10_digest_55 ?_
              refine j_goto (pc := 58) C 9 rfl dX10_digest_58 ?_
              refine j_locals (lc' := [(0, .ref h), (1, vI (c + 1))]) [1, 0] rfl ?_
              exact ih9 (c + 1) G3 (by omega) (by omega) i28_1 (by rw [fo_succ _ (by omega), ← i9_2, i28_2, show d = ms_h S c by omega]; rfl)
            · skip
              refine j_aload_n (pc := 38) C 0 0 rfl rfl dX10_digest_38 ?_
              refine j_aload_n (pc := 39) C 0 0 rfl rfl dX10_digest_39 ?_
              refine j_iload_n (pc := 40) C 1 1 rfl rfl dX10_digest_40 ?_
              refine j_iload_n (pc := 41) C 2 2 rfl rfl dX10_digest_41 ?_
              refine j_callVi (pc := 42) (As := [vI c, vI d]) (na := 2) (st := [.ref h]) C [] [0, 1, 2, 3, 4, 5, 6, 7] (wr := [(h, oC 9 [.ref (r 0), .ref (r 1), vI (ms_w S), vI (ms_l S), vL (ms_s S), vI (ms_a S), vI (ms_t S), vI (ms_p S), vI (g_np G3), .ref (r 9), .ref (r 10), .ref (r 11), .ref (r 12), .ref (r 13), vI (g_nc G3), .ref (r 15), .ref (r 16), .ref (r 17), vI (g_pl G3), .ref (r 19), vI (g_ik G3), vL (g_ks G3), .ref (r 22), vL (g_ss G3), .ref (r 24), vI (g_fa G3), vI (g_iw G3), vI (g_nw G3), vI (g_ns G3), vI (g_ne G3), .ref (r 30), .ref (r 31), .ref (r 32), .ref (r 33), vL (g_h G3)]), ((r 1), aI (Y 0) 7 (ms_h S)), ((r 0), aI (Y 0) 420 (ms_m S)), ((r 24), aI (Y 0) 432 v), ((r 30), aI (Y 0) 271 f), ((r 31), aI (Y 0) 271 mo), ((r 32), aI (Y 0) 271 f2), ((r 33), aI (Y 0) 271 m2)]) (fun l => m_markOf l D Y _ h r S G3 c d (List.mem_append_left _ (List.mem_of_getElem? (i := 0) rfl)) (List.mem_append_left _ (List.mem_of_getElem? (i := 1) rfl)) (List.mem_append_left _ (List.mem_of_getElem? (i := 2) rfl)) hS (by omega) (by omega)) rfl rfl rfl rfl (by decide) rfl (Or.inr (List.mem_append_left _ (List.mem_of_getElem? (i := 0) rfl))) rfl gX10_digest_X10_markOf ⟨rfl, by decide +kernel⟩ (by decide) rfl rfl (Nat.le_of_ble_eq_true rfl) (by decide) dX10_digest_42 (fun e_52 w_53 h_54 => ?_)
              obtain ⟨rfl, rfl⟩ := h_54
              refine j_perm (ws' := [(h, oC 9 [.ref (r 0), .ref (r 1), vI (ms_w S), vI (ms_l S), vL (ms_s S), vI (ms_a S), vI (ms_t S), vI (ms_p S), vI (g_np G3), .ref (r 9), .ref (r 10), .ref (r 11), .ref (r 12), .ref (r 13), vI (g_nc G3), .ref (r 15), .ref (r 16), .ref (r 17), vI (g_pl G3), .ref (r 19), vI (g_ik G3), vL (g_ks G3), .ref (r 22), vL (g_ss G3), .ref (r 24), vI (g_fa G3), vI (g_iw G3), vI (g_nw G3), vI (g_ns G3), vI (g_ne G3), .ref (r 30), .ref (r 31), .ref (r 32), .ref (r 33), vL (g_h G3)]), ((r 1), aI (Y 0) 7 (ms_h S)), ((r 0), aI (Y 0) 420 (ms_m S)), ((r 24), aI (Y 0) 432 v), ((r 30), aI (Y 0) 271 f), ((r 31), aI (Y 0) 271 mo), ((r 32), aI (Y 0) 271 f2), ((r 33), aI (Y 0) 271 m2)]) [0, 1, 2, 3, 4, 5, 6, 7] rfl rfl ?_
              rw [vI_n32 (markS c d S)]
              have hn_55 := n32_in (markS c d S)
              refine j_i2l (pc := 45) C (by omega) dX10_digest_45 ?_
              refine j_callVv (pc := 46) (As := [vL (n32 (markS c d S))]) (na := 1) (st := []) C [0] [1, 2, 3, 4, 5, 6, 7] (wr := [((r 1), aI (Y 0) 7 (ms_h S)), ((r 0), aI (Y 0) 420 (ms_m S)), ((r 24), aI (Y 0) 432 v), ((r 30), aI (Y 0) 271 f), ((r 31), aI (Y 0) 271 mo), ((r 32), aI (Y 0) 271 f2), ((r 33), aI (Y 0) 271 m2)]) (fun l => m_mix l D Y _ h r S G3 (n32 (markS c d S)) ) rfl rfl rfl rfl (by decide) rfl (Or.inl (List.mem_of_getElem? (i := 0) rfl)) rfl gX10_digest_X10_mix ⟨rfl, by decide +kernel⟩ (by decide) rfl rfl (Nat.le_of_ble_eq_true rfl) (by decide) dX10_digest_46 (fun w_57 h_58 => ?_)
              subst h_58
              refine j_perm (ws' := [(h, oC 9 [.ref (r 0), .ref (r 1), vI (ms_w S), vI (ms_l S), vL (ms_s S), vI (ms_a S), vI (ms_t S), vI (ms_p S), vI (g_np (gH G3 (31 * g_h G3 + (n32 (markS c d S))))), .ref (r 9), .ref (r 10), .ref (r 11), .ref (r 12), .ref (r 13), vI (g_nc (gH G3 (31 * g_h G3 + (n32 (markS c d S))))), .ref (r 15), .ref (r 16), .ref (r 17), vI (g_pl (gH G3 (31 * g_h G3 + (n32 (markS c d S))))), .ref (r 19), vI (g_ik (gH G3 (31 * g_h G3 + (n32 (markS c d S))))), vL (g_ks (gH G3 (31 * g_h G3 + (n32 (markS c d S))))), .ref (r 22), vL (g_ss (gH G3 (31 * g_h G3 + (n32 (markS c d S))))), .ref (r 24), vI (g_fa (gH G3 (31 * g_h G3 + (n32 (markS c d S))))), vI (g_iw (gH G3 (31 * g_h G3 + (n32 (markS c d S))))), vI (g_nw (gH G3 (31 * g_h G3 + (n32 (markS c d S))))), vI (g_ns (gH G3 (31 * g_h G3 + (n32 (markS c d S))))), vI (g_ne (gH G3 (31 * g_h G3 + (n32 (markS c d S))))), .ref (r 30), .ref (r 31), .ref (r 32), .ref (r 33), vL (g_h (gH G3 (31 * g_h G3 + (n32 (markS c d S)))))]), ((r 1), aI (Y 0) 7 (ms_h S)), ((r 0), aI (Y 0) 420 (ms_m S)), ((r 24), aI (Y 0) 432 v), ((r 30), aI (Y 0) 271 f), ((r 31), aI (Y 0) 271 mo), ((r 32), aI (Y 0) 271 f2), ((r 33), aI (Y 0) 271 m2)]) [7, 0, 1, 2, 3, 4, 5, 6] rfl rfl ?_
              refine j_iinc (pc := 49) (lc' := [(2, vI (d + 1)), (0, .ref h), (1, vI c)]) C 2 rfl (by decide) rfl dX10_digest_49 ?_
              refine j_goto (pc := 52) C 28 rfl dX10_digest_52 ?_
              refine j_locals (lc' := [(0, .ref h), (1, vI c), (2, vI (d + 1))]) [1, 2, 0] rfl ?_
              exact ih28 (d + 1) (gH G3 (31 * g_h G3 + (n32 (markS c d S)))) (by omega) (by omega) (i28_1.tr (gEq.hh _ _)) (by rw [fo_succ _ (by omega), ← i28_2]; rfl)
        refine j_locals (lc' := [(0, .ref h), (1, vI c), (2, vI 0)]) [1, 2, 0] rfl ?_
        exact hL28 _ 0 (gH G2 (31 * g_h G2 + (n32 (ms_h S c)))) (Nat.lt_succ_self _) (by omega) (i9_1.tr (gEq.hh _ _)) (fo_zero _ _).symm
  refine j_locals (lc' := [(0, .ref h), (1, vI 0)]) [1, 0] rfl ?_
  exact hL9 _ 0 (g_np G, g_nc G, g_pl G, g_ik G, g_ks G, g_ss G, g_fa G, g_iw G, g_nw G, g_ns G, g_ne G, 563) (Nat.lt_succ_self _) (by omega) ⟨rfl, rfl, rfl, rfl, rfl⟩ rfl
