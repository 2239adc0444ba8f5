set_option maxHeartbeats 4000000 in
set_option maxRecDepth 100000 in
theorem l_cell (l : Launch) (D : va_G) (Y : Nat → ClassId) (RO : va_W) (b L : Nat) (xs : Nat → Int32) (hL : L ≤ 3072) (kx : Int)  (hkx : 0 ≤ kx ∧ kx ≤ 1000) : jMiX l yL_cell wsL_cell { frames := 0, cells := 0, slots := 0, locals := 0 } D Y RO b L xs [.ref b, vI kx] [] (fun e w1 => (0 ≤ e ∧ e ≤ 2147483647) ∧ w1 = []) := by
  refine j_ofiX RL rfl rfl rfl (Nat.le_of_ble_eq_true rfl) (fun X C hSc Rt => ?_)
  refine j_iload_n (pc := 0) C 1 1 rfl rfl dL_cell_0 ?_
  refine j_aload_n (pc := 1) C 0 0 rfl rfl dL_cell_1 ?_
  refine j_slen (pc := 2) C hSc dL_cell_2 ?_
  refine j_icmp_ge (pc := 3) C 12 rfl (by omega) dL_cell_3 (fun h_1p3 => ?_) (fun h_1p3 => ?_)
  · skip
    refine j_sipush (pc := 12) (w := 7919) C rfl dL_cell_12 ?_
    refine j_iload_n (pc := 15) C 1 1 rfl rfl dL_cell_15 ?_
    refine j_imul (pc := 16) C dL_cell_16 ?_
    refine j_bipush (pc := 17) (w := 13) C rfl dL_cell_17 ?_
    refine j_iadd (pc := 19) C dL_cell_19 ?_
    refine j_ldc (pc := 20) (w := 2147483647) C (List.mem_of_getElem? (i := 1) rfl) dL_cell_20 ?_
    refine j_iand (pc := 22) C dL_cell_22 ?_
    exact Rt _ _ _ _ _ _ (by decide) (by decide) ⟨andmax _, rfl⟩ dL_cell_23
  · skip
    refine j_aload_n (pc := 6) C 0 0 rfl rfl dL_cell_6 ?_
    refine j_iload_n (pc := 7) C 1 1 rfl rfl dL_cell_7 ?_
    refine j_sld (pc := 8) C hSc hL (by omega) dL_cell_8 ?_
    refine j_goto (pc := 9) C 20 rfl dL_cell_9 ?_
    refine j_ldc (pc := 20) (w := 2147483647) C (List.mem_of_getElem? (i := 1) rfl) dL_cell_20 ?_
    refine j_iand (pc := 22) C dL_cell_22 ?_
    exact Rt _ _ _ _ _ _ (by decide) (by decide) ⟨andmax _, rfl⟩ dL_cell_23

set_option maxHeartbeats 4000000 in
set_option maxRecDepth 100000 in
theorem l_letter (l : Launch) (D : va_G) (Y : Nat → ClassId) (RO : va_W) (r : Int)  (hr : 0 ≤ r ∧ r ≤ 10) : jMi l yL_letter wsL_letter { frames := 0, cells := 0, slots := 0, locals := 0 } D Y RO [vI r] [] (fun e w1 => e = (ltC r) ∧ w1 = []) := by
  refine j_ofi RL rfl rfl rfl (Nat.le_of_ble_eq_true rfl) (fun X C Rt => ?_)
  refine j_iload_n (pc := 0) C 0 0 rfl rfl dL_letter_0 ?_
  refine j_bipush (pc := 1) (w := 7) C rfl dL_letter_1 ?_
  refine j_icmp_ge (pc := 3) C 13 rfl (by omega) dL_letter_3 (fun h_1p3 => ?_) (fun h_1p3 => ?_)
  · skip
    refine j_iload_n (pc := 13) C 0 0 rfl rfl dL_letter_13 ?_
    refine j_bipush (pc := 14) (w := 7) C rfl dL_letter_14 ?_
    refine j_icmp_ne (pc := 16) C 24 rfl (by omega) dL_letter_16 (fun h_2p16 => ?_) (fun h_2p16 => ?_)
    · skip
      refine j_iload_n (pc := 24) C 0 0 rfl rfl dL_letter_24 ?_
      refine j_bipush (pc := 25) (w := 8) C rfl dL_letter_25 ?_
      refine j_icmp_ne (pc := 27) C 35 rfl (by omega) dL_letter_27 (fun h_3p27 => ?_) (fun h_3p27 => ?_)
      · skip
        refine j_iload_n (pc := 35) C 0 0 rfl rfl dL_letter_35 ?_
        refine j_bipush (pc := 36) (w := 9) C rfl dL_letter_36 ?_
        refine j_icmp_ne (pc := 38) C 46 rfl (by omega) dL_letter_38 (fun h_4p38 => ?_) (fun h_4p38 => ?_)
        · skip
          refine j_bipush (pc := 46) (w := 110) C rfl dL_letter_46 ?_
          exact Rt _ _ _ _ _ _ (by decide) (by decide) ⟨by unfold ltC; (repeat' split) <;> omega, rfl⟩ dL_letter_48
        · skip
          refine j_bipush (pc := 41) (w := 112) C rfl dL_letter_41 ?_
          refine j_goto (pc := 43) C 48 rfl dL_letter_43 ?_
          exact Rt _ _ _ _ _ _ (by decide) (by decide) ⟨by unfold ltC; (repeat' split) <;> omega, rfl⟩ dL_letter_48
      · skip
        refine j_bipush (pc := 30) (w := 108) C rfl dL_letter_30 ?_
        refine j_goto (pc := 32) C 48 rfl dL_letter_32 ?_
        exact Rt _ _ _ _ _ _ (by decide) (by decide) ⟨by unfold ltC; (repeat' split) <;> omega, rfl⟩ dL_letter_48
    · skip
      refine j_bipush (pc := 19) (w := 109) C rfl dL_letter_19 ?_
      refine j_goto (pc := 21) C 48 rfl dL_letter_21 ?_
      exact Rt _ _ _ _ _ _ (by decide) (by decide) ⟨by unfold ltC; (repeat' split) <;> omega, rfl⟩ dL_letter_48
  · skip
    refine j_bipush (pc := 6) (w := 48) C rfl dL_letter_6 ?_
    refine j_iload_n (pc := 8) C 0 0 rfl rfl dL_letter_8 ?_
    refine j_iadd (pc := 9) C dL_letter_9 ?_
    refine j_goto (pc := 10) C 48 rfl dL_letter_10 ?_
    exact Rt _ _ _ _ _ _ (by decide) (by decide) ⟨by unfold ltC; (repeat' split) <;> omega, rfl⟩ dL_letter_48

set_option maxHeartbeats 4000000 in
set_option maxRecDepth 100000 in
theorem l_rule (l : Launch) (D : va_G) (Y : Nat → ClassId) (RO : va_W) (hh : Nat) (f : Int → Int) (rl : Int) (last : Int) (num : Int) (h0 : (hh, aI (Y 0) 7 f) ∈ RO) (hrl : 0 ≤ rl ∧ rl ≤ 10) (hf : ∀ i : Int, 0 ≤ i ∧ i < 7 → 0 ≤ f i ∧ f i ≤ 60) (hla : 0 ≤ last ∧ last < 7) (hnu : 0 ≤ num ∧ num < 7) : jMi l yL_rule wsL_rule { frames := 0, cells := 0, slots := 0, locals := 0 } D Y RO [vI rl, .ref hh, vI last, vI num] [] (fun e w1 => e = (ruleL rl f last num) ∧ w1 = []) := by
  refine j_ofi RL rfl rfl rfl (Nat.le_of_ble_eq_true rfl) (fun X C Rt => ?_)
  refine j_iconst (pc := 0) C dL_rule_0 ?_
  refine j_istore (pc := 1) (lc' := [(4, vI 0), (0, vI rl), (1, .ref hh), (2, vI last), (3, vI num)]) C (by decide) rfl dL_rule_1 ?_
  refine j_bipush (pc := 3) (w := 6) C rfl dL_rule_3 ?_
  refine j_istore (pc := 5) (lc' := [(5, vI 6), (4, vI 0), (0, vI rl), (1, .ref hh), (2, vI last), (3, vI num)]) C (by decide) rfl dL_rule_5 ?_
  have hL7 : ∀ (N7 : Nat) (b : Int) (c : Int), ((c + 1).toNat) < N7 → (-1 ≤ c ∧ c ≤ 6) → (0 ≤ b ∧ b ≤ 6) → (rl = 7 → mxP f c b) → (rl = 8 → mxP (fun j => - f j) c b) → jW X 6 0 0 [] [(0, vI rl), (1, .ref hh), (2, vI last), (3, vI num), (4, vI b), (5, vI c)] 7 [] := by
    intro N7
    induction N7 with
    | zero => intro b c hm7 i7_0 i7_1 i7_2 i7_3; omega
    | succ N7 ih7 =>
      intro b c hm7 i7_0 i7_1 i7_2 i7_3
      refine j_iload (pc := 7) C 5 rfl dL_rule_7 ?_
      refine j_if_lt (pc := 9) C 61 rfl (by omega) dL_rule_9 (fun h_1p9 => ?_) (fun h_1p9 => ?_)
      · skip
        refine j_iload_n (pc := 61) C 0 0 rfl rfl dL_rule_61 ?_
        refine j_bipush (pc := 62) (w := 7) C rfl dL_rule_62 ?_
        refine j_icmp_ge (pc := 64) C 71 rfl (by omega) dL_rule_64 (fun h_2p64 => ?_) (fun h_2p64 => ?_)
        · skip
          refine j_iload_n (pc := 71) C 0 0 rfl rfl dL_rule_71 ?_
          refine j_bipush (pc := 72) (w := 9) C rfl dL_rule_72 ?_
          refine j_icmp_ge (pc := 74) C 82 rfl (by omega) dL_rule_74 (fun h_3p74 => ?_) (fun h_3p74 => ?_)
          · skip
            refine j_iload_n (pc := 82) C 0 0 rfl rfl dL_rule_82 ?_
            refine j_bipush (pc := 83) (w := 9) C rfl dL_rule_83 ?_
            refine j_icmp_ne (pc := 85) C 92 rfl (by omega) dL_rule_85 (fun h_4p85 => ?_) (fun h_4p85 => ?_)
            · skip
              refine j_iload_n (pc := 92) C 2 2 rfl rfl dL_rule_92 ?_
              refine j_iconst (pc := 93) C dL_rule_93 ?_
              refine j_iadd (pc := 94) C dL_rule_94 ?_
              refine j_bipush (pc := 95) (w := 7) C rfl dL_rule_95 ?_
              refine j_irem (pc := 97) C (by omega) dL_rule_97 ?_
              exact Rt _ _ _ _ _ _ (by decide) (by decide) ⟨by unfold ruleL; first | (rw [if_neg (by omega), if_neg (by omega), if_neg (by omega), if_neg (by omega)]; done) | (rw [if_neg (by omega), if_neg (by omega), if_neg (by omega), if_pos (by omega)]; done) | (rw [if_neg (by omega), if_neg (by omega), if_pos (by omega)]; done) | (rw [show c = -1 by omega] at i7_2 i7_3; rcases (show rl = 7 ∨ rl = 8 by omega) with q | q; { rw [if_pos q]; exact (mx_end (i7_2 q)).symm }; { rw [if_neg (by omega), if_pos q, least_neg]; exact (mx_end (i7_3 q)).symm }), rfl⟩ dL_rule_98
            · skip
              refine j_iload_n (pc := 88) C 3 3 rfl rfl dL_rule_88 ?_
              refine j_goto (pc := 89) C 98 rfl dL_rule_89 ?_
              exact Rt _ _ _ _ _ _ (by decide) (by decide) ⟨by unfold ruleL; first | (rw [if_neg (by omega), if_neg (by omega), if_neg (by omega), if_neg (by omega)]; done) | (rw [if_neg (by omega), if_neg (by omega), if_neg (by omega), if_pos (by omega)]; done) | (rw [if_neg (by omega), if_neg (by omega), if_pos (by omega)]; done) | (rw [show c = -1 by omega] at i7_2 i7_3; rcases (show rl = 7 ∨ rl = 8 by omega) with q | q; { rw [if_pos q]; exact (mx_end (i7_2 q)).symm }; { rw [if_neg (by omega), if_pos q, least_neg]; exact (mx_end (i7_3 q)).symm }), rfl⟩ dL_rule_98
          · skip
            refine j_iload (pc := 77) C 4 rfl dL_rule_77 ?_
            refine j_goto (pc := 79) C 98 rfl dL_rule_79 ?_
            exact Rt _ _ _ _ _ _ (by decide) (by decide) ⟨by unfold ruleL; first | (rw [if_neg (by omega), if_neg (by omega), if_neg (by omega), if_neg (by omega)]; done) | (rw [if_neg (by omega), if_neg (by omega), if_neg (by omega), if_pos (by omega)]; done) | (rw [if_neg (by omega), if_neg (by omega), if_pos (by omega)]; done) | (rw [show c = -1 by omega] at i7_2 i7_3; rcases (show rl = 7 ∨ rl = 8 by omega) with q | q; { rw [if_pos q]; exact (mx_end (i7_2 q)).symm }; { rw [if_neg (by omega), if_pos q, least_neg]; exact (mx_end (i7_3 q)).symm }), rfl⟩ dL_rule_98
        · skip
          refine j_iload_n (pc := 67) C 0 0 rfl rfl dL_rule_67 ?_
          refine j_goto (pc := 68) C 98 rfl dL_rule_68 ?_
          exact Rt _ _ _ _ _ _ (by decide) (by decide) ⟨by unfold ruleL; first | (rw [if_neg (by omega), if_neg (by omega), if_neg (by omega), if_neg (by omega)]; done) | (rw [if_neg (by omega), if_neg (by omega), if_neg (by omega), if_pos (by omega)]; done) | (rw [if_neg (by omega), if_neg (by omega), if_pos (by omega)]; done) | (rw [show c = -1 by omega] at i7_2 i7_3; rcases (show rl = 7 ∨ rl = 8 by omega) with q | q; { rw [if_pos q]; exact (mx_end (i7_2 q)).symm }; { rw [if_neg (by omega), if_pos q, least_neg]; exact (mx_end (i7_3 q)).symm }), rfl⟩ dL_rule_98
      · skip
        refine j_iload_n (pc := 12) C 0 0 rfl rfl dL_rule_12 ?_
        refine j_bipush (pc := 13) (w := 7) C rfl dL_rule_13 ?_
        refine j_icmp_ne (pc := 15) C 29 rfl (by omega) dL_rule_15 (fun h_5p15 => ?_) (fun h_5p15 => ?_)
        · skip
          refine j_iload_n (pc := 29) C 0 0 rfl rfl dL_rule_29 ?_
          refine j_bipush (pc := 30) (w := 8) C rfl dL_rule_30 ?_
          refine j_icmp_ne (pc := 32) C 51 rfl (by omega) dL_rule_32 (fun h_6p32 => ?_) (fun h_6p32 => ?_)
          · skip
            refine j_iload (pc := 51) C 4 rfl dL_rule_51 ?_
            refine j_istore (pc := 53) (lc' := [(4, vI b), (0, vI rl), (1, .ref hh), (2, vI last), (3, vI num), (5, vI c)]) C (by decide) rfl dL_rule_53 ?_
            refine j_iinc (pc := 55) (lc' := [(5, vI (c + (-1))), (4, vI b), (0, vI rl), (1, .ref hh), (2, vI last), (3, vI num)]) C 5 rfl (by decide) rfl dL_rule_55 ?_
            refine j_goto (pc := 58) C 7 rfl dL_rule_58 ?_
            refine j_locals (lc' := [(0, vI rl), (1, .ref hh), (2, vI last), (3, vI num), (4, vI b), (5, vI (c + (-1)))]) [2, 3, 4, 5, 1, 0] rfl ?_
            exact ih7 b (c + (-1)) (by omega) (by omega) (by omega) (fun q => by first | (exfalso; omega) | (rw [show c + (-1) = c - 1 by omega]; first | exact mx_take (by omega) (i7_2 q) (by omega) | exact mx_keep (by omega) (i7_2 q) (by omega))) (fun q => by first | (exfalso; omega) | (rw [show c + (-1) = c - 1 by omega]; first | exact mx_take (by omega) (i7_3 q) (by show - f b ≤ - f c; omega) | exact mx_keep (by omega) (i7_3 q) (by show - f c < - f b; omega)))
          · skip
            refine j_aload_n (pc := 35) C 1 1 rfl rfl dL_rule_35 ?_
            refine j_iload (pc := 36) C 5 rfl dL_rule_36 ?_
            refine j_iald (pc := 38) C (Or.inr h0) rfl (by omega) (by decide) dL_rule_38 ?_
            have f_7 := hf c (by omega)
            refine j_aload_n (pc := 39) C 1 1 rfl rfl dL_rule_39 ?_
            refine j_iload (pc := 40) C 4 rfl dL_rule_40 ?_
            refine j_iald (pc := 42) C (Or.inr h0) rfl (by omega) (by decide) dL_rule_42 ?_
            have f_8 := hf b (by omega)
            refine j_icmp_gt (pc := 43) C 51 rfl (by omega) dL_rule_43 (fun h_9p43 => ?_) (fun h_9p43 => ?_)
            · skip
              refine j_iload (pc := 51) C 4 rfl dL_rule_51 ?_
              refine j_istore (pc := 53) (lc' := [(4, vI b), (0, vI rl), (1, .ref hh), (2, vI last), (3, vI num), (5, vI c)]) C (by decide) rfl dL_rule_53 ?_
              refine j_iinc (pc := 55) (lc' := [(5, vI (c + (-1))), (4, vI b), (0, vI rl), (1, .ref hh), (2, vI last), (3, vI num)]) C 5 rfl (by decide) rfl dL_rule_55 ?_
              refine j_goto (pc := 58) C 7 rfl dL_rule_58 ?_
              refine j_locals (lc' := [(0, vI rl), (1, .ref hh), (2, vI last), (3, vI num), (4, vI b), (5, vI (c + (-1)))]) [2, 3, 4, 5, 1, 0] rfl ?_
              exact ih7 b (c + (-1)) (by omega) (by omega) (by omega) (fun q => by first | (exfalso; omega) | (rw [show c + (-1) = c - 1 by omega]; first | exact mx_take (by omega) (i7_2 q) (by omega) | exact mx_keep (by omega) (i7_2 q) (by omega))) (fun q => by first | (exfalso; omega) | (rw [show c + (-1) = c - 1 by omega]; first | exact mx_take (by omega) (i7_3 q) (by show - f b ≤ - f c; omega) | exact mx_keep (by omega) (i7_3 q) (by show - f c < - f b; omega)))
            · skip
              refine j_iload (pc := 46) C 5 rfl dL_rule_46 ?_
              refine j_goto (pc := 48) C 53 rfl dL_rule_48 ?_
              refine j_istore (pc := 53) (lc' := [(4, vI c), (0, vI rl), (1, .ref hh), (2, vI last), (3, vI num), (5, vI c)]) C (by decide) rfl dL_rule_53 ?_
              refine j_iinc (pc := 55) (lc' := [(5, vI (c + (-1))), (4, vI c), (0, vI rl), (1, .ref hh), (2, vI last), (3, vI num)]) C 5 rfl (by decide) rfl dL_rule_55 ?_
              refine j_goto (pc := 58) C 7 rfl dL_rule_58 ?_
              refine j_locals (lc' := [(0, vI rl), (1, .ref hh), (2, vI last), (3, vI num), (4, vI c), (5, vI (c + (-1)))]) [2, 3, 4, 5, 1, 0] rfl ?_
              exact ih7 c (c + (-1)) (by omega) (by omega) (by omega) (fun q => by first | (exfalso; omega) | (rw [show c + (-1) = c - 1 by omega]; first | exact mx_take (by omega) (i7_2 q) (by omega) | exact mx_keep (by omega) (i7_2 q) (by omega))) (fun q => by first | (exfalso; omega) | (rw [show c + (-1) = c - 1 by omega]; first | exact mx_take (by omega) (i7_3 q) (by show - f b ≤ - f c; omega) | exact mx_keep (by omega) (i7_3 q) (by show - f c < - f b; omega)))
        · skip
          refine j_aload_n (pc := 18) C 1 1 rfl rfl dL_rule_18 ?_
          refine j_iload (pc := 19) C 5 rfl dL_rule_19 ?_
          refine j_iald (pc := 21) C (Or.inr h0) rfl (by omega) (by decide) dL_rule_21 ?_
          have f_10 := hf c (by omega)
          refine j_aload_n (pc := 22) C 1 1 rfl rfl dL_rule_22 ?_
          refine j_iload (pc := 23) C 4 rfl dL_rule_23 ?_
          refine j_iald (pc := 25) C (Or.inr h0) rfl (by omega) (by decide) dL_rule_25 ?_
          have f_11 := hf b (by omega)
          refine j_icmp_ge (pc := 26) C 46 rfl (by omega) dL_rule_26 (fun h_12p26 => ?_) (fun h_12p26 => ?_)
          · skip
            refine j_iload (pc := 46) C 5 rfl dL_rule_46 ?_
            refine j_goto (pc := 48) C 53 rfl dL_rule_48 ?_
            refine j_istore (pc := 53) (lc' := [(4, vI c), (0, vI rl), (1, .ref hh), (2, vI last), (3, vI num), (5, vI c)]) C (by decide) rfl dL_rule_53 ?_
            refine j_iinc (pc := 55) (lc' := [(5, vI (c + (-1))), (4, vI c), (0, vI rl), (1, .ref hh), (2, vI last), (3, vI num)]) C 5 rfl (by decide) rfl dL_rule_55 ?_
            refine j_goto (pc := 58) C 7 rfl dL_rule_58 ?_
            refine j_locals (lc' := [(0, vI rl), (1, .ref hh), (2, vI last), (3, vI num), (4, vI c), (5, vI (c + (-1)))]) [2, 3, 4, 5, 1, 0] rfl ?_
            exact ih7 c (c + (-1)) (by omega) (by omega) (by omega) (fun q => by first | (exfalso; omega) | (rw [show c + (-1) = c - 1 by omega]; first | exact mx_take (by omega) (i7_2 q) (by omega) | exact mx_keep (by omega) (i7_2 q) (by omega))) (fun q => by first | (exfalso; omega) | (rw [show c + (-1) = c - 1 by omega]; first | exact mx_take (by omega) (i7_3 q) (by show - f b ≤ - f c; omega) | exact mx_keep (by omega) (i7_3 q) (by show - f c < - f b; omega)))
          · skip
            refine j_iload_n (pc := 29) C 0 0 rfl rfl dL_rule_29 ?_
            refine j_bipush (pc := 30) (w := 8) C rfl dL_rule_30 ?_
            refine j_icmp_ne (pc := 32) C 51 rfl (by omega) dL_rule_32 (fun h_13p32 => ?_) (fun h_13p32 => ?_)
            · skip
              refine j_iload (pc := 51) C 4 rfl dL_rule_51 ?_
              refine j_istore (pc := 53) (lc' := [(4, vI b), (0, vI rl), (1, .ref hh), (2, vI last), (3, vI num), (5, vI c)]) C (by decide) rfl dL_rule_53 ?_
              refine j_iinc (pc := 55) (lc' := [(5, vI (c + (-1))), (4, vI b), (0, vI rl), (1, .ref hh), (2, vI last), (3, vI num)]) C 5 rfl (by decide) rfl dL_rule_55 ?_
              refine j_goto (pc := 58) C 7 rfl dL_rule_58 ?_
              refine j_locals (lc' := [(0, vI rl), (1, .ref hh), (2, vI last), (3, vI num), (4, vI b), (5, vI (c + (-1)))]) [2, 3, 4, 5, 1, 0] rfl ?_
              exact ih7 b (c + (-1)) (by omega) (by omega) (by omega) (fun q => by first | (exfalso; omega) | (rw [show c + (-1) = c - 1 by omega]; first | exact mx_take (by omega) (i7_2 q) (by omega) | exact mx_keep (by omega) (i7_2 q) (by omega))) (fun q => by first | (exfalso; omega) | (rw [show c + (-1) = c - 1 by omega]; first | exact mx_take (by omega) (i7_3 q) (by show - f b ≤ - f c; omega) | exact mx_keep (by omega) (i7_3 q) (by show - f c < - f b; omega)))
            · skip
              refine j_aload_n (pc := 35) C 1 1 rfl rfl dL_rule_35 ?_
              refine j_iload (pc := 36) C 5 rfl dL_rule_36 ?_
              refine j_iald (pc := 38) C (Or.inr h0) rfl (by omega) (by decide) dL_rule_38 ?_
              have f_14 := hf c (by omega)
              refine j_aload_n (pc := 39) C 1 1 rfl rfl dL_rule_39 ?_
              refine j_iload (pc := 40) C 4 rfl dL_rule_40 ?_
              refine j_iald (pc := 42) C (Or.inr h0) rfl (by omega) (by decide) dL_rule_42 ?_
              have f_15 := hf b (by omega)
              refine j_icmp_gt (pc := 43) C 51 rfl (by omega) dL_rule_43 (fun h_16p43 => ?_) (fun h_16p43 => ?_)
              · skip
                refine j_iload (pc := 51) C 4 rfl dL_rule_51 ?_
                refine j_istore (pc := 53) (lc' := [(4, vI b), (0, vI rl), (1, .ref hh), (2, vI last), (3, vI num), (5, vI c)]) C (by decide) rfl dL_rule_53 ?_
                refine j_iinc (pc := 55) (lc' := [(5, vI (c + (-1))), (4, vI b), (0, vI rl), (1, .ref hh), (2, vI last), (3, vI num)]) C 5 rfl (by decide) rfl dL_rule_55 ?_
                refine j_goto (pc := 58) C 7 rfl dL_rule_58 ?_
                refine j_locals (lc' := [(0, vI rl), (1, .ref hh), (2, vI last), (3, vI num), (4, vI b), (5, vI (c + (-1)))]) [2, 3, 4, 5, 1, 0] rfl ?_
                exact ih7 b (c + (-1)) (by omega) (by omega) (by omega) (fun q => by first | (exfalso; omega) | (rw [show c + (-1) = c - 1 by omega]; first | exact mx_take (by omega) (i7_2 q) (by omega) | exact mx_keep (by omega) (i7_2 q) (by omega))) (fun q => by first | (exfalso; omega) | (rw [show c + (-1) = c - 1 by omega]; first | exact mx_take (by omega) (i7_3 q) (by show - f b ≤ - f c; omega) | exact mx_keep (by omega) (i7_3 q) (by show - f c < - f b; omega)))
              · skip
                refine j_iload (pc := 46) C 5 rfl dL_rule_46 ?_
                refine j_goto (pc := 48) C 53 rfl dL_rule_48 ?_
                refine j_istore (pc := 53) (lc' := [(4, vI c), (0, vI rl), (1, .ref hh), (2, vI last), (3, vI num), (5, vI c)]) C (by decide) rfl dL_rule_53 ?_
                refine j_iinc (pc := 55) (lc' := [(5, vI (c + (-1))), (4, vI c), (0, vI rl), (1, .ref hh), (2, vI last), (3, vI num)]) C 5 rfl (by decide) rfl dL_rule_55 ?_
                refine j_goto (pc := 58) C 7 rfl dL_rule_58 ?_
                refine j_locals (lc' := [(0, vI rl), (1, .ref hh), (2, vI last), (3, vI num), (4, vI c), (5, vI (c + (-1)))]) [2, 3, 4, 5, 1, 0] rfl ?_
                exact ih7 c (c + (-1)) (by omega) (by omega) (by omega) (fun q => by first | (exfalso; omega) | (rw [show c + (-1) = c - 1 by omega]; first | exact mx_take (by omega) (i7_2 q) (by omega) | exact mx_keep (by omega) (i7_2 q) (by omega))) (fun q => by first | (exfalso; omega) | (rw [show c + (-1) = c - 1 by omega]; first | exact mx_take (by omega) (i7_3 q) (by show - f b ≤ - f c; omega) | exact mx_keep (by omega) (i7_3 q) (by show - f c < - f b; omega)))
  refine j_locals (lc' := [(0, vI rl), (1, .ref hh), (2, vI last), (3, vI num), (4, vI 0), (5, vI 6)]) [2, 3, 4, 5, 1, 0] rfl ?_
  exact hL7 _ 0 6 (Nat.lt_succ_self _) (by omega) (by omega) (fun _ => mx_0 f) (fun _ => mx_0 _)

set_option maxHeartbeats 4000000 in
set_option maxRecDepth 100000 in
theorem l_lay (l : Launch) (D : va_G) (Y : Nat → ClassId) (RO : va_W) (hh : Nat) (km : Nat) (ho : Nat) (S : MS) (mk : Int → Int) (hw : Int → Int) (c : Int) (x : Int) (y : Int)  (hS : okS S) (hc : 0 ≤ c ∧ c < 7) (hLR : LR S mk hw) (hx : 0 ≤ x ∧ x ≤ ms_w S) (hxy : hw 6 = 0 → x = y) : jMv l yL_lay wsL_lay { frames := 0, cells := 0, slots := 0, locals := 0 } D Y RO [.ref hh, .ref km, .ref ho, vI c, vI x] [(hh, aI (Y 0) 7 (ms_h S)), (km, aI (Y 0) 63 mk), (ho, aI (Y 0) 7 hw)] (fun w1 => ∃ (mk1 : Int → Int) (hw1 : Int → Int), LR ((putS c y S)) mk1 hw1 ∧ w1 = [(hh, aI (Y 0) 7 (ms_h ((putS c y S)))), (km, aI (Y 0) 63 mk1), (ho, aI (Y 0) 7 hw1)]) := by
  refine j_ofv RL rfl rfl rfl (Nat.le_of_ble_eq_true rfl) (fun X C Rt hI => ?_)
  refine j_aload_n (pc := 0) C 0 0 rfl rfl dL_lay_0 ?_
  refine j_iload_n (pc := 1) C 3 3 rfl rfl dL_lay_1 ?_
  refine j_iald (pc := 2) C (Or.inl (List.mem_of_getElem? (i := 0) rfl)) rfl (by omega) (by decide) dL_lay_2 ?_
  have f_1 := hS.1 c hc
  refine j_bipush (pc := 3) (w := 60) C rfl dL_lay_3 ?_
  refine j_icmp_ne (pc := 5) C 16 rfl (by omega) dL_lay_5 (fun h_2p5 => ?_) (fun h_2p5 => ?_)
  · skip
    refine j_aload_n (pc := 16) C 0 0 rfl rfl dL_lay_16 ?_
    refine j_iload_n (pc := 17) C 3 3 rfl rfl dL_lay_17 ?_
    refine j_iald (pc := 18) C (Or.inl (List.mem_of_getElem? (i := 0) rfl)) rfl (by omega) (by decide) dL_lay_18 ?_
    have f_3 := hS.1 c hc
    refine j_bipush (pc := 19) (w := 9) C rfl dL_lay_19 ?_
    refine j_icmp_ge (pc := 21) C 39 rfl (by omega) dL_lay_21 (fun h_4p21 => ?_) (fun h_4p21 => ?_)
    · skip
      refine j_aload_n (pc := 39) C 2 2 rfl rfl dL_lay_39 ?_
      refine j_bipush (pc := 40) (w := 6) C rfl dL_lay_40 ?_
      refine j_iconst (pc := 42) C dL_lay_42 ?_
      refine j_iast (pc := 43) (ws' := [(hh, aI (Y 0) 7 (ms_h S)), (km, aI (Y 0) 63 mk), (ho, aI (Y 0) 7 (up hw 6 1))]) C 2 rfl rfl (by omega) (by decide) rfl dL_lay_43 ?_
      refine j_aload_n (pc := 44) C 0 0 rfl rfl dL_lay_44 ?_
      refine j_iload_n (pc := 45) C 3 3 rfl rfl dL_lay_45 ?_
      refine j_dup2 (pc := 46) C rfl rfl dL_lay_46 ?_
      refine j_iald (pc := 47) C (Or.inl (List.mem_of_getElem? (i := 0) rfl)) rfl (by omega) (by decide) dL_lay_47 ?_
      have f_5 := hS.1 c hc
      refine j_iconst (pc := 48) C dL_lay_48 ?_
      refine j_iadd (pc := 49) C dL_lay_49 ?_
      refine j_iast (pc := 50) (ws' := [(hh, aI (Y 0) 7 (up (ms_h S) c (ms_h S c + 1))), (km, aI (Y 0) 63 mk), (ho, aI (Y 0) 7 (up hw 6 1))]) C 0 rfl rfl (by omega) (by decide) rfl dL_lay_50 ?_
      exact Rt _ _ _ _ _ (by decide) (by decide) (by first | exact ⟨_, _, LR_low hS hLR hc (by omega) hx hxy, by rw [putS_not (by omega)]; first | done | rfl⟩ | exact ⟨_, _, LR_high hLR (by omega), by rw [putS_not (by omega)]; first | done | rfl⟩) dL_lay_51
    · skip
      refine j_aload_n (pc := 24) C 1 1 rfl rfl dL_lay_24 ?_
      refine j_bipush (pc := 25) (w := 9) C rfl dL_lay_25 ?_
      refine j_iload_n (pc := 27) C 3 3 rfl rfl dL_lay_27 ?_
      refine j_imul (pc := 28) C dL_lay_28 ?_
      refine j_aload_n (pc := 29) C 0 0 rfl rfl dL_lay_29 ?_
      refine j_iload_n (pc := 30) C 3 3 rfl rfl dL_lay_30 ?_
      refine j_iald (pc := 31) C (Or.inl (List.mem_of_getElem? (i := 0) rfl)) rfl (by omega) (by decide) dL_lay_31 ?_
      have f_6 := hS.1 c hc
      refine j_iadd (pc := 32) C dL_lay_32 ?_
      refine j_iload (pc := 33) C 4 rfl dL_lay_33 ?_
      refine j_iast (pc := 35) (ws' := [(hh, aI (Y 0) 7 (ms_h S)), (km, aI (Y 0) 63 (up mk ((9 * c) + ms_h S c) x)), (ho, aI (Y 0) 7 hw)]) C 1 rfl rfl (by omega) (by decide) rfl dL_lay_35 ?_
      refine j_goto (pc := 36) C 44 rfl dL_lay_36 ?_
      refine j_aload_n (pc := 44) C 0 0 rfl rfl dL_lay_44 ?_
      refine j_iload_n (pc := 45) C 3 3 rfl rfl dL_lay_45 ?_
      refine j_dup2 (pc := 46) C rfl rfl dL_lay_46 ?_
      refine j_iald (pc := 47) C (Or.inl (List.mem_of_getElem? (i := 0) rfl)) rfl (by omega) (by decide) dL_lay_47 ?_
      have f_7 := hS.1 c hc
      refine j_iconst (pc := 48) C dL_lay_48 ?_
      refine j_iadd (pc := 49) C dL_lay_49 ?_
      refine j_iast (pc := 50) (ws' := [(hh, aI (Y 0) 7 (up (ms_h S) c (ms_h S c + 1))), (km, aI (Y 0) 63 (up mk ((9 * c) + ms_h S c) x)), (ho, aI (Y 0) 7 hw)]) C 0 rfl rfl (by omega) (by decide) rfl dL_lay_50 ?_
      exact Rt _ _ _ _ _ (by decide) (by decide) (by first | exact ⟨_, _, LR_low hS hLR hc (by omega) hx hxy, by rw [putS_not (by omega)]; first | done | rfl⟩ | exact ⟨_, _, LR_high hLR (by omega), by rw [putS_not (by omega)]; first | done | rfl⟩) dL_lay_51
  · skip
    refine j_aload_n (pc := 8) C 2 2 rfl rfl dL_lay_8 ?_
    refine j_iconst (pc := 9) C dL_lay_9 ?_
    refine j_dup2 (pc := 10) C rfl rfl dL_lay_10 ?_
    refine j_iald (pc := 11) C (Or.inl (List.mem_of_getElem? (i := 2) rfl)) rfl (by omega) (by decide) dL_lay_11 ?_
    refine j_iconst (pc := 12) C dL_lay_12 ?_
    refine j_iadd (pc := 13) C dL_lay_13 ?_
    refine j_iast (pc := 14) (ws' := [(hh, aI (Y 0) 7 (ms_h S)), (km, aI (Y 0) 63 mk), (ho, aI (Y 0) 7 (up hw 5 (hw 5 + 1)))]) C 2 rfl rfl (by omega) (by decide) rfl dL_lay_14 ?_
    exact Rt _ _ _ _ _ (by decide) (by decide) ⟨mk, _, LR_full hLR (by omega), by rw [putS_full (by omega)]; first | done | rfl⟩ dL_lay_15

set_option maxHeartbeats 4000000 in
set_option maxRecDepth 100000 in
theorem l_draw (l : Launch) (D : va_G) (Y : Nat → ClassId) (RO : va_W) (ho : Nat) (sa : Nat) (sd : Int → Int) (S : MS)  (hS : okS S) (hsd : sd 0 = ms_s S) : jMi l yL_draw wsL_draw { frames := 0, cells := 0, slots := 0, locals := 0 } D Y RO [.ref ho, .ref sa] [(sa, aL (Y 1) 1 sd)] (fun e w1 => e = drawV (drawS S) ∧ ∃ sd1 : Int → Int, sd1 0 = ms_s (drawS S) ∧ w1 = [(sa, aL (Y 1) 1 sd1)]) := by
  refine j_ofi RL rfl rfl rfl (Nat.le_of_ble_eq_true rfl) (fun X C Rt => ?_)
  have hs := hS.2.2.2
  refine j_aload_n (pc := 0) C 1 1 rfl rfl dL_draw_0 ?_
  refine j_iconst (pc := 1) C dL_draw_1 ?_
  refine j_ldc2 (pc := 2) (w := 1103515245) C (List.mem_of_getElem? (i := 1) rfl) dL_draw_2 ?_
  refine j_aload_n (pc := 5) C 1 1 rfl rfl dL_draw_5 ?_
  refine j_iconst (pc := 6) C dL_draw_6 ?_
  refine j_lald (pc := 7) C (Or.inl (List.mem_of_getElem? (i := 0) rfl)) rfl (by omega) (by decide) dL_draw_7 ?_
  refine j_lmul (pc := 8) C dL_draw_8 ?_
  refine j_ldc2 (pc := 9) (w := 12345) C (List.mem_of_getElem? (i := 2) rfl) dL_draw_9 ?_
  refine j_ladd (pc := 12) C dL_draw_12 ?_
  refine j_ldc2 (pc := 13) (w := 2147483648) C (List.mem_of_getElem? (i := 3) rfl) dL_draw_13 ?_
  refine j_lrem (pc := 16) C (by omega) dL_draw_16 ?_
  refine j_last (pc := 17) (ws' := [(sa, aL (Y 1) 1 (up sd 0 (((1103515245 * sd 0) + 12345) % 2147483648)))]) C 0 rfl rfl (by omega) (by decide) rfl dL_draw_17 ?_
  refine j_aload_n (pc := 18) C 1 1 rfl rfl dL_draw_18 ?_
  refine j_iconst (pc := 19) C dL_draw_19 ?_
  refine j_lald (pc := 20) C (Or.inl (List.mem_of_getElem? (i := 0) rfl)) rfl (by omega) (by decide) dL_draw_20 ?_
  refine j_st (st' := [vL (((1103515245 * sd 0) + 12345) % 2147483648)]) rfl rfl (congrArg (fun z => vL z :: []) (up_same _ _ _)) ?_
  refine j_ldc2 (pc := 21) (w := 65536) C (List.mem_of_getElem? (i := 4) rfl) dL_draw_21 ?_
  refine j_ldiv (pc := 24) C (by omega) dL_draw_24 ?_
  refine j_ldc2 (pc := 25) (w := 10) C (List.mem_of_getElem? (i := 5) rfl) dL_draw_25 ?_
  refine j_lrem (pc := 28) C (by omega) dL_draw_28 ?_
  refine j_l2i (pc := 29) C dL_draw_29 ?_
  exact Rt _ _ _ _ _ _ (by decide) (by decide) ⟨by rw [hsd]; rfl, _, by rw [up_same, hsd]; rfl, rfl⟩ dL_draw_30

set_option maxHeartbeats 4000000 in
set_option maxRecDepth 100000 in
theorem l_copy7 (l : Launch) (D : va_G) (Y : Nat → ClassId) (RO : va_W) (fa : Nat) (ta : Nat) (f : Int → Int) (z : Int → Int) (r0 : (fa, aI (Y 0) 7 f) ∈ RO)  : jMv l yL_copy wsL_copy { frames := 0, cells := 0, slots := 0, locals := 0 } D Y RO [.ref fa, .ref ta] [(ta, aI (Y 0) 7 z)] (fun w1 => w1 = [(ta, aI (Y 0) 7 f)]) := by
  refine j_ofv RL rfl rfl rfl (Nat.le_of_ble_eq_true rfl) (fun X C Rt hI => ?_)
  refine j_iconst (pc := 0) C dL_copy_0 ?_
  refine j_istore_n (pc := 1) (lc' := [(2, vI 0), (0, .ref fa), (1, .ref ta)]) C 2 rfl (by decide) rfl dL_copy_1 ?_
  have hL2 : ∀ (N2 : Nat) (i : Int) (z1 : Int → Int), ((7 - i).toNat) < N2 → (0 ≤ i ∧ i ≤ 7) → (∀ j : Int, 0 ≤ j → j < i → z1 j = f j) → jW X 3 0 0 [(ta, aI (Y 0) 7 z1)] [(0, .ref fa), (1, .ref ta), (2, vI i)] 2 [] := by
    intro N2
    induction N2 with
    | zero => intro i z1 hm2 i2_0 i2_1; omega
    | succ N2 ih2 =>
      intro i z1 hm2 i2_0 i2_1
      refine j_iload_n (pc := 2) C 2 2 rfl rfl dL_copy_2 ?_
      refine j_aload_n (pc := 3) C 0 0 rfl rfl dL_copy_3 ?_
      refine j_alenI (pc := 4) C (Or.inr r0) rfl dL_copy_4 ?_
      refine j_icmp_ge (pc := 5) C 20 rfl (by omega) dL_copy_5 (fun h_1p5 => ?_) (fun h_1p5 => ?_)
      · skip
        refine j_ext (g' := f) 0 rfl (fun j hj => i2_1 j hj.1 (by omega)) rfl ?_
        exact Rt _ _ _ _ _ (by decide) (by decide) rfl dL_copy_20
      · skip
        refine j_aload_n (pc := 8) C 1 1 rfl rfl dL_copy_8 ?_
        refine j_iload_n (pc := 9) C 2 2 rfl rfl dL_copy_9 ?_
        refine j_aload_n (pc := 10) C 0 0 rfl rfl dL_copy_10 ?_
        refine j_iload_n (pc := 11) C 2 2 rfl rfl dL_copy_11 ?_
        refine j_iald (pc := 12) C (Or.inr r0) rfl (by omega) (by decide) dL_copy_12 ?_
        refine j_iast (pc := 13) (ws' := [(ta, aI (Y 0) 7 (up z1 i (f i)))]) C 0 rfl rfl (by omega) (by decide) rfl dL_copy_13 ?_
        refine j_iinc (pc := 14) (lc' := [(2, vI (i + 1)), (0, .ref fa), (1, .ref ta)]) C 2 rfl (by decide) rfl dL_copy_14 ?_
        refine j_goto (pc := 17) C 2 rfl dL_copy_17 ?_
        refine j_locals (lc' := [(0, .ref fa), (1, .ref ta), (2, vI (i + 1))]) [1, 2, 0] rfl ?_
        exact ih2 (i + 1) (up z1 i (f i)) (by omega) (by omega) (up_agree i2_1)
  refine j_locals (lc' := [(0, .ref fa), (1, .ref ta), (2, vI 0)]) [1, 2, 0] rfl ?_
  exact hL2 _ 0 z (Nat.lt_succ_self _) (by omega) (fun j h0 h1 => by omega)

set_option maxHeartbeats 4000000 in
set_option maxRecDepth 100000 in
theorem l_copy63 (l : Launch) (D : va_G) (Y : Nat → ClassId) (RO : va_W) (fa : Nat) (ta : Nat) (f : Int → Int) (z : Int → Int) (r0 : (fa, aI (Y 0) 63 f) ∈ RO)  : jMv l yL_copy wsL_copy { frames := 0, cells := 0, slots := 0, locals := 0 } D Y RO [.ref fa, .ref ta] [(ta, aI (Y 0) 63 z)] (fun w1 => w1 = [(ta, aI (Y 0) 63 f)]) := by
  refine j_ofv RL rfl rfl rfl (Nat.le_of_ble_eq_true rfl) (fun X C Rt hI => ?_)
  refine j_iconst (pc := 0) C dL_copy_0 ?_
  refine j_istore_n (pc := 1) (lc' := [(2, vI 0), (0, .ref fa), (1, .ref ta)]) C 2 rfl (by decide) rfl dL_copy_1 ?_
  have hL2 : ∀ (N2 : Nat) (i : Int) (z1 : Int → Int), ((63 - i).toNat) < N2 → (0 ≤ i ∧ i ≤ 63) → (∀ j : Int, 0 ≤ j → j < i → z1 j = f j) → jW X 3 0 0 [(ta, aI (Y 0) 63 z1)] [(0, .ref fa), (1, .ref ta), (2, vI i)] 2 [] := by
    intro N2
    induction N2 with
    | zero => intro i z1 hm2 i2_0 i2_1; omega
    | succ N2 ih2 =>
      intro i z1 hm2 i2_0 i2_1
      refine j_iload_n (pc := 2) C 2 2 rfl rfl dL_copy_2 ?_
      refine j_aload_n (pc := 3) C 0 0 rfl rfl dL_copy_3 ?_
      refine j_alenI (pc := 4) C (Or.inr r0) rfl dL_copy_4 ?_
      refine j_icmp_ge (pc := 5) C 20 rfl (by omega) dL_copy_5 (fun h_1p5 => ?_) (fun h_1p5 => ?_)
      · skip
        refine j_ext (g' := f) 0 rfl (fun j hj => i2_1 j hj.1 (by omega)) rfl ?_
        exact Rt _ _ _ _ _ (by decide) (by decide) rfl dL_copy_20
      · skip
        refine j_aload_n (pc := 8) C 1 1 rfl rfl dL_copy_8 ?_
        refine j_iload_n (pc := 9) C 2 2 rfl rfl dL_copy_9 ?_
        refine j_aload_n (pc := 10) C 0 0 rfl rfl dL_copy_10 ?_
        refine j_iload_n (pc := 11) C 2 2 rfl rfl dL_copy_11 ?_
        refine j_iald (pc := 12) C (Or.inr r0) rfl (by omega) (by decide) dL_copy_12 ?_
        refine j_iast (pc := 13) (ws' := [(ta, aI (Y 0) 63 (up z1 i (f i)))]) C 0 rfl rfl (by omega) (by decide) rfl dL_copy_13 ?_
        refine j_iinc (pc := 14) (lc' := [(2, vI (i + 1)), (0, .ref fa), (1, .ref ta)]) C 2 rfl (by decide) rfl dL_copy_14 ?_
        refine j_goto (pc := 17) C 2 rfl dL_copy_17 ?_
        refine j_locals (lc' := [(0, .ref fa), (1, .ref ta), (2, vI (i + 1))]) [1, 2, 0] rfl ?_
        exact ih2 (i + 1) (up z1 i (f i)) (by omega) (by omega) (up_agree i2_1)
  refine j_locals (lc' := [(0, .ref fa), (1, .ref ta), (2, vI 0)]) [1, 2, 0] rfl ?_
  exact hL2 _ 0 z (Nat.lt_succ_self _) (by omega) (fun j h0 h1 => by omega)

set_option maxHeartbeats 4000000 in
set_option maxRecDepth 100000 in
theorem l_all (l : Launch) (D : va_G) (Y : Nat → ClassId) (RO : va_W) (hh : Nat) (f : Int → Int) (h0 : (hh, aI (Y 0) 7 f) ∈ RO)  : jMi l yL_all wsL_all { frames := 0, cells := 0, slots := 0, locals := 0 } D Y RO [.ref hh] [] (fun e w1 => e = (sumI f 7) ∧ w1 = []) := by
  refine j_ofi RL rfl rfl rfl (Nat.le_of_ble_eq_true rfl) (fun X C Rt => ?_)
  refine j_aload_n (pc := 0) C 0 0 rfl rfl dL_all_0 ?_
  refine j_iconst (pc := 1) C dL_all_1 ?_
  refine j_iald (pc := 2) C (Or.inr h0) rfl (by omega) (by decide) dL_all_2 ?_
  refine j_aload_n (pc := 3) C 0 0 rfl rfl dL_all_3 ?_
  refine j_iconst (pc := 4) C dL_all_4 ?_
  refine j_iald (pc := 5) C (Or.inr h0) rfl (by omega) (by decide) dL_all_5 ?_
  refine j_iadd (pc := 6) C dL_all_6 ?_
  refine j_aload_n (pc := 7) C 0 0 rfl rfl dL_all_7 ?_
  refine j_iconst (pc := 8) C dL_all_8 ?_
  refine j_iald (pc := 9) C (Or.inr h0) rfl (by omega) (by decide) dL_all_9 ?_
  refine j_iadd (pc := 10) C dL_all_10 ?_
  refine j_aload_n (pc := 11) C 0 0 rfl rfl dL_all_11 ?_
  refine j_iconst (pc := 12) C dL_all_12 ?_
  refine j_iald (pc := 13) C (Or.inr h0) rfl (by omega) (by decide) dL_all_13 ?_
  refine j_iadd (pc := 14) C dL_all_14 ?_
  refine j_aload_n (pc := 15) C 0 0 rfl rfl dL_all_15 ?_
  refine j_iconst (pc := 16) C dL_all_16 ?_
  refine j_iald (pc := 17) C (Or.inr h0) rfl (by omega) (by decide) dL_all_17 ?_
  refine j_iadd (pc := 18) C dL_all_18 ?_
  refine j_aload_n (pc := 19) C 0 0 rfl rfl dL_all_19 ?_
  refine j_iconst (pc := 20) C dL_all_20 ?_
  refine j_iald (pc := 21) C (Or.inr h0) rfl (by omega) (by decide) dL_all_21 ?_
  refine j_iadd (pc := 22) C dL_all_22 ?_
  refine j_aload_n (pc := 23) C 0 0 rfl rfl dL_all_23 ?_
  refine j_bipush (pc := 24) (w := 6) C rfl dL_all_24 ?_
  refine j_iald (pc := 26) C (Or.inr h0) rfl (by omega) (by decide) dL_all_26 ?_
  refine j_iadd (pc := 27) C dL_all_27 ?_
  exact Rt _ _ _ _ _ _ (by decide) (by decide) ⟨(sum7 f).symm, rfl⟩ dL_all_28

set_option maxHeartbeats 4000000 in
set_option maxRecDepth 100000 in
theorem l_put (l : Launch) (D : va_G) (Y : Nat → ClassId) (RO : va_W) (k : Nat → Nat) (np : Int) (nc : Int) (pl : Int) (S : MS) (pg : Int → Int) (cs : Int → CT) (ps : Int → PT) (W : va_W) (c : Int)  (hWK : KWs Y k np nc pl S pg cs ps W) (hc : 1 ≤ c ∧ c ≤ 126) (hpl : 0 ≤ pl ∧ pl < 16) : jMi l yL_put wsL_put { frames := 3, cells := 0, slots := 0, locals := 69 } D Y RO [.ref (k 0), vI c] ([] ++ W) (fun e w1 => e = 1 ∧ KWs Y k np nc (pl + 1) S (up pg pl c) cs ps w1) := by
  refine j_ofz RL rfl rfl rfl (Nat.le_of_ble_eq_true rfl) (fun X C Rt => ?_)
  refine j_aload_n (pc := 0) C 0 0 rfl rfl dL_put_0 ?_
  refine j_iload_n (pc := 1) C 1 1 rfl rfl dL_put_1 ?_
  refine j_i2l (pc := 2) C (by omega) dL_put_2 ?_
  refine tc_letters (pc := 3) (st := []) C hWK  gL_put_X9_letters (by decide) rfl (by decide) dL_put_3 (fun W_1 hW_2 => ?_)
  have q1 := let_one (pg := pg) hc hpl
  rw [q1.2.1, q1.2.2] at hW_2
  refine j_st (st' := [vI (pl + 1)]) rfl rfl (congrArg (fun z => vI z :: []) (show (rLetters c pl) = (pl + 1) from q1.1)) ?_
  refine j_if_le (pc := 6) C 13 rfl (by omega) dL_put_6 (fun h_3p6 => ?_) (fun h_3p6 => ?_)
  · skip
    exfalso; omega
  · skip
    refine j_iconst (pc := 9) C dL_put_9 ?_
    refine j_goto (pc := 10) C 14 rfl dL_put_10 ?_
    exact Rt _ _ _ _ _ _ (by decide) (by decide) (by decide) ⟨rfl, hW_2⟩ dL_put_14
