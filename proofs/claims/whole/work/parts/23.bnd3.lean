theorem fX8_addWalker_X8 : ∀ w ∈ u_ws RX8 TX8 2, w ∈ wsX8_addWalker := j_words [70, 71] (by decide +kernel)
set_option maxHeartbeats 4000000 in
set_option maxRecDepth 100000 in
theorem c_addWalker (l : Launch) (D : va_G) (Y : Nat → ClassId) (RO : va_W) (h : Nat) (x : Nat) (y : Nat) (g : Int → Int) (g2 : Int → Int) (a : Nat) (P : PT) (m : Int) (sc : Int) (hp : pC a P ∈ RO) (hP : okP P) (hm : m = 0 ∨ m = 1) (hsc : sc = 1 ∨ sc = -1) (hg : ∀ j, 0 ≤ j ∧ j < 271 → g j = 1000 ∨ (-500 ≤ g j ∧ g j ≤ 500)) : jMv l yX8_addWalker wsX8_addWalker { frames := 1, cells := 0, slots := 0, locals := 23 } D Y RO [.ref h, .ref a, vI m, vI sc] [(h, oC 7 [.ref x, .ref y]), (x, aI (Y 0) 271 g), (y, aI (Y 0) 271 g2)] (fun w1 => w1 = [(h, oC 7 [.ref y, .ref x]), (x, aI (Y 0) 271 g), (y, aI (Y 0) 271 (fo (stepF P m sc g) 271 (fun _ => 1000)))]) := by
  refine j_ofv RX8 rfl rfl rfl (Nat.le_of_ble_eq_true rfl) (fun X C Rt hI => ?_)
  have hPa := hP.1
  have hPb := hP.2.2.2.2.1
  have hPc := hP.2.2.2.2.2.1
  have hPd := hP.2.2.2.2.2.2
  have hgi := giftP_in hP
  have hlo := lossP_in P
  refine j_aload_n (pc := 0) C 0 0 rfl rfl dX8_addWalker_0 ?_
  refine j_get (pc := 1) C (Or.inl (List.mem_of_getElem? (i := 0) rfl)) rfl fX8_addWalker_X8 1 (by decide) (List.mem_of_getElem? (i := 1) rfl) (Or.inl rfl) rfl dX8_addWalker_1 ?_
  refine j_sipush (pc := 4) (w := 1000) C rfl dX8_addWalker_4 ?_
  refine j_callSv (pc := 7) (As := [.ref y, vI 1000]) (na := 2) (st := []) C [2] [0, 1] (wr := [(h, oC 7 [.ref x, .ref y]), (x, aI (Y 0) 271 g)]) (fun l => j_fill l D Y _ y g2 1000 ) rfl rfl rfl rfl (by decide) rfl gX8_addWalker_J7_fill_53178 (by decide +kernel) (by decide) rfl rfl (Nat.le_of_ble_eq_true rfl) (by decide) dX8_addWalker_7 (fun w_2 h_3 => ?_)
  subst h_3
  refine j_perm (ws' := [(h, oC 7 [.ref x, .ref y]), (x, aI (Y 0) 271 g), (y, aI (Y 0) 271 (fun _ => 1000))]) [0, 1, 2] rfl rfl ?_
  have kj : ∀ sn : Int, ((sn = 1 ∧ (m = 1 ∧ pi P < 10 ∧ 0 < pz P)) ∨ (sn = 0 ∧ ¬ (m = 1 ∧ pi P < 10 ∧ 0 < pz P))) → jW X 7 0 0 [(h, oC 7 [.ref x, .ref y]), (x, aI (Y 0) 271 g), (y, aI (Y 0) 271 (fun _ => 1000))] [(4, vI sn), (0, .ref h), (1, .ref a), (2, vI m), (3, vI sc)] 28 [] := by
    intro sn hsn
    refine j_iconst (pc := 28) C dX8_addWalker_28 ?_
    refine j_istore (pc := 29) (lc' := [(5, vI 0), (4, vI sn), (0, .ref h), (1, .ref a), (2, vI m), (3, vI sc)]) C (by decide) rfl dX8_addWalker_29 ?_
    have hL31 : ∀ (N31 : Nat) (i : Int) (z : Int → Int), ((271 - i).toNat) < N31 → (0 ≤ i ∧ i ≤ 271) → (z = fo (stepF P m sc g) i (fun _ => 1000)) → (∀ j, -501 ≤ z j ∧ z j ≤ 1000) → jW X 7 0 0 [(h, oC 7 [.ref x, .ref y]), (x, aI (Y 0) 271 g), (y, aI (Y 0) 271 z)] [(0, .ref h), (1, .ref a), (2, vI m), (3, vI sc), (4, vI sn), (5, vI i)] 31 [] := by
      intro N31
      induction N31 with
      | zero => intro i z hm31 i31_0 i31_1 i31_2; omega
      | succ N31 ih31 =>
        intro i z hm31 i31_0 i31_1 i31_2
        refine j_iload (pc := 31) C 5 rfl dX8_addWalker_31 ?_
        refine j_sipush (pc := 33) (w := 271) C rfl dX8_addWalker_33 ?_
        refine j_icmp_ge (pc := 36) C 120 rfl (by omega) dX8_addWalker_36 (fun h_4p36 => ?_) (fun h_4p36 => ?_)
        · skip
          refine j_aload_n (pc := 120) C 0 0 rfl rfl dX8_addWalker_120 ?_
          refine j_get (pc := 121) C (Or.inl (List.mem_of_getElem? (i := 0) rfl)) rfl fX8_addWalker_X8 0 (by decide) (List.mem_of_getElem? (i := 2) rfl) (Or.inl rfl) rfl dX8_addWalker_121 ?_
          refine j_astore (pc := 124) (lc' := [(5, .ref x), (0, .ref h), (1, .ref a), (2, vI m), (3, vI sc), (4, vI sn)]) C (by decide) rfl dX8_addWalker_124 ?_
          refine j_aload_n (pc := 126) C 0 1 rfl rfl dX8_addWalker_126 ?_
          refine j_aload_n (pc := 127) C 0 1 rfl rfl dX8_addWalker_127 ?_
          refine j_get (pc := 128) C (Or.inl (List.mem_of_getElem? (i := 0) rfl)) rfl fX8_addWalker_X8 1 (by decide) (List.mem_of_getElem? (i := 1) rfl) (Or.inl rfl) rfl dX8_addWalker_128 ?_
          refine j_put (pc := 131) (ws' := [(h, oC 7 [.ref y, .ref y]), (x, aI (Y 0) 271 g), (y, aI (Y 0) 271 z)]) C 0 rfl rfl fX8_addWalker_X8 tyX8_ok nmX8 0 (by decide) (List.mem_of_getElem? (i := 2) rfl) (Or.inl rfl) rfl rfl rfl rfl (Nat.le_of_ble_eq_true rfl) rfl dX8_addWalker_131 ?_
          refine j_aload_n (pc := 134) C 0 1 rfl rfl dX8_addWalker_134 ?_
          refine j_aload (pc := 135) C 0 rfl dX8_addWalker_135 ?_
          refine j_put (pc := 137) (ws' := [(h, oC 7 [.ref y, .ref x]), (x, aI (Y 0) 271 g), (y, aI (Y 0) 271 z)]) C 0 rfl rfl fX8_addWalker_X8 tyX8_ok nmX8 1 (by decide) (List.mem_of_getElem? (i := 1) rfl) (Or.inl rfl) rfl rfl rfl rfl (Nat.le_of_ble_eq_true rfl) rfl dX8_addWalker_137 ?_
          exact Rt _ _ _ _ _ (by decide) (by decide) (by rw [i31_1, show i = 271 by omega]) dX8_addWalker_140
        · skip
          refine j_aload_n (pc := 39) C 0 0 rfl rfl dX8_addWalker_39 ?_
          refine j_get (pc := 40) C (Or.inl (List.mem_of_getElem? (i := 0) rfl)) rfl fX8_addWalker_X8 0 (by decide) (List.mem_of_getElem? (i := 2) rfl) (Or.inl rfl) rfl dX8_addWalker_40 ?_
          refine j_iload (pc := 43) C 5 rfl dX8_addWalker_43 ?_
          refine j_iald (pc := 45) C (Or.inl (List.mem_of_getElem? (i := 1) rfl)) rfl (by omega) (by decide) dX8_addWalker_45 ?_
          have f_5 := hg i (by omega)
          refine j_istore (pc := 46) (lc' := [(6, vI (g i)), (0, .ref h), (1, .ref a), (2, vI m), (3, vI sc), (4, vI sn), (5, vI i)]) C (by decide) rfl dX8_addWalker_46 ?_
          refine j_iload (pc := 48) C 0 rfl dX8_addWalker_48 ?_
          refine j_sipush (pc := 50) (w := 1000) C rfl dX8_addWalker_50 ?_
          refine j_icmp_ne (pc := 53) C 59 rfl (by omega) dX8_addWalker_53 (fun h_6p53 => ?_) (fun h_6p53 => ?_)
          · skip
            refine j_aload_n (pc := 59) C 1 2 rfl rfl dX8_addWalker_59 ?_
            have kk_7 : jW X 7 0 0 [(h, oC 7 [.ref x, .ref y]), (x, aI (Y 0) 271 g), (y, aI (Y 0) 271 z)] [(6, vI (g i)), (0, .ref h), (1, .ref a), (2, vI m), (3, vI sc), (4, vI sn), (5, vI i)] 63 [vI (if 0 < pi P then 1 else 0)] := by
              refine j_if_eqb (pc := 63) C 79 rfl dX8_addWalker_63 (fun h_8p63 => ?_) (fun h_8p63 => ?_)
              · skip
                refine j_iload (pc := 79) C 5 rfl dX8_addWalker_79 ?_
                refine j_if_eq (pc := 81) C 99 rfl (by omega) dX8_addWalker_81 (fun h_9p81 => ?_) (fun h_9p81 => ?_)
                · skip
                  refine j_aload_n (pc := 99) C 1 2 rfl rfl dX8_addWalker_99 ?_
                  have kk_10 : jW X 7 0 0 [(h, oC 7 [.ref x, .ref y]), (x, aI (Y 0) 271 g), (y, aI (Y 0) 271 z)] [(6, vI (g i)), (0, .ref h), (1, .ref a), (2, vI m), (3, vI sc), (4, vI sn), (5, vI i)] 103 [vI (if pi P < 10 ∧ pz P < 10 then 1 else 0)] := by
                    refine j_if_eqb (pc := 103) C 114 rfl dX8_addWalker_103 (fun h_11p103 => ?_) (fun h_11p103 => ?_)
                    · skip
                      refine j_iinc (pc := 114) (lc' := [(5, vI (i + 1)), (6, vI (g i)), (0, .ref h), (1, .ref a), (2, vI m), (3, vI sc), (4, vI sn)]) C 6 rfl (by decide) rfl dX8_addWalker_114 ?_
                      refine j_goto (pc := 117) C 31 rfl dX8_addWalker_117 ?_
                      refine j_locals (lc' := [(0, .ref h), (1, .ref a), (2, vI m), (3, vI sc), (4, vI sn), (5, vI (i + 1))]) [2, 3, 4, 5, 6, 0] rfl ?_
                      exact ih31 (i + 1) z (by omega) (by omega) (by rw [fo_succ _ (by omega), ← i31_1]; unfold stepF; first | (rw [if_pos (by omega)]; done) | (rw [if_neg (by omega)]; (first | rw [st1_y (by omega)] | rw [st1_n (by omega)]); (first | rw [st2_y (by omega)] | rw [st2_n (by omega)]); (first | rw [st3_y (by omega)] | rw [st3_n (by omega)]))) (by first | exact i31_2 | exact offF_rng i31_2 (by omega) | exact offF_rng (offF_rng i31_2 (by omega)) (by omega) | exact offF_rng (offF_rng (offF_rng i31_2 (by omega)) (by omega)) (by omega))
                    · skip
                      refine j_aload_n (pc := 106) C 0 1 rfl rfl dX8_addWalker_106 ?_
                      refine j_iload (pc := 107) C 6 rfl dX8_addWalker_107 ?_
                      refine j_iload (pc := 109) C 0 rfl dX8_addWalker_109 ?_
                      refine j_callVv (pc := 111) (As := [vI i, vI (g i)]) (na := 2) (st := []) C [2] [0, 1] (wr := [(h, oC 7 [.ref x, .ref y]), (x, aI (Y 0) 271 g)]) (fun l => c_offer l D Y _ h x y z i (g i) (List.mem_append_left _ (List.mem_of_getElem? (i := 0) rfl)) (by first | assumption | omega) (by first | assumption | omega) (by first | exact i31_2 | exact offF_rng i31_2 (by omega) | exact offF_rng (offF_rng i31_2 (by omega)) (by omega) | exact offF_rng (offF_rng (offF_rng i31_2 (by omega)) (by omega)) (by omega))) rfl rfl rfl rfl (by decide) rfl (Or.inr (List.mem_append_left _ (List.mem_of_getElem? (i := 0) rfl))) rfl gX8_addWalker_X8_offer ⟨rfl, by decide +kernel⟩ (by decide) rfl rfl (Nat.le_of_ble_eq_true rfl) (by decide) dX8_addWalker_111 (fun w_13 h_14 => ?_)
                      subst h_14
                      refine j_perm (ws' := [(h, oC 7 [.ref x, .ref y]), (x, aI (Y 0) 271 g), (y, aI (Y 0) 271 (offF i (g i) z))]) [0, 1, 2] rfl rfl ?_
                      refine j_iinc (pc := 114) (lc' := [(5, vI (i + 1)), (6, vI (g i)), (0, .ref h), (1, .ref a), (2, vI m), (3, vI sc), (4, vI sn)]) C 6 rfl (by decide) rfl dX8_addWalker_114 ?_
                      refine j_goto (pc := 117) C 31 rfl dX8_addWalker_117 ?_
                      refine j_locals (lc' := [(0, .ref h), (1, .ref a), (2, vI m), (3, vI sc), (4, vI sn), (5, vI (i + 1))]) [2, 3, 4, 5, 6, 0] rfl ?_
                      exact ih31 (i + 1) (offF i (g i) z) (by omega) (by omega) (by rw [fo_succ _ (by omega), ← i31_1]; unfold stepF; first | (rw [if_pos (by omega)]; done) | (rw [if_neg (by omega)]; (first | rw [st1_y (by omega)] | rw [st1_n (by omega)]); (first | rw [st2_y (by omega)] | rw [st2_n (by omega)]); (first | rw [st3_y (by omega)] | rw [st3_n (by omega)]))) (by first | exact i31_2 | exact offF_rng i31_2 (by omega) | exact offF_rng (offF_rng i31_2 (by omega)) (by omega) | exact offF_rng (offF_rng (offF_rng i31_2 (by omega)) (by omega)) (by omega))
                  rcases (show pk P = 0 ∨ pk P = 1 ∨ pk P = 2 ∨ pk P = 3 by have := hP.1; omega) with h_15 | h_15 | h_15 | h_15
                  · have hpm := hp
                    rw [pC_0 h_15] at hpm
                    refine j_callVi (pc := 100) (As := []) (na := 0) (st := []) C [] [0, 1, 2] (wr := [(h, oC 7 [.ref x, .ref y]), (x, aI (Y 0) 271 g), (y, aI (Y 0) 271 z)]) (fun l => c_canRest l D Y _ a P (List.mem_append_right _ hp) hP) rfl rfl rfl rfl (by decide) rfl (Or.inr (List.mem_append_right _ hpm)) rfl gX8_addWalker_X5_canRest ⟨rfl, by decide +kernel⟩ (by decide) rfl rfl (Nat.le_of_ble_eq_true rfl) (by decide) dX8_addWalker_100 (fun e w1 hq => ?_)
                    obtain ⟨rfl, rfl⟩ := hq
                    refine j_perm (ws' := [(h, oC 7 [.ref x, .ref y]), (x, aI (Y 0) 271 g), (y, aI (Y 0) 271 z)]) [0, 1, 2] rfl rfl ?_
                    exact j_st rfl rfl (by rfl) kk_10
                  · have hpm := hp
                    rw [pC_1 h_15] at hpm
                    refine j_callUi (pc := 100) (As := []) (na := 0) (st := []) C [] [0, 1, 2] (wr := [(h, oC 7 [.ref x, .ref y]), (x, aI (Y 0) 271 g), (y, aI (Y 0) 271 z)]) (fun l => c_canRest l D Y _ a P (List.mem_append_right _ hp) hP) rfl rfl rfl rfl (by decide) rfl (Or.inr (List.mem_append_right _ hpm)) rfl gX8_addWalker_X5_canRest_u74X6 rfl (by decide +kernel) (by decide) rfl rfl (Nat.le_of_ble_eq_true rfl) (by decide) dX8_addWalker_100 (fun e w1 hq => ?_)
                    obtain ⟨rfl, rfl⟩ := hq
                    refine j_perm (ws' := [(h, oC 7 [.ref x, .ref y]), (x, aI (Y 0) 271 g), (y, aI (Y 0) 271 z)]) [0, 1, 2] rfl rfl ?_
                    exact j_st rfl rfl (by rfl) kk_10
                  · have hpm := hp
                    rw [pC_2 h_15] at hpm
                    refine j_callUi (pc := 100) (As := []) (na := 0) (st := []) C [] [0, 1, 2] (wr := [(h, oC 7 [.ref x, .ref y]), (x, aI (Y 0) 271 g), (y, aI (Y 0) 271 z)]) (fun l => c_canRest l D Y _ a P (List.mem_append_right _ hp) hP) rfl rfl rfl rfl (by decide) rfl (Or.inr (List.mem_append_right _ hpm)) rfl gX8_addWalker_X5_canRest_u74X7 rfl (by decide +kernel) (by decide) rfl rfl (Nat.le_of_ble_eq_true rfl) (by decide) dX8_addWalker_100 (fun e w1 hq => ?_)
                    obtain ⟨rfl, rfl⟩ := hq
                    refine j_perm (ws' := [(h, oC 7 [.ref x, .ref y]), (x, aI (Y 0) 271 g), (y, aI (Y 0) 271 z)]) [0, 1, 2] rfl rfl ?_
                    exact j_st rfl rfl (by rfl) kk_10
                  · have hpm := hp
                    rw [pC_3 h_15] at hpm
                    refine j_callUi (pc := 100) (As := []) (na := 0) (st := []) C [] [0, 1, 2] (wr := [(h, oC 7 [.ref x, .ref y]), (x, aI (Y 0) 271 g), (y, aI (Y 0) 271 z)]) (fun l => c_canRest l D Y _ a P (List.mem_append_right _ hp) hP) rfl rfl rfl rfl (by decide) rfl (Or.inr (List.mem_append_right _ hpm)) rfl gX8_addWalker_X5_canRest_u74X0 rfl (by decide +kernel) (by decide) rfl rfl (Nat.le_of_ble_eq_true rfl) (by decide) dX8_addWalker_100 (fun e w1 hq => ?_)
                    obtain ⟨rfl, rfl⟩ := hq
                    refine j_perm (ws' := [(h, oC 7 [.ref x, .ref y]), (x, aI (Y 0) 271 g), (y, aI (Y 0) 271 z)]) [0, 1, 2] rfl rfl ?_
                    exact j_st rfl rfl (by rfl) kk_10
                · skip
                  refine j_aload_n (pc := 84) C 0 1 rfl rfl dX8_addWalker_84 ?_
                  refine j_iload (pc := 85) C 6 rfl dX8_addWalker_85 ?_
                  refine j_aload_n (pc := 87) C 1 2 rfl rfl dX8_addWalker_87 ?_
                  have kk_16 : jW X 7 0 0 [(h, oC 7 [.ref x, .ref y]), (x, aI (Y 0) 271 g), (y, aI (Y 0) 271 z)] [(6, vI (g i)), (0, .ref h), (1, .ref a), (2, vI m), (3, vI sc), (4, vI sn), (5, vI i)] 91 [vI (lossP P), vI i, .ref h] := by
                    refine j_isub (pc := 91) C dX8_addWalker_91 ?_
                    refine j_iload (pc := 92) C 0 rfl dX8_addWalker_92 ?_
                    refine j_iload_n (pc := 94) C 3 4 rfl rfl dX8_addWalker_94 ?_
                    refine j_iadd (pc := 95) C dX8_addWalker_95 ?_
                    refine j_callVv (pc := 96) (As := [vI (i - lossP P), vI (g i + sc)]) (na := 2) (st := []) C [2] [0, 1] (wr := [(h, oC 7 [.ref x, .ref y]), (x, aI (Y 0) 271 g)]) (fun l => c_offer l D Y _ h x y z (i - lossP P) (g i + sc) (List.mem_append_left _ (List.mem_of_getElem? (i := 0) rfl)) (by first | assumption | omega) (by first | assumption | omega) (by first | exact i31_2 | exact offF_rng i31_2 (by omega) | exact offF_rng (offF_rng i31_2 (by omega)) (by omega) | exact offF_rng (offF_rng (offF_rng i31_2 (by omega)) (by omega)) (by omega))) rfl rfl rfl rfl (by decide) rfl (Or.inr (List.mem_append_left _ (List.mem_of_getElem? (i := 0) rfl))) rfl gX8_addWalker_X8_offer ⟨rfl, by decide +kernel⟩ (by decide) rfl rfl (Nat.le_of_ble_eq_true rfl) (by decide) dX8_addWalker_96 (fun w_18 h_19 => ?_)
                    subst h_19
                    refine j_perm (ws' := [(h, oC 7 [.ref x, .ref y]), (x, aI (Y 0) 271 g), (y, aI (Y 0) 271 (offF (i - lossP P) (g i + sc) z))]) [0, 1, 2] rfl rfl ?_
                    refine j_aload_n (pc := 99) C 1 2 rfl rfl dX8_addWalker_99 ?_
                    have kk_20 : jW X 7 0 0 [(h, oC 7 [.ref x, .ref y]), (x, aI (Y 0) 271 g), (y, aI (Y 0) 271 (offF (i - lossP P) (g i + sc) z))] [(6, vI (g i)), (0, .ref h), (1, .ref a), (2, vI m), (3, vI sc), (4, vI sn), (5, vI i)] 103 [vI (if pi P < 10 ∧ pz P < 10 then 1 else 0)] := by
                      refine j_if_eqb (pc := 103) C 114 rfl dX8_addWalker_103 (fun h_21p103 => ?_) (fun h_21p103 => ?_)
                      · skip
                        refine j_iinc (pc := 114) (lc' := [(5, vI (i + 1)), (6, vI (g i)), (0, .ref h), (1, .ref a), (2, vI m), (3, vI sc), (4, vI sn)]) C 6 rfl (by decide) rfl dX8_addWalker_114 ?_
                        refine j_goto (pc := 117) C 31 rfl dX8_addWalker_117 ?_
                        refine j_locals (lc' := [(0, .ref h), (1, .ref a), (2, vI m), (3, vI sc), (4, vI sn), (5, vI (i + 1))]) [2, 3, 4, 5, 6, 0] rfl ?_
                        exact ih31 (i + 1) (offF (i - lossP P) (g i + sc) z) (by omega) (by omega) (by rw [fo_succ _ (by omega), ← i31_1]; unfold stepF; first | (rw [if_pos (by omega)]; done) | (rw [if_neg (by omega)]; (first | rw [st1_y (by omega)] | rw [st1_n (by omega)]); (first | rw [st2_y (by omega)] | rw [st2_n (by omega)]); (first | rw [st3_y (by omega)] | rw [st3_n (by omega)]))) (by first | exact i31_2 | exact offF_rng i31_2 (by omega) | exact offF_rng (offF_rng i31_2 (by omega)) (by omega) | exact offF_rng (offF_rng (offF_rng i31_2 (by omega)) (by omega)) (by omega))
                      · skip
                        refine j_aload_n (pc := 106) C 0 1 rfl rfl dX8_addWalker_106 ?_
                        refine j_iload (pc := 107) C 6 rfl dX8_addWalker_107 ?_
                        refine j_iload (pc := 109) C 0 rfl dX8_addWalker_109 ?_
                        refine j_callVv (pc := 111) (As := [vI i, vI (g i)]) (na := 2) (st := []) C [2] [0, 1] (wr := [(h, oC 7 [.ref x, .ref y]), (x, aI (Y 0) 271 g)]) (fun l => c_offer l D Y _ h x y (offF (i - lossP P) (g i + sc) z) i (g i) (List.mem_append_left _ (List.mem_of_getElem? (i := 0) rfl)) (by first | assumption | omega) (by first | assumption | omega) (by first | exact i31_2 | exact offF_rng i31_2 (by omega) | exact offF_rng (offF_rng i31_2 (by omega)) (by omega) | exact offF_rng (offF_rng (offF_rng i31_2 (by omega)) (by omega)) (by omega))) rfl rfl rfl rfl (by decide) rfl (Or.inr (List.mem_append_left _ (List.mem_of_getElem? (i := 0) rfl))) rfl gX8_addWalker_X8_offer ⟨rfl, by decide +kernel⟩ (by decide) rfl rfl (Nat.le_of_ble_eq_true rfl) (by decide) dX8_addWalker_111 (fun w_23 h_24 => ?_)
                        subst h_24
                        refine j_perm (ws' := [(h, oC 7 [.ref x, .ref y]), (x, aI (Y 0) 271 g), (y, aI (Y 0) 271 (offF i (g i) (offF (i - lossP P) (g i + sc) z)))]) [0, 1, 2] rfl rfl ?_
                        refine j_iinc (pc := 114) (lc' := [(5, vI (i + 1)), (6, vI (g i)), (0, .ref h), (1, .ref a), (2, vI m), (3, vI sc), (4, vI sn)]) C 6 rfl (by decide) rfl dX8_addWalker_114 ?_
                        refine j_goto (pc := 117) C 31 rfl dX8_addWalker_117 ?_
                        refine j_locals (lc' := [(0, .ref h), (1, .ref a), (2, vI m), (3, vI sc), (4, vI sn), (5, vI (i + 1))]) [2, 3, 4, 5, 6, 0] rfl ?_
                        exact ih31 (i + 1) (offF i (g i) (offF (i - lossP P) (g i + sc) z)) (by omega) (by omega) (by rw [fo_succ _ (by omega), ← i31_1]; unfold stepF; first | (rw [if_pos (by omega)]; done) | (rw [if_neg (by omega)]; (first | rw [st1_y (by omega)] | rw [st1_n (by omega)]); (first | rw [st2_y (by omega)] | rw [st2_n (by omega)]); (first | rw [st3_y (by omega)] | rw [st3_n (by omega)]))) (by first | exact i31_2 | exact offF_rng i31_2 (by omega) | exact offF_rng (offF_rng i31_2 (by omega)) (by omega) | exact offF_rng (offF_rng (offF_rng i31_2 (by omega)) (by omega)) (by omega))
                    rcases (show pk P = 0 ∨ pk P = 1 ∨ pk P = 2 ∨ pk P = 3 by have := hP.1; omega) with h_25 | h_25 | h_25 | h_25
                    · have hpm := hp
                      rw [pC_0 h_25] at hpm
                      refine j_callVi (pc := 100) (As := []) (na := 0) (st := []) C [] [0, 1, 2] (wr := [(h, oC 7 [.ref x, .ref y]), (x, aI (Y 0) 271 g), (y, aI (Y 0) 271 (offF (i - lossP P) (g i + sc) z))]) (fun l => c_canRest l D Y _ a P (List.mem_append_right _ hp) hP) rfl rfl rfl rfl (by decide) rfl (Or.inr (List.mem_append_right _ hpm)) rfl gX8_addWalker_X5_canRest ⟨rfl, by decide +kernel⟩ (by decide) rfl rfl (Nat.le_of_ble_eq_true rfl) (by decide) dX8_addWalker_100 (fun e w1 hq => ?_)
                      obtain ⟨rfl, rfl⟩ := hq
                      refine j_perm (ws' := [(h, oC 7 [.ref x, .ref y]), (x, aI (Y 0) 271 g), (y, aI (Y 0) 271 (offF (i - lossP P) (g i + sc) z))]) [0, 1, 2] rfl rfl ?_
                      exact j_st rfl rfl (by rfl) kk_20
                    · have hpm := hp
                      rw [pC_1 h_25] at hpm
                      refine j_callUi (pc := 100) (As := []) (na := 0) (st := []) C [] [0, 1, 2] (wr := [(h, oC 7 [.ref x, .ref y]), (x, aI (Y 0) 271 g), (y, aI (Y 0) 271 (offF (i - lossP P) (g i + sc) z))]) (fun l => c_canRest l D Y _ a P (List.mem_append_right _ hp) hP) rfl rfl rfl rfl (by decide) rfl (Or.inr (List.mem_append_right _ hpm)) rfl gX8_addWalker_X5_canRest_u74X6 rfl (by decide +kernel) (by decide) rfl rfl (Nat.le_of_ble_eq_true rfl) (by decide) dX8_addWalker_100 (fun e w1 hq => ?_)
                      obtain ⟨rfl, rfl⟩ := hq
                      refine j_perm (ws' := [(h, oC 7 [.ref x, .ref y]), (x, aI (Y 0) 271 g), (y, aI (Y 0) 271 (offF (i - lossP P) (g i + sc) z))]) [0, 1, 2] rfl rfl ?_
                      exact j_st rfl rfl (by rfl) kk_20
                    · have hpm := hp
                      rw [pC_2 h_25] at hpm
                      refine j_callUi (pc := 100) (As := []) (na := 0) (st := []) C [] [0, 1, 2] (wr := [(h, oC 7 [.ref x, .ref y]), (x, aI (Y 0) 271 g), (y, aI (Y 0) 271 (offF (i - lossP P) (g i + sc) z))]) (fun l => c_canRest l D Y _ a P (List.mem_append_right _ hp) hP) rfl rfl rfl rfl (by decide) rfl (Or.inr (List.mem_append_right _ hpm)) rfl gX8_addWalker_X5_canRest_u74X7 rfl (by decide +kernel) (by decide) rfl rfl (Nat.le_of_ble_eq_true rfl) (by decide) dX8_addWalker_100 (fun e w1 hq => ?_)
                      obtain ⟨rfl, rfl⟩ := hq
                      refine j_perm (ws' := [(h, oC 7 [.ref x, .ref y]), (x, aI (Y 0) 271 g), (y, aI (Y 0) 271 (offF (i - lossP P) (g i + sc) z))]) [0, 1, 2] rfl rfl ?_
                      exact j_st rfl rfl (by rfl) kk_20
                    · have hpm := hp
                      rw [pC_3 h_25] at hpm
                      refine j_callUi (pc := 100) (As := []) (na := 0) (st := []) C [] [0, 1, 2] (wr := [(h, oC 7 [.ref x, .ref y]), (x, aI (Y 0) 271 g), (y, aI (Y 0) 271 (offF (i - lossP P) (g i + sc) z))]) (fun l => c_canRest l D Y _ a P (List.mem_append_right _ hp) hP) rfl rfl rfl rfl (by decide) rfl (Or.inr (List.mem_append_right _ hpm)) rfl gX8_addWalker_X5_canRest_u74X0 rfl (by decide +kernel) (by decide) rfl rfl (Nat.le_of_ble_eq_true rfl) (by decide) dX8_addWalker_100 (fun e w1 hq => ?_)
                      obtain ⟨rfl, rfl⟩ := hq
                      refine j_perm (ws' := [(h, oC 7 [.ref x, .ref y]), (x, aI (Y 0) 271 g), (y, aI (Y 0) 271 (offF (i - lossP P) (g i + sc) z))]) [0, 1, 2] rfl rfl ?_
                      exact j_st rfl rfl (by rfl) kk_20
                  rcases (show pk P = 0 ∨ pk P = 1 ∨ pk P = 2 ∨ pk P = 3 by have := hP.1; omega) with h_26 | h_26 | h_26 | h_26
                  · have hpm := hp
                    rw [pC_0 h_26] at hpm
                    refine j_callVi (pc := 88) (As := []) (na := 0) (st := [vI i, .ref h]) C [] [0, 1, 2] (wr := [(h, oC 7 [.ref x, .ref y]), (x, aI (Y 0) 271 g), (y, aI (Y 0) 271 z)]) (fun l => c_X5_loss l D Y _ a  ) rfl rfl rfl rfl (by decide) rfl (Or.inr (List.mem_append_right _ hpm)) rfl gX8_addWalker_X5_loss ⟨rfl, by decide +kernel⟩ (by decide) rfl rfl (Nat.le_of_ble_eq_true rfl) (by decide) dX8_addWalker_88 (fun e w1 hq => ?_)
                    obtain ⟨rfl, rfl⟩ := hq
                    refine j_perm (ws' := [(h, oC 7 [.ref x, .ref y]), (x, aI (Y 0) 271 g), (y, aI (Y 0) 271 z)]) [0, 1, 2] rfl rfl ?_
                    exact j_st rfl rfl (by unfold lossP; simp [h_26]) kk_16
                  · have hpm := hp
                    rw [pC_1 h_26] at hpm
                    refine j_callUi (pc := 88) (As := []) (na := 0) (st := [vI i, .ref h]) C [] [0, 1, 2] (wr := [(h, oC 7 [.ref x, .ref y]), (x, aI (Y 0) 271 g), (y, aI (Y 0) 271 z)]) (fun l => c_X5_loss l D Y _ a  ) rfl rfl rfl rfl (by decide) rfl (Or.inr (List.mem_append_right _ hpm)) rfl gX8_addWalker_X5_loss_u54X6 rfl (by decide +kernel) (by decide) rfl rfl (Nat.le_of_ble_eq_true rfl) (by decide) dX8_addWalker_88 (fun e w1 hq => ?_)
                    obtain ⟨rfl, rfl⟩ := hq
                    refine j_perm (ws' := [(h, oC 7 [.ref x, .ref y]), (x, aI (Y 0) 271 g), (y, aI (Y 0) 271 z)]) [0, 1, 2] rfl rfl ?_
                    exact j_st rfl rfl (by unfold lossP; simp [h_26]) kk_16
                  · have hpm := hp
                    rw [pC_2 h_26] at hpm
                    refine j_callOi (pc := 88) (As := []) (na := 0) (st := [vI i, .ref h]) C [] [0, 1, 2] (wr := [(h, oC 7 [.ref x, .ref y]), (x, aI (Y 0) 271 g), (y, aI (Y 0) 271 z)]) (fun l => c_X7_loss l D Y _ a  ) rfl rfl rfl rfl (by decide) rfl (Or.inr (List.mem_append_right _ hpm)) rfl gX8_addWalker_X7_loss_u54X7 (List.mem_of_getElem? (i := 55) rfl) (by decide +kernel) (by decide) rfl rfl (Nat.le_of_ble_eq_true rfl) (by decide) dX8_addWalker_88 (fun e w1 hq => ?_)
                    obtain ⟨rfl, rfl⟩ := hq
                    refine j_perm (ws' := [(h, oC 7 [.ref x, .ref y]), (x, aI (Y 0) 271 g), (y, aI (Y 0) 271 z)]) [0, 1, 2] rfl rfl ?_
                    exact j_st rfl rfl (by unfold lossP; simp [h_26]) kk_16
                  · have hpm := hp
                    rw [pC_3 h_26] at hpm
                    refine j_callOi (pc := 88) (As := []) (na := 0) (st := [vI i, .ref h]) C [] [0, 1, 2] (wr := [(h, oC 7 [.ref x, .ref y]), (x, aI (Y 0) 271 g), (y, aI (Y 0) 271 z)]) (fun l => c_X7_loss l D Y _ a  ) rfl rfl rfl rfl (by decide) rfl (Or.inr (List.mem_append_right _ hpm)) rfl gX8_addWalker_X7_loss_u54X0 (List.mem_of_getElem? (i := 55) rfl) (by decide +kernel) (by decide) rfl rfl (Nat.le_of_ble_eq_true rfl) (by decide) dX8_addWalker_88 (fun e w1 hq => ?_)
                    obtain ⟨rfl, rfl⟩ := hq
                    refine j_perm (ws' := [(h, oC 7 [.ref x, .ref y]), (x, aI (Y 0) 271 g), (y, aI (Y 0) 271 z)]) [0, 1, 2] rfl rfl ?_
                    exact j_st rfl rfl (by unfold lossP; simp [h_26]) kk_16
              · skip
                refine j_aload_n (pc := 66) C 0 1 rfl rfl dX8_addWalker_66 ?_
                refine j_iload (pc := 67) C 6 rfl dX8_addWalker_67 ?_
                refine j_aload_n (pc := 69) C 1 2 rfl rfl dX8_addWalker_69 ?_
                have kk_27 : jW X 7 0 0 [(h, oC 7 [.ref x, .ref y]), (x, aI (Y 0) 271 g), (y, aI (Y 0) 271 z)] [(6, vI (g i)), (0, .ref h), (1, .ref a), (2, vI m), (3, vI sc), (4, vI sn), (5, vI i)] 73 [vI (giftP P), vI i, .ref h] := by
                  refine j_iadd (pc := 73) C dX8_addWalker_73 ?_
                  refine j_iload (pc := 74) C 0 rfl dX8_addWalker_74 ?_
                  refine j_callVv (pc := 76) (As := [vI (i + giftP P), vI (g i)]) (na := 2) (st := []) C [2] [0, 1] (wr := [(h, oC 7 [.ref x, .ref y]), (x, aI (Y 0) 271 g)]) (fun l => c_offer l D Y _ h x y z (i + giftP P) (g i) (List.mem_append_left _ (List.mem_of_getElem? (i := 0) rfl)) (by first | assumption | omega) (by first | assumption | omega) (by first | exact i31_2 | exact offF_rng i31_2 (by omega) | exact offF_rng (offF_rng i31_2 (by omega)) (by omega) | exact offF_rng (offF_rng (offF_rng i31_2 (by omega)) (by omega)) (by omega))) rfl rfl rfl rfl (by decide) rfl (Or.inr (List.mem_append_left _ (List.mem_of_getElem? (i := 0) rfl))) rfl gX8_addWalker_X8_offer ⟨rfl, by decide +kernel⟩ (by decide) rfl rfl (Nat.le_of_ble_eq_true rfl) (by decide) dX8_addWalker_76 (fun w_29 h_30 => ?_)
                  subst h_30
                  refine j_perm (ws' := [(h, oC 7 [.ref x, .ref y]), (x, aI (Y 0) 271 g), (y, aI (Y 0) 271 (offF (i + giftP P) (g i) z))]) [0, 1, 2] rfl rfl ?_
                  refine j_iload (pc := 79) C 5 rfl dX8_addWalker_79 ?_
                  refine j_if_eq (pc := 81) C 99 rfl (by omega) dX8_addWalker_81 (fun h_31p81 => ?_) (fun h_31p81 => ?_)
                  · skip
                    refine j_aload_n (pc := 99) C 1 2 rfl rfl dX8_addWalker_99 ?_
                    have kk_32 : jW X 7 0 0 [(h, oC 7 [.ref x, .ref y]), (x, aI (Y 0) 271 g), (y, aI (Y 0) 271 (offF (i + giftP P) (g i) z))] [(6, vI (g i)), (0, .ref h), (1, .ref a), (2, vI m), (3, vI sc), (4, vI sn), (5, vI i)] 103 [vI (if pi P < 10 ∧ pz P < 10 then 1 else 0)] := by
                      refine j_if_eqb (pc := 103) C 114 rfl dX8_addWalker_103 (fun h_33p103 => ?_) (fun h_33p103 => ?_)
                      · skip
                        refine j_iinc (pc := 114) (lc' := [(5, vI (i + 1)), (6, vI (g i)), (0, .ref h), (1, .ref a), (2, vI m), (3, vI sc), (4, vI sn)]) C 6 rfl (by decide) rfl dX8_addWalker_114 ?_
                        refine j_goto (pc := 117) C 31 rfl dX8_addWalker_117 ?_
                        refine j_locals (lc' := [(0, .ref h), (1, .ref a), (2, vI m), (3, vI sc), (4, vI sn), (5, vI (i + 1))]) [2, 3, 4, 5, 6, 0] rfl ?_
                        exact ih31 (i + 1) (offF (i + giftP P) (g i) z) (by omega) (by omega) (by rw [fo_succ _ (by omega), ← i31_1]; unfold stepF; first | (rw [if_pos (by omega)]; done) | (rw [if_neg (by omega)]; (first | rw [st1_y (by omega)] | rw [st1_n (by omega)]); (first | rw [st2_y (by omega)] | rw [st2_n (by omega)]); (first | rw [st3_y (by omega)] | rw [st3_n (by omega)]))) (by first | exact i31_2 | exact offF_rng i31_2 (by omega) | exact offF_rng (offF_rng i31_2 (by omega)) (by omega) | exact offF_rng (offF_rng (offF_rng i31_2 (by omega)) (by omega)) (by omega))
                      · skip
                        refine j_aload_n (pc := 106) C 0 1 rfl rfl dX8_addWalker_106 ?_
                        refine j_iload (pc := 107) C 6 rfl dX8_addWalker_107 ?_
                        refine j_iload (pc := 109) C 0 rfl dX8_addWalker_109 ?_
                        refine j_callVv (pc := 111) (As := [vI i, vI (g i)]) (na := 2) (st := []) C [2] [0, 1] (wr := [(h, oC 7 [.ref x, .ref y]), (x, aI (Y 0) 271 g)]) (fun l => c_offer l D Y _ h x y (offF (i + giftP P) (g i) z) i (g i) (List.mem_append_left _ (List.mem_of_getElem? (i := 0) rfl)) (by first | assumption | omega) (by first | assumption | omega) (by first | exact i31_2 | exact offF_rng i31_2 (by omega) | exact offF_rng (offF_rng i31_2 (by omega)) (by omega) | exact offF_rng (offF_rng (offF_rng i31_2 (by omega)) (by omega)) (by omega))) rfl rfl rfl rfl (by decide) rfl (Or.inr (List.mem_append_left _ (List.mem_of_getElem? (i := 0) rfl))) rfl gX8_addWalker_X8_offer ⟨rfl, by decide +kernel⟩ (by decide) rfl rfl (Nat.le_of_ble_eq_true rfl) (by decide) dX8_addWalker_111 (fun w_35 h_36 => ?_)
                        subst h_36
                        refine j_perm (ws' := [(h, oC 7 [.ref x, .ref y]), (x, aI (Y 0) 271 g), (y, aI (Y 0) 271 (offF i (g i) (offF (i + giftP P) (g i) z)))]) [0, 1, 2] rfl rfl ?_
                        refine j_iinc (pc := 114) (lc' := [(5, vI (i + 1)), (6, vI (g i)), (0, .ref h), (1, .ref a), (2, vI m), (3, vI sc), (4, vI sn)]) C 6 rfl (by decide) rfl dX8_addWalker_114 ?_
                        refine j_goto (pc := 117) C 31 rfl dX8_addWalker_117 ?_
                        refine j_locals (lc' := [(0, .ref h), (1, .ref a), (2, vI m), (3, vI sc), (4, vI sn), (5, vI (i + 1))]) [2, 3, 4, 5, 6, 0] rfl ?_
                        exact ih31 (i + 1) (offF i (g i) (offF (i + giftP P) (g i) z)) (by omega) (by omega) (by rw [fo_succ _ (by omega), ← i31_1]; unfold stepF; first | (rw [if_pos (by omega)]; done) | (rw [if_neg (by omega)]; (first | rw [st1_y (by omega)] | rw [st1_n (by omega)]); (first | rw [st2_y (by omega)] | rw [st2_n (by omega)]); (first | rw [st3_y (by omega)] | rw [st3_n (by omega)]))) (by first | exact i31_2 | exact offF_rng i31_2 (by omega) | exact offF_rng (offF_rng i31_2 (by omega)) (by omega) | exact offF_rng (offF_rng (offF_rng i31_2 (by omega)) (by omega)) (by omega))
                    rcases (show pk P = 0 ∨ pk P = 1 ∨ pk P = 2 ∨ pk P = 3 by have := hP.1; omega) with h_37 | h_37 | h_37 | h_37
                    · have hpm := hp
                      rw [pC_0 h_37] at hpm
                      refine j_callVi (pc := 100) (As := []) (na := 0) (st := []) C [] [0, 1, 2] (wr := [(h, oC 7 [.ref x, .ref y]), (x, aI (Y 0) 271 g), (y, aI (Y 0) 271 (offF (i + giftP P) (g i) z))]) (fun l => c_canRest l D Y _ a P (List.mem_append_right _ hp) hP) rfl rfl rfl rfl (by decide) rfl (Or.inr (List.mem_append_right _ hpm)) rfl gX8_addWalker_X5_canRest ⟨rfl, by decide +kernel⟩ (by decide) rfl rfl (Nat.le_of_ble_eq_true rfl) (by decide) dX8_addWalker_100 (fun e w1 hq => ?_)
                      obtain ⟨rfl, rfl⟩ := hq
                      refine j_perm (ws' := [(h, oC 7 [.ref x, .ref y]), (x, aI (Y 0) 271 g), (y, aI (Y 0) 271 (offF (i + giftP P) (g i) z))]) [0, 1, 2] rfl rfl ?_
                      exact j_st rfl rfl (by rfl) kk_32
                    · have hpm := hp
                      rw [pC_1 h_37] at hpm
                      refine j_callUi (pc := 100) (As := []) (na := 0) (st := []) C [] [0, 1, 2] (wr := [(h, oC 7 [.ref x, .ref y]), (x, aI (Y 0) 271 g), (y, aI (Y 0) 271 (offF (i + giftP P) (g i) z))]) (fun l => c_canRest l D Y _ a P (List.mem_append_right _ hp) hP) rfl rfl rfl rfl (by decide) rfl (Or.inr (List.mem_append_right _ hpm)) rfl gX8_addWalker_X5_canRest_u74X6 rfl (by decide +kernel) (by decide) rfl rfl (Nat.le_of_ble_eq_true rfl) (by decide) dX8_addWalker_100 (fun e w1 hq => ?_)
                      obtain ⟨rfl, rfl⟩ := hq
                      refine j_perm (ws' := [(h, oC 7 [.ref x, .ref y]), (x, aI (Y 0) 271 g), (y, aI (Y 0) 271 (offF (i + giftP P) (g i) z))]) [0, 1, 2] rfl rfl ?_
                      exact j_st rfl rfl (by rfl) kk_32
                    · have hpm := hp
                      rw [pC_2 h_37] at hpm
                      refine j_callUi (pc := 100) (As := []) (na := 0) (st := []) C [] [0, 1, 2] (wr := [(h, oC 7 [.ref x, .ref y]), (x, aI (Y 0) 271 g), (y, aI (Y 0) 271 (offF (i + giftP P) (g i) z))]) (fun l => c_canRest l D Y _ a P (List.mem_append_right _ hp) hP) rfl rfl rfl rfl (by decide) rfl (Or.inr (List.mem_append_right _ hpm)) rfl gX8_addWalker_X5_canRest_u74X7 rfl (by decide +kernel) (by decide) rfl rfl (Nat.le_of_ble_eq_true rfl) (by decide) dX8_addWalker_100 (fun e w1 hq => ?_)
                      obtain ⟨rfl, rfl⟩ := hq
                      refine j_perm (ws' := [(h, oC 7 [.ref x, .ref y]), (x, aI (Y 0) 271 g), (y, aI (Y 0) 271 (offF (i + giftP P) (g i) z))]) [0, 1, 2] rfl rfl ?_
                      exact j_st rfl rfl (by rfl) kk_32
                    · have hpm := hp
                      rw [pC_3 h_37] at hpm
                      refine j_callUi (pc := 100) (As := []) (na := 0) (st := []) C [] [0, 1, 2] (wr := [(h, oC 7 [.ref x, .ref y]), (x, aI (Y 0) 271 g), (y, aI (Y 0) 271 (offF (i + giftP P) (g i) z))]) (fun l => c_canRest l D Y _ a P (List.mem_append_right _ hp) hP) rfl rfl rfl rfl (by decide) rfl (Or.inr (List.mem_append_right _ hpm)) rfl gX8_addWalker_X5_canRest_u74X0 rfl (by decide +kernel) (by decide) rfl rfl (Nat.le_of_ble_eq_true rfl) (by decide) dX8_addWalker_100 (fun e w1 hq => ?_)
                      obtain ⟨rfl, rfl⟩ := hq
                      refine j_perm (ws' := [(h, oC 7 [.ref x, .ref y]), (x, aI (Y 0) 271 g), (y, aI (Y 0) 271 (offF (i + giftP P) (g i) z))]) [0, 1, 2] rfl rfl ?_
                      exact j_st rfl rfl (by rfl) kk_32
                  · skip
                    refine j_aload_n (pc := 84) C 0 1 rfl rfl dX8_addWalker_84 ?_
                    refine j_iload (pc := 85) C 6 rfl dX8_addWalker_85 ?_
                    refine j_aload_n (pc := 87) C 1 2 rfl rfl dX8_addWalker_87 ?_
                    have kk_38 : jW X 7 0 0 [(h, oC 7 [.ref x, .ref y]), (x, aI (Y 0) 271 g), (y, aI (Y 0) 271 (offF (i + giftP P) (g i) z))] [(6, vI (g i)), (0, .ref h), (1, .ref a), (2, vI m), (3, vI sc), (4, vI sn), (5, vI i)] 91 [vI (lossP P), vI i, .ref h] := by
                      refine j_isub (pc := 91) C dX8_addWalker_91 ?_
                      refine j_iload (pc := 92) C 0 rfl dX8_addWalker_92 ?_
                      refine j_iload_n (pc := 94) C 3 4 rfl rfl dX8_addWalker_94 ?_
                      refine j_iadd (pc := 95) C dX8_addWalker_95 ?_
                      refine j_callVv (pc := 96) (As := [vI (i - lossP P), vI (g i + sc)]) (na := 2) (st := []) C [2] [0, 1] (wr := [(h, oC 7 [.ref x, .ref y]), (x, aI (Y 0) 271 g)]) (fun l => c_offer l D Y _ h x y (offF (i + giftP P) (g i) z) (i - lossP P) (g i + sc) (List.mem_append_left _ (List.mem_of_getElem? (i := 0) rfl)) (by first | assumption | omega) (by first | assumption | omega) (by first | exact i31_2 | exact offF_rng i31_2 (by omega) | exact offF_rng (offF_rng i31_2 (by omega)) (by omega) | exact offF_rng (offF_rng (offF_rng i31_2 (by omega)) (by omega)) (by omega))) rfl rfl rfl rfl (by decide) rfl (Or.inr (List.mem_append_left _ (List.mem_of_getElem? (i := 0) rfl))) rfl gX8_addWalker_X8_offer ⟨rfl, by decide +kernel⟩ (by decide) rfl rfl (Nat.le_of_ble_eq_true rfl) (by decide) dX8_addWalker_96 (fun w_40 h_41 => ?_)
                      subst h_41
                      refine j_perm (ws' := [(h, oC 7 [.ref x, .ref y]), (x, aI (Y 0) 271 g), (y, aI (Y 0) 271 (offF (i - lossP P) (g i + sc) (offF (i + giftP P) (g i) z)))]) [0, 1, 2] rfl rfl ?_
                      refine j_aload_n (pc := 99) C 1 2 rfl rfl dX8_addWalker_99 ?_
                      have kk_42 : jW X 7 0 0 [(h, oC 7 [.ref x, .ref y]), (x, aI (Y 0) 271 g), (y, aI (Y 0) 271 (offF (i - lossP P) (g i + sc) (offF (i + giftP P) (g i) z)))] [(6, vI (g i)), (0, .ref h), (1, .ref a), (2, vI m), (3, vI sc), (4, vI sn), (5, vI i)] 103 [vI (if pi P < 10 ∧ pz P < 10 then 1 else 0)] := by
                        refine j_if_eqb (pc := 103) C 114 rfl dX8_addWalker_103 (fun h_43p103 => ?_) (fun h_43p103 => ?_)
                        · skip
                          refine j_iinc (pc := 114) (lc' := [(5, vI (i + 1)), (6, vI (g i)), (0, .ref h), (1, .ref a), (2, vI m), (3, vI sc), (4, vI sn)]) C 6 rfl (by decide) rfl dX8_addWalker_114 ?_
                          refine j_goto (pc := 117) C 31 rfl dX8_addWalker_117 ?_
                          refine j_locals (lc' := [(0, .ref h), (1, .ref a), (2, vI m), (3, vI sc), (4, vI sn), (5, vI (i + 1))]) [2, 3, 4, 5, 6, 0] rfl ?_
                          exact ih31 (i + 1) (offF (i - lossP P) (g i + sc) (offF (i + giftP P) (g i) z)) (by omega) (by omega) (by rw [fo_succ _ (by omega), ← i31_1]; unfold stepF; first | (rw [if_pos (by omega)]; done) | (rw [if_neg (by omega)]; (first | rw [st1_y (by omega)] | rw [st1_n (by omega)]); (first | rw [st2_y (by omega)] | rw [st2_n (by omega)]); (first | rw [st3_y (by omega)] | rw [st3_n (by omega)]))) (by first | exact i31_2 | exact offF_rng i31_2 (by omega) | exact offF_rng (offF_rng i31_2 (by omega)) (by omega) | exact offF_rng (offF_rng (offF_rng i31_2 (by omega)) (by omega)) (by omega))
                        · skip
                          refine j_aload_n (pc := 106) C 0 1 rfl rfl dX8_addWalker_106 ?_
                          refine j_iload (pc := 107) C 6 rfl dX8_addWalker_107 ?_
                          refine j_iload (pc := 109) C 0 rfl dX8_addWalker_109 ?_
                          refine j_callVv (pc := 111) (As := [vI i, vI (g i)]) (na := 2) (st := []) C [2] [0, 1] (wr := [(h, oC 7 [.ref x, .ref y]), (x, aI (Y 0) 271 g)]) (fun l => c_offer l D Y _ h x y (offF (i - lossP P) (g i + sc) (offF (i + giftP P) (g i) z)) i (g i) (List.mem_append_left _ (List.mem_of_getElem? (i := 0) rfl)) (by first | assumption | omega) (by first | assumption | omega) (by first | exact i31_2 | exact offF_rng i31_2 (by omega) | exact offF_rng (offF_rng i31_2 (by omega)) (by omega) | exact offF_rng (offF_rng (offF_rng i31_2 (by omega)) (by omega)) (by omega))) rfl rfl rfl rfl (by decide) rfl (Or.inr (List.mem_append_left _ (List.mem_of_getElem? (i := 0) rfl))) rfl gX8_addWalker_X8_offer ⟨rfl, by decide +kernel⟩ (by decide) rfl rfl (Nat.le_of_ble_eq_true rfl) (by decide) dX8_addWalker_111 (fun w_45 h_46 => ?_)
                          subst h_46
                          refine j_perm (ws' := [(h, oC 7 [.ref x, .ref y]), (x, aI (Y 0) 271 g), (y, aI (Y 0) 271 (offF i (g i) (offF (i - lossP P) (g i + sc) (offF (i + giftP P) (g i) z))))]) [0, 1, 2] rfl rfl ?_
                          refine j_iinc (pc := 114) (lc' := [(5, vI (i + 1)), (6, vI (g i)), (0, .ref h), (1, .ref a), (2, vI m), (3, vI sc), (4, vI sn)]) C 6 rfl (by decide) rfl dX8_addWalker_114 ?_
                          refine j_goto (pc := 117) C 31 rfl dX8_addWalker_117 ?_
                          refine j_locals (lc' := [(0, .ref h), (1, .ref a), (2, vI m), (3, vI sc), (4, vI sn), (5, vI (i + 1))]) [2, 3, 4, 5, 6, 0] rfl ?_
                          exact ih31 (i + 1) (offF i (g i) (offF (i - lossP P) (g i + sc) (offF (i + giftP P) (g i) z))) (by omega) (by omega) (by rw [fo_succ _ (by omega), ← i31_1]; unfold stepF; first | (rw [if_pos (by omega)]; done) | (rw [if_neg (by omega)]; (first | rw [st1_y (by omega)] | rw [st1_n (by omega)]); (first | rw [st2_y (by omega)] | rw [st2_n (by omega)]); (first | rw [st3_y (by omega)] | rw [st3_n (by omega)]))) (by first | exact i31_2 | exact offF_rng i31_2 (by omega) | exact offF_rng (offF_rng i31_2 (by omega)) (by omega) | exact offF_rng (offF_rng (offF_rng i31_2 (by omega)) (by omega)) (by omega))
                      rcases (show pk P = 0 ∨ pk P = 1 ∨ pk P = 2 ∨ pk P = 3 by have := hP.1; omega) with h_47 | h_47 | h_47 | h_47
                      · have hpm := hp
                        rw [pC_0 h_47] at hpm
                        refine j_callVi (pc := 100) (As := []) (na := 0) (st := []) C [] [0, 1, 2] (wr := [(h, oC 7 [.ref x, .ref y]), (x, aI (Y 0) 271 g), (y, aI (Y 0) 271 (offF (i - lossP P) (g i + sc) (offF (i + giftP P) (g i) z)))]) (fun l => c_canRest l D Y _ a P (List.mem_append_right _ hp) hP) rfl rfl rfl rfl (by decide) rfl (Or.inr (List.mem_append_right _ hpm)) rfl gX8_addWalker_X5_canRest ⟨rfl, by decide +kernel⟩ (by decide) rfl rfl (Nat.le_of_ble_eq_true rfl) (by decide) dX8_addWalker_100 (fun e w1 hq => ?_)
                        obtain ⟨rfl, rfl⟩ := hq
                        refine j_perm (ws' := [(h, oC 7 [.ref x, .ref y]), (x, aI (Y 0) 271 g), (y, aI (Y 0) 271 (offF (i - lossP P) (g i + sc) (offF (i + giftP P) (g i) z)))]) [0, 1, 2] rfl rfl ?_
                        exact j_st rfl rfl (by rfl) kk_42
                      · have hpm := hp
                        rw [pC_1 h_47] at hpm
                        refine j_callUi (pc := 100) (As := []) (na := 0) (st := []) C [] [0, 1, 2] (wr := [(h, oC 7 [.ref x, .ref y]), (x, aI (Y 0) 271 g), (y, aI (Y 0) 271 (offF (i - lossP P) (g i + sc) (offF (i + giftP P) (g i) z)))]) (fun l => c_canRest l D Y _ a P (List.mem_append_right _ hp) hP) rfl rfl rfl rfl (by decide) rfl (Or.inr (List.mem_append_right _ hpm)) rfl gX8_addWalker_X5_canRest_u74X6 rfl (by decide +kernel) (by decide) rfl rfl (Nat.le_of_ble_eq_true rfl) (by decide) dX8_addWalker_100 (fun e w1 hq => ?_)
                        obtain ⟨rfl, rfl⟩ := hq
                        refine j_perm (ws' := [(h, oC 7 [.ref x, .ref y]), (x, aI (Y 0) 271 g), (y, aI (Y 0) 271 (offF (i - lossP P) (g i + sc) (offF (i + giftP P) (g i) z)))]) [0, 1, 2] rfl rfl ?_
                        exact j_st rfl rfl (by rfl) kk_42
                      · have hpm := hp
                        rw [pC_2 h_47] at hpm
                        refine j_callUi (pc := 100) (As := []) (na := 0) (st := []) C [] [0, 1, 2] (wr := [(h, oC 7 [.ref x, .ref y]), (x, aI (Y 0) 271 g), (y, aI (Y 0) 271 (offF (i - lossP P) (g i + sc) (offF (i + giftP P) (g i) z)))]) (fun l => c_canRest l D Y _ a P (List.mem_append_right _ hp) hP) rfl rfl rfl rfl (by decide) rfl (Or.inr (List.mem_append_right _ hpm)) rfl gX8_addWalker_X5_canRest_u74X7 rfl (by decide +kernel) (by decide) rfl rfl (Nat.le_of_ble_eq_true rfl) (by decide) dX8_addWalker_100 (fun e w1 hq => ?_)
                        obtain ⟨rfl, rfl⟩ := hq
                        refine j_perm (ws' := [(h, oC 7 [.ref x, .ref y]), (x, aI (Y 0) 271 g), (y, aI (Y 0) 271 (offF (i - lossP P) (g i + sc) (offF (i + giftP P) (g i) z)))]) [0, 1, 2] rfl rfl ?_
                        exact j_st rfl rfl (by rfl) kk_42
                      · have hpm := hp
                        rw [pC_3 h_47] at hpm
                        refine j_callUi (pc := 100) (As := []) (na := 0) (st := []) C [] [0, 1, 2] (wr := [(h, oC 7 [.ref x, .ref y]), (x, aI (Y 0) 271 g), (y, aI (Y 0) 271 (offF (i - lossP P) (g i + sc) (offF (i + giftP P) (g i) z)))]) (fun l => c_canRest l D Y _ a P (List.mem_append_right _ hp) hP) rfl rfl rfl rfl (by decide) rfl (Or.inr (List.mem_append_right _ hpm)) rfl gX8_addWalker_X5_canRest_u74X0 rfl (by decide +kernel) (by decide) rfl rfl (Nat.le_of_ble_eq_true rfl) (by decide) dX8_addWalker_100 (fun e w1 hq => ?_)
                        obtain ⟨rfl, rfl⟩ := hq
                        refine j_perm (ws' := [(h, oC 7 [.ref x, .ref y]), (x, aI (Y 0) 271 g), (y, aI (Y 0) 271 (offF (i - lossP P) (g i + sc) (offF (i + giftP P) (g i) z)))]) [0, 1, 2] rfl rfl ?_
                        exact j_st rfl rfl (by rfl) kk_42
                    rcases (show pk P = 0 ∨ pk P = 1 ∨ pk P = 2 ∨ pk P = 3 by have := hP.1; omega) with h_48 | h_48 | h_48 | h_48
                    · have hpm := hp
                      rw [pC_0 h_48] at hpm
                      refine j_callVi (pc := 88) (As := []) (na := 0) (st := [vI i, .ref h]) C [] [0, 1, 2] (wr := [(h, oC 7 [.ref x, .ref y]), (x, aI (Y 0) 271 g), (y, aI (Y 0) 271 (offF (i + giftP P) (g i) z))]) (fun l => c_X5_loss l D Y _ a  ) rfl rfl rfl rfl (by decide) rfl (Or.inr (List.mem_append_right _ hpm)) rfl gX8_addWalker_X5_loss ⟨rfl, by decide +kernel⟩ (by decide) rfl rfl (Nat.le_of_ble_eq_true rfl) (by decide) dX8_addWalker_88 (fun e w1 hq => ?_)
                      obtain ⟨rfl, rfl⟩ := hq
                      refine j_perm (ws' := [(h, oC 7 [.ref x, .ref y]), (x, aI (Y 0) 271 g), (y, aI (Y 0) 271 (offF (i + giftP P) (g i) z))]) [0, 1, 2] rfl rfl ?_
                      exact j_st rfl rfl (by unfold lossP; simp [h_48]) kk_38
                    · have hpm := hp
                      rw [pC_1 h_48] at hpm
                      refine j_callUi (pc := 88) (As := []) (na := 0) (st := [vI i, .ref h]) C [] [0, 1, 2] (wr := [(h, oC 7 [.ref x, .ref y]), (x, aI (Y 0) 271 g), (y, aI (Y 0) 271 (offF (i + giftP P) (g i) z))]) (fun l => c_X5_loss l D Y _ a  ) rfl rfl rfl rfl (by decide) rfl (Or.inr (List.mem_append_right _ hpm)) rfl gX8_addWalker_X5_loss_u54X6 rfl (by decide +kernel) (by decide) rfl rfl (Nat.le_of_ble_eq_true rfl) (by decide) dX8_addWalker_88 (fun e w1 hq => ?_)
                      obtain ⟨rfl, rfl⟩ := hq
                      refine j_perm (ws' := [(h, oC 7 [.ref x, .ref y]), (x, aI (Y 0) 271 g), (y, aI (Y 0) 271 (offF (i + giftP P) (g i) z))]) [0, 1, 2] rfl rfl ?_
                      exact j_st rfl rfl (by unfold lossP; simp [h_48]) kk_38
                    · have hpm := hp
                      rw [pC_2 h_48] at hpm
                      refine j_callOi (pc := 88) (As := []) (na := 0) (st := [vI i, .ref h]) C [] [0, 1, 2] (wr := [(h, oC 7 [.ref x, .ref y]), (x, aI (Y 0) 271 g), (y, aI (Y 0) 271 (offF (i + giftP P) (g i) z))]) (fun l => c_X7_loss l D Y _ a  ) rfl rfl rfl rfl (by decide) rfl (Or.inr (List.mem_append_right _ hpm)) rfl gX8_addWalker_X7_loss_u54X7 (List.mem_of_getElem? (i := 55) rfl) (by decide +kernel) (by decide) rfl rfl (Nat.le_of_ble_eq_true rfl) (by decide) dX8_addWalker_88 (fun e w1 hq => ?_)
                      obtain ⟨rfl, rfl⟩ := hq
                      refine j_perm (ws' := [(h, oC 7 [.ref x, .ref y]), (x, aI (Y 0) 271 g), (y, aI (Y 0) 271 (offF (i + giftP P) (g i) z))]) [0, 1, 2] rfl rfl ?_
                      exact j_st rfl rfl (by unfold lossP; simp [h_48]) kk_38
                    · have hpm := hp
                      rw [pC_3 h_48] at hpm
                      refine j_callOi (pc := 88) (As := []) (na := 0) (st := [vI i, .ref h]) C [] [0, 1, 2] (wr := [(h, oC 7 [.ref x, .ref y]), (x, aI (Y 0) 271 g), (y, aI (Y 0) 271 (offF (i + giftP P) (g i) z))]) (fun l => c_X7_loss l D Y _ a  ) rfl rfl rfl rfl (by decide) rfl (Or.inr (List.mem_append_right _ hpm)) rfl gX8_addWalker_X7_loss_u54X0 (List.mem_of_getElem? (i := 55) rfl) (by decide +kernel) (by decide) rfl rfl (Nat.le_of_ble_eq_true rfl) (by decide) dX8_addWalker_88 (fun e w1 hq => ?_)
                      obtain ⟨rfl, rfl⟩ := hq
                      refine j_perm (ws' := [(h, oC 7 [.ref x, .ref y]), (x, aI (Y 0) 271 g), (y, aI (Y 0) 271 (offF (i + giftP P) (g i) z))]) [0, 1, 2] rfl rfl ?_
                      exact j_st rfl rfl (by unfold lossP; simp [h_48]) kk_38
                rcases (show pk P = 0 ∨ pk P = 1 ∨ pk P = 2 ∨ pk P = 3 by have := hP.1; omega) with h_49 | h_49 | h_49 | h_49
                · have hpm := hp
                  rw [pC_0 h_49] at hpm
                  refine j_callVi (pc := 70) (As := []) (na := 0) (st := [vI i, .ref h]) C [] [0, 1, 2] (wr := [(h, oC 7 [.ref x, .ref y]), (x, aI (Y 0) 271 g), (y, aI (Y 0) 271 z)]) (fun l => c_X5_gift l D Y _ a  ) rfl rfl rfl rfl (by decide) rfl (Or.inr (List.mem_append_right _ hpm)) rfl gX8_addWalker_X5_gift ⟨rfl, by decide +kernel⟩ (by decide) rfl rfl (Nat.le_of_ble_eq_true rfl) (by decide) dX8_addWalker_70 (fun e w1 hq => ?_)
                  obtain ⟨rfl, rfl⟩ := hq
                  refine j_perm (ws' := [(h, oC 7 [.ref x, .ref y]), (x, aI (Y 0) 271 g), (y, aI (Y 0) 271 z)]) [0, 1, 2] rfl rfl ?_
                  exact j_st rfl rfl (by unfold giftP; simp [h_49]) kk_27
                · have hpm := hp
                  rw [pC_1 h_49] at hpm
                  refine j_callOi (pc := 70) (As := []) (na := 0) (st := [vI i, .ref h]) C [] [0, 1, 2] (wr := [(h, oC 7 [.ref x, .ref y]), (x, aI (Y 0) 271 g), (y, aI (Y 0) 271 z)]) (fun l => c_X6_gift l D Y _ a P (List.mem_append_right _ hp) hP) rfl rfl rfl rfl (by decide) rfl (Or.inr (List.mem_append_right _ hpm)) rfl gX8_addWalker_X6_gift_u67X6 (List.mem_of_getElem? (i := 32) rfl) (by decide +kernel) (by decide) rfl rfl (Nat.le_of_ble_eq_true rfl) (by decide) dX8_addWalker_70 (fun e w1 hq => ?_)
                  obtain ⟨rfl, rfl⟩ := hq
                  refine j_perm (ws' := [(h, oC 7 [.ref x, .ref y]), (x, aI (Y 0) 271 g), (y, aI (Y 0) 271 z)]) [0, 1, 2] rfl rfl ?_
                  exact j_st rfl rfl (by unfold giftP; simp [h_49]) kk_27
                · have hpm := hp
                  rw [pC_2 h_49] at hpm
                  refine j_callUi (pc := 70) (As := []) (na := 0) (st := [vI i, .ref h]) C [] [0, 1, 2] (wr := [(h, oC 7 [.ref x, .ref y]), (x, aI (Y 0) 271 g), (y, aI (Y 0) 271 z)]) (fun l => c_X5_gift l D Y _ a  ) rfl rfl rfl rfl (by decide) rfl (Or.inr (List.mem_append_right _ hpm)) rfl gX8_addWalker_X5_gift_u67X7 rfl (by decide +kernel) (by decide) rfl rfl (Nat.le_of_ble_eq_true rfl) (by decide) dX8_addWalker_70 (fun e w1 hq => ?_)
                  obtain ⟨rfl, rfl⟩ := hq
                  refine j_perm (ws' := [(h, oC 7 [.ref x, .ref y]), (x, aI (Y 0) 271 g), (y, aI (Y 0) 271 z)]) [0, 1, 2] rfl rfl ?_
                  exact j_st rfl rfl (by unfold giftP; simp [h_49]) kk_27
                · have hpm := hp
                  rw [pC_3 h_49] at hpm
                  refine j_callUi (pc := 70) (As := []) (na := 0) (st := [vI i, .ref h]) C [] [0, 1, 2] (wr := [(h, oC 7 [.ref x, .ref y]), (x, aI (Y 0) 271 g), (y, aI (Y 0) 271 z)]) (fun l => c_X5_gift l D Y _ a  ) rfl rfl rfl rfl (by decide) rfl (Or.inr (List.mem_append_right _ hpm)) rfl gX8_addWalker_X5_gift_u67X0 rfl (by decide +kernel) (by decide) rfl rfl (Nat.le_of_ble_eq_true rfl) (by decide) dX8_addWalker_70 (fun e w1 hq => ?_)
                  obtain ⟨rfl, rfl⟩ := hq
                  refine j_perm (ws' := [(h, oC 7 [.ref x, .ref y]), (x, aI (Y 0) 271 g), (y, aI (Y 0) 271 z)]) [0, 1, 2] rfl rfl ?_
                  exact j_st rfl rfl (by unfold giftP; simp [h_49]) kk_27
            rcases (show pk P = 0 ∨ pk P = 1 ∨ pk P = 2 ∨ pk P = 3 by have := hP.1; omega) with h_50 | h_50 | h_50 | h_50
            · have hpm := hp
              rw [pC_0 h_50] at hpm
              refine j_callVi (pc := 60) (As := []) (na := 0) (st := []) C [] [0, 1, 2] (wr := [(h, oC 7 [.ref x, .ref y]), (x, aI (Y 0) 271 g), (y, aI (Y 0) 271 z)]) (fun l => c_canWish l D Y _ a P (List.mem_append_right _ hp) hP) rfl rfl rfl rfl (by decide) rfl (Or.inr (List.mem_append_right _ hpm)) rfl gX8_addWalker_X5_canWish ⟨rfl, by decide +kernel⟩ (by decide) rfl rfl (Nat.le_of_ble_eq_true rfl) (by decide) dX8_addWalker_60 (fun e w1 hq => ?_)
              obtain ⟨rfl, rfl⟩ := hq
              refine j_perm (ws' := [(h, oC 7 [.ref x, .ref y]), (x, aI (Y 0) 271 g), (y, aI (Y 0) 271 z)]) [0, 1, 2] rfl rfl ?_
              exact j_st rfl rfl (by rfl) kk_7
            · have hpm := hp
              rw [pC_1 h_50] at hpm
              refine j_callUi (pc := 60) (As := []) (na := 0) (st := []) C [] [0, 1, 2] (wr := [(h, oC 7 [.ref x, .ref y]), (x, aI (Y 0) 271 g), (y, aI (Y 0) 271 z)]) (fun l => c_canWish l D Y _ a P (List.mem_append_right _ hp) hP) rfl rfl rfl rfl (by decide) rfl (Or.inr (List.mem_append_right _ hpm)) rfl gX8_addWalker_X5_canWish_u64X6 rfl (by decide +kernel) (by decide) rfl rfl (Nat.le_of_ble_eq_true rfl) (by decide) dX8_addWalker_60 (fun e w1 hq => ?_)
              obtain ⟨rfl, rfl⟩ := hq
              refine j_perm (ws' := [(h, oC 7 [.ref x, .ref y]), (x, aI (Y 0) 271 g), (y, aI (Y 0) 271 z)]) [0, 1, 2] rfl rfl ?_
              exact j_st rfl rfl (by rfl) kk_7
            · have hpm := hp
              rw [pC_2 h_50] at hpm
              refine j_callUi (pc := 60) (As := []) (na := 0) (st := []) C [] [0, 1, 2] (wr := [(h, oC 7 [.ref x, .ref y]), (x, aI (Y 0) 271 g), (y, aI (Y 0) 271 z)]) (fun l => c_canWish l D Y _ a P (List.mem_append_right _ hp) hP) rfl rfl rfl rfl (by decide) rfl (Or.inr (List.mem_append_right _ hpm)) rfl gX8_addWalker_X5_canWish_u64X7 rfl (by decide +kernel) (by decide) rfl rfl (Nat.le_of_ble_eq_true rfl) (by decide) dX8_addWalker_60 (fun e w1 hq => ?_)
              obtain ⟨rfl, rfl⟩ := hq
              refine j_perm (ws' := [(h, oC 7 [.ref x, .ref y]), (x, aI (Y 0) 271 g), (y, aI (Y 0) 271 z)]) [0, 1, 2] rfl rfl ?_
              exact j_st rfl rfl (by rfl) kk_7
            · have hpm := hp
              rw [pC_3 h_50] at hpm
              refine j_callUi (pc := 60) (As := []) (na := 0) (st := []) C [] [0, 1, 2] (wr := [(h, oC 7 [.ref x, .ref y]), (x, aI (Y 0) 271 g), (y, aI (Y 0) 271 z)]) (fun l => c_canWish l D Y _ a P (List.mem_append_right _ hp) hP) rfl rfl rfl rfl (by decide) rfl (Or.inr (List.mem_append_right _ hpm)) rfl gX8_addWalker_X5_canWish_u64X0 rfl (by decide +kernel) (by decide) rfl rfl (Nat.le_of_ble_eq_true rfl) (by decide) dX8_addWalker_60 (fun e w1 hq => ?_)
              obtain ⟨rfl, rfl⟩ := hq
              refine j_perm (ws' := [(h, oC 7 [.ref x, .ref y]), (x, aI (Y 0) 271 g), (y, aI (Y 0) 271 z)]) [0, 1, 2] rfl rfl ?_
              exact j_st rfl rfl (by rfl) kk_7
          · skip
            refine j_goto (pc := 56) C 114 rfl dX8_addWalker_56 ?_
            refine j_iinc (pc := 114) (lc' := [(5, vI (i + 1)), (6, vI (g i)), (0, .ref h), (1, .ref a), (2, vI m), (3, vI sc), (4, vI sn)]) C 6 rfl (by decide) rfl dX8_addWalker_114 ?_
            refine j_goto (pc := 117) C 31 rfl dX8_addWalker_117 ?_
            refine j_locals (lc' := [(0, .ref h), (1, .ref a), (2, vI m), (3, vI sc), (4, vI sn), (5, vI (i + 1))]) [2, 3, 4, 5, 6, 0] rfl ?_
            exact ih31 (i + 1) z (by omega) (by omega) (by rw [fo_succ _ (by omega), ← i31_1]; unfold stepF; first | (rw [if_pos (by omega)]; done) | (rw [if_neg (by omega)]; (first | rw [st1_y (by omega)] | rw [st1_n (by omega)]); (first | rw [st2_y (by omega)] | rw [st2_n (by omega)]); (first | rw [st3_y (by omega)] | rw [st3_n (by omega)]))) (by first | exact i31_2 | exact offF_rng i31_2 (by omega) | exact offF_rng (offF_rng i31_2 (by omega)) (by omega) | exact offF_rng (offF_rng (offF_rng i31_2 (by omega)) (by omega)) (by omega))
    refine j_locals (lc' := [(0, .ref h), (1, .ref a), (2, vI m), (3, vI sc), (4, vI sn), (5, vI 0)]) [2, 3, 4, 5, 1, 0] rfl ?_
    exact hL31 _ 0 (fun _ => 1000) (Nat.lt_succ_self _) (by omega) rfl (fun j => by constructor <;> decide)
  refine j_iload_n (pc := 10) C 2 2 rfl rfl dX8_addWalker_10 ?_
  refine j_if_eq (pc := 11) C 25 rfl (by omega) dX8_addWalker_11 (fun h_51p11 => ?_) (fun h_51p11 => ?_)
  · skip
    refine j_iconst (pc := 25) C dX8_addWalker_25 ?_
    refine j_istore (pc := 26) (lc' := [(4, vI 0), (0, .ref h), (1, .ref a), (2, vI m), (3, vI sc)]) C (by decide) rfl dX8_addWalker_26 ?_
    exact kj 0 (by omega)
  · skip
    refine j_aload_n (pc := 14) C 1 1 rfl rfl dX8_addWalker_14 ?_
    have kk_52 : jW X 7 0 0 [(h, oC 7 [.ref x, .ref y]), (x, aI (Y 0) 271 g), (y, aI (Y 0) 271 (fun _ => 1000))] [(0, .ref h), (1, .ref a), (2, vI m), (3, vI sc)] 18 [vI (if pi P < 10 ∧ 0 < pz P then 1 else 0)] := by
      refine j_if_eqb (pc := 18) C 25 rfl dX8_addWalker_18 (fun h_53p18 => ?_) (fun h_53p18 => ?_)
      · skip
        refine j_iconst (pc := 25) C dX8_addWalker_25 ?_
        refine j_istore (pc := 26) (lc' := [(4, vI 0), (0, .ref h), (1, .ref a), (2, vI m), (3, vI sc)]) C (by decide) rfl dX8_addWalker_26 ?_
        exact kj 0 (by omega)
      · skip
        refine j_iconst (pc := 21) C dX8_addWalker_21 ?_
        refine j_goto (pc := 22) C 26 rfl dX8_addWalker_22 ?_
        refine j_istore (pc := 26) (lc' := [(4, vI 1), (0, .ref h), (1, .ref a), (2, vI m), (3, vI sc)]) C (by decide) rfl dX8_addWalker_26 ?_
        exact kj 1 (by omega)
    rcases (show pk P = 0 ∨ pk P = 1 ∨ pk P = 2 ∨ pk P = 3 by have := hP.1; omega) with h_54 | h_54 | h_54 | h_54
    · have hpm := hp
      rw [pC_0 h_54] at hpm
      refine j_callVi (pc := 15) (As := []) (na := 0) (st := []) C [] [0, 1, 2] (wr := [(h, oC 7 [.ref x, .ref y]), (x, aI (Y 0) 271 g), (y, aI (Y 0) 271 (fun _ => 1000))]) (fun l => c_canSin l D Y _ a P (List.mem_append_right _ hp) hP) rfl rfl rfl rfl (by decide) rfl (Or.inr (List.mem_append_right _ hpm)) rfl gX8_addWalker_X5_canSin ⟨rfl, by decide +kernel⟩ (by decide) rfl rfl (Nat.le_of_ble_eq_true rfl) (by decide) dX8_addWalker_15 (fun e w1 hq => ?_)
      obtain ⟨rfl, rfl⟩ := hq
      refine j_perm (ws' := [(h, oC 7 [.ref x, .ref y]), (x, aI (Y 0) 271 g), (y, aI (Y 0) 271 (fun _ => 1000))]) [0, 1, 2] rfl rfl ?_
      exact j_st rfl rfl (by rfl) kk_52
    · have hpm := hp
      rw [pC_1 h_54] at hpm
      refine j_callUi (pc := 15) (As := []) (na := 0) (st := []) C [] [0, 1, 2] (wr := [(h, oC 7 [.ref x, .ref y]), (x, aI (Y 0) 271 g), (y, aI (Y 0) 271 (fun _ => 1000))]) (fun l => c_canSin l D Y _ a P (List.mem_append_right _ hp) hP) rfl rfl rfl rfl (by decide) rfl (Or.inr (List.mem_append_right _ hpm)) rfl gX8_addWalker_X5_canSin_u50X6 rfl (by decide +kernel) (by decide) rfl rfl (Nat.le_of_ble_eq_true rfl) (by decide) dX8_addWalker_15 (fun e w1 hq => ?_)
      obtain ⟨rfl, rfl⟩ := hq
      refine j_perm (ws' := [(h, oC 7 [.ref x, .ref y]), (x, aI (Y 0) 271 g), (y, aI (Y 0) 271 (fun _ => 1000))]) [0, 1, 2] rfl rfl ?_
      exact j_st rfl rfl (by rfl) kk_52
    · have hpm := hp
      rw [pC_2 h_54] at hpm
      refine j_callUi (pc := 15) (As := []) (na := 0) (st := []) C [] [0, 1, 2] (wr := [(h, oC 7 [.ref x, .ref y]), (x, aI (Y 0) 271 g), (y, aI (Y 0) 271 (fun _ => 1000))]) (fun l => c_canSin l D Y _ a P (List.mem_append_right _ hp) hP) rfl rfl rfl rfl (by decide) rfl (Or.inr (List.mem_append_right _ hpm)) rfl gX8_addWalker_X5_canSin_u50X7 rfl (by decide +kernel) (by decide) rfl rfl (Nat.le_of_ble_eq_true rfl) (by decide) dX8_addWalker_15 (fun e w1 hq => ?_)
      obtain ⟨rfl, rfl⟩ := hq
      refine j_perm (ws' := [(h, oC 7 [.ref x, .ref y]), (x, aI (Y 0) 271 g), (y, aI (Y 0) 271 (fun _ => 1000))]) [0, 1, 2] rfl rfl ?_
      exact j_st rfl rfl (by rfl) kk_52
    · have hpm := hp
      rw [pC_3 h_54] at hpm
      refine j_callUi (pc := 15) (As := []) (na := 0) (st := []) C [] [0, 1, 2] (wr := [(h, oC 7 [.ref x, .ref y]), (x, aI (Y 0) 271 g), (y, aI (Y 0) 271 (fun _ => 1000))]) (fun l => c_canSin l D Y _ a P (List.mem_append_right _ hp) hP) rfl rfl rfl rfl (by decide) rfl (Or.inr (List.mem_append_right _ hpm)) rfl gX8_addWalker_X5_canSin_u50X0 rfl (by decide +kernel) (by decide) rfl rfl (Nat.le_of_ble_eq_true rfl) (by decide) dX8_addWalker_15 (fun e w1 hq => ?_)
      obtain ⟨rfl, rfl⟩ := hq
      refine j_perm (ws' := [(h, oC 7 [.ref x, .ref y]), (x, aI (Y 0) 271 g), (y, aI (Y 0) 271 (fun _ => 1000))]) [0, 1, 2] rfl rfl ?_
      exact j_st rfl rfl (by rfl) kk_52
