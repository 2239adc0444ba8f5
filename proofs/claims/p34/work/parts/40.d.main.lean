theorem RAll_keep {t i v : Int} {cs : Int → CT} {al : Int → Int} (h : RAll t cs al) (hi : 3 * t ≤ i) : RAll t cs (up al i v) := by
  intro q q0 q1
  obtain ⟨a, b, c⟩ := h q q0 q1
  refine ⟨?_, ?_, ?_⟩
  · rw [up_ne _ _ _ _ (by omega)]; exact a
  · rw [up_ne _ _ _ _ (by omega)]; exact b
  · rw [up_ne _ _ _ _ (by omega)]; exact c
theorem up_agree2 {o j : Int} {al g : Int → Int} (h : ∀ i : Int, 0 ≤ i → i < j → al (o + i) = g i) : ∀ i : Int, 0 ≤ i → i < j + 1 → up al (o + j) (g j) (o + i) = g i := by
  intro i i0 i1
  by_cases e : i = j
  · rw [e, up_same]
  · rw [up_ne _ _ _ _ (by omega)]; exact h i i0 (by omega)
theorem RAll_new {t : Int} {cs : Int → CT} {C : CT} {al g : Int → Int} (h : RAll t cs al) (hg : RCu C g) (ha : ∀ i : Int, 0 ≤ i → i < 3 → al (3 * t + i) = g i) : RAll (t + 1) (up cs t C) al := by
  intro q q0 q1
  by_cases e : q = t
  · rw [e, up_same]
    refine ⟨?_, (ha 1 (by decide) (by decide)).trans hg.2.1, (ha 2 (by decide) (by decide)).trans hg.2.2⟩
    have := (ha 0 (by decide) (by decide)).trans hg.1
    rwa [show 3 * t + 0 = 3 * t by omega] at this
  · rw [up_ne _ _ _ _ e]
    exact h q q0 (by omega)
theorem told_cu {C : CT} {g : Int → Int} {j : Int} (h : RCu C g) (hj : 0 ≤ j ∧ j < 3) : toldC C j = g j := by
  rcases (show j = 0 ∨ j = 1 ∨ j = 2 by omega) with rfl | rfl | rfl
  · exact h.1.symm
  · exact h.2.1.symm
  · exact h.2.2.symm
theorem LR_0 (v : Int) : LR (setD MS0 v) (fun _ => 0) (fun _ => 0) := ⟨fun j => (by decide : (0 : Int) ≤ 0 ∧ (0 : Int) ≤ 0), ⟨rfl, rfl, rfl, rfl, rfl⟩, Or.inl rfl, fun _ c _ _ => ⟨(by decide : (0 : Int) ≤ 9), fun j _ _ => rfl⟩⟩
theorem fL_law_X9 : ∀ w ∈ u_ws RX9 TX9 11, w ∈ wsL_law := j_words [375, 376, 377, 378, 379, 380, 381, 382, 383, 384, 385] (by decide +kernel)
set_option maxHeartbeats 8000000 in
set_option maxRecDepth 100000 in
theorem law_main (X : jX) (D : va_G) (Y : Nat → ClassId) (b L : Nat) (xs : Nat → Int32) (C : jC X code 23 RL wsL_law room_1 D Y []) (hSc : jSc X b L xs) (hL : L ≤ 3072) (hend : ∀ (kk nn : Nat) (ws : va_W) (lc : List (Nat × Value)), kk ≤ 600000 → nn ≤ 7302250 → jW X 23 kk nn ws lc 1181 [vI 1]) : jW X 23 0 0 [] [(0, .ref b)] 0 [] := by
  refine j_new (pc := 0) (ci := 8) C [.null, .null, vI 0, .null, vI 0, .null, .null, vI 0, .null, .null, .null] rfl fL_law_X9 tyX9_ok (List.mem_of_getElem? (i := 0) rfl) (List.mem_of_getElem? (i := 1) rfl) (List.mem_of_getElem? (i := 2) rfl) (fun j hj => by rcases (show j = 0 ∨ j = 1 ∨ j = 2 ∨ j = 3 ∨ j = 4 ∨ j = 5 ∨ j = 6 ∨ j = 7 ∨ j = 8 ∨ j = 9 ∨ j = 10 by omega) with rfl | rfl | rfl | rfl | rfl | rfl | rfl | rfl | rfl | rfl | rfl <;> rfl) (by decide) dL_law_0 (fun q_1 => ?_)
  refine j_st (ws' := [(q_1, oC 8 [.null, .null, vI 0, .null, vI 0, .null, .null, vI 0, .null, .null, .null])]) rfl rfl rfl ?_
  refine j_dup (pc := 3) C rfl dL_law_3 ?_
  refine j_callIv (pc := 4) (As := []) (na := 0) (st := [.ref q_1]) C [0] [] (wr := []) (fun l => k_init l D Y _ q_1 ) rfl rfl rfl rfl (by decide) rfl gL_law_X9_init (List.mem_of_getElem? (i := 2) rfl) (List.mem_of_getElem? (i := 5) rfl) (List.mem_of_getElem? (i := 6) rfl) rfl (by decide +kernel) (by decide) rfl rfl (Nat.le_of_ble_eq_true rfl) (by decide) dL_law_4 (fun w_3 h_4 => ?_)
  obtain ⟨k, rfl, rfl⟩ := h_4
  refine j_perm (ws' := [((k 0), oC 8 [.ref (k 1), .ref (k 2), vI 0, .ref (k 3), vI 0, .ref (k 4), .ref (k 7), vI 0, .ref (k 10), .ref (k 13), .ref (k 14)]), ((k 1), oC 3 [.ref (k 17), vI 0]), ((k 2), aQ (Y 2) 4 (fun _ => none)), ((k 3), aQ (Y 3) 6 (fun _ => none)), ((k 4), oC 2 [.ref (k 5), .ref (k 6), vI (ms_w MS0), vI (ms_l MS0), vI (ms_s MS0), vI (ms_a MS0), vI (ms_t MS0), vI (ms_p MS0)]), ((k 5), aI (Y 0) 7 (ms_h MS0)), ((k 6), aI (Y 0) 420 (ms_m MS0)), ((k 7), oC 2 [.ref (k 8), .ref (k 9), vI (ms_w MS0), vI (ms_l MS0), vI (ms_s MS0), vI (ms_a MS0), vI (ms_t MS0), vI (ms_p MS0)]), ((k 8), aI (Y 0) 7 (ms_h MS0)), ((k 9), aI (Y 0) 420 (ms_m MS0)), ((k 10), oC 2 [.ref (k 11), .ref (k 12), vI (ms_w MS0), vI (ms_l MS0), vI (ms_s MS0), vI (ms_a MS0), vI (ms_t MS0), vI (ms_p MS0)]), ((k 11), aI (Y 0) 7 (ms_h MS0)), ((k 12), aI (Y 0) 420 (ms_m MS0)), ((k 13), aI (Y 0) 7 (fun _ => 0)), ((k 14), oC 7 [.ref (k 15), .ref (k 16)]), ((k 15), aI (Y 0) 271 (fun _ => 0)), ((k 16), aI (Y 0) 271 (fun _ => 0)), ((k 17), aI (Y 0) 16 (fun _ => 0))]) [0, 1, 2, 3, 4, 5, 6, 7, 8, 9, 10, 11, 12, 13, 14, 15, 16, 17] rfl rfl ?_
  refine j_astore_n (pc := 7) (lc' := [(1, .ref (k 0)), (0, .ref b)]) C 1 rfl (by decide) rfl dL_law_7 ?_
  have hW0 : KWs Y k 0 0 0 MS0 (fun _ => 0) CS0 PS0 (KWl Y k 0 0 0 MS0 MS0 (fun _ => 0) (fun _ => 0) (fun _ => 0) ++ PLW 0 0 (fun _ => 0) (fun _ => 0) CS0 PS0) := ⟨⟨okS_0, (by decide : (0 : Int) ≤ 9999)⟩, by decide, fun i hi => by omega, by decide, fun i hi => by omega, ⟨by decide, fun i h0 h1 => by omega⟩, _, _, _, rfl⟩
  refine j_st (ws' := [] ++ (KWl Y k 0 0 0 MS0 MS0 (fun _ => 0) (fun _ => 0) (fun _ => 0) ++ PLW 0 0 (fun _ => 0) (fun _ => 0) CS0 PS0)) (by unfold KWl; rw [orow_0]; rfl) rfl rfl ?_
  generalize (KWl Y k 0 0 0 MS0 MS0 (fun _ => 0) (fun _ => 0) (fun _ => 0) ++ PLW 0 0 (fun _ => 0) (fun _ => 0) CS0 PS0) = W0 at hW0 ⊢
  refine j_aload_n (pc := 8) C 0 1 rfl rfl dL_law_8 ?_
  refine j_iconst (pc := 9) C dL_law_9 ?_
  refine j_lawSiX (pc := 10) (M0 := []) (PL := W0) (wc := []) (As := [.ref b, vI 0]) (na := 2) (st := []) C [] [] (wr := []) hSc (fun l => l_cell l D Y _ b L xs hL 0 (by first | assumption | omega)) rfl rfl rfl rfl (by decide) rfl gL_law_L_cell (by decide +kernel) (by decide) rfl rfl (Nat.le_of_ble_eq_true rfl) (by decide) dL_law_10 (fun e_5 w_6 h_7 => ?_)
  obtain ⟨ce_5, rfl⟩ := h_7
  refine j_permT (L' := []) [] rfl rfl ?_
  refine j_bipush (pc := 13) (w := 7) C rfl dL_law_13 ?_
  refine j_irem (pc := 15) C (by omega) dL_law_15 ?_
  obtain ⟨np, enp⟩ : ∃ z : Int, (e_5 % 7) = z := ⟨_, rfl⟩
  refine j_st (st' := [vI np]) rfl rfl (congrArg (fun z => vI z :: []) enp) ?_
  have rnp : 0 ≤ np ∧ np ≤ 6 := by omega
  refine j_istore_n (pc := 16) (lc' := [(2, vI np), (1, .ref (k 0)), (0, .ref b)]) C 2 rfl (by decide) rfl dL_law_16 ?_
  refine j_bipush (pc := 17) (w := 30) C rfl dL_law_17 ?_
  refine j_newIT (pc := 19) (m0 := 30) C (by rfl) (by decide) (List.mem_of_getElem? (i := 3) rfl) (by decide) dL_law_19 (fun q_8 => ?_)
  refine j_st (ws' := ([(q_8, aI (Y 0) 30 (fun _ => 0))] ++ W0)) rfl rfl rfl ?_
  refine j_astore_n (pc := 21) (lc' := [(3, .ref q_8), (2, vI np), (1, .ref (k 0)), (0, .ref b)]) C 3 rfl (by decide) rfl dL_law_21 ?_
  refine j_iconst (pc := 22) C dL_law_22 ?_
  refine j_newIT (pc := 23) (m0 := 3) C (by rfl) (by decide) (List.mem_of_getElem? (i := 3) rfl) (by decide) dL_law_23 (fun q_9 => ?_)
  refine j_st (ws' := ([(q_8, aI (Y 0) 30 (fun _ => 0)), (q_9, aI (Y 0) 3 (fun _ => 0))] ++ W0)) rfl rfl rfl ?_
  refine j_astore (pc := 25) (lc' := [(4, .ref q_9), (3, .ref q_8), (2, vI np), (1, .ref (k 0)), (0, .ref b)]) C (by decide) rfl dL_law_25 ?_
  refine j_bipush (pc := 27) (w := 7) C rfl dL_law_27 ?_
  refine j_newIT (pc := 29) (m0 := 7) C (by rfl) (by decide) (List.mem_of_getElem? (i := 3) rfl) (by decide) dL_law_29 (fun q_10 => ?_)
  refine j_st (ws' := ([(q_8, aI (Y 0) 30 (fun _ => 0)), (q_9, aI (Y 0) 3 (fun _ => 0)), (q_10, aI (Y 0) 7 (fun _ => 0))] ++ W0)) rfl rfl rfl ?_
  refine j_astore (pc := 31) (lc' := [(5, .ref q_10), (4, .ref q_9), (3, .ref q_8), (2, vI np), (1, .ref (k 0)), (0, .ref b)]) C (by decide) rfl dL_law_31 ?_
  refine j_bipush (pc := 33) (w := 63) C rfl dL_law_33 ?_
  refine j_newIT (pc := 35) (m0 := 63) C (by rfl) (by decide) (List.mem_of_getElem? (i := 3) rfl) (by decide) dL_law_35 (fun q_11 => ?_)
  refine j_st (ws' := ([(q_8, aI (Y 0) 30 (fun _ => 0)), (q_9, aI (Y 0) 3 (fun _ => 0)), (q_10, aI (Y 0) 7 (fun _ => 0)), (q_11, aI (Y 0) 63 (fun _ => 0))] ++ W0)) rfl rfl rfl ?_
  refine j_astore (pc := 37) (lc' := [(6, .ref q_11), (5, .ref q_10), (4, .ref q_9), (3, .ref q_8), (2, vI np), (1, .ref (k 0)), (0, .ref b)]) C (by decide) rfl dL_law_37 ?_
  refine j_bipush (pc := 39) (w := 7) C rfl dL_law_39 ?_
  refine j_newIT (pc := 41) (m0 := 7) C (by rfl) (by decide) (List.mem_of_getElem? (i := 3) rfl) (by decide) dL_law_41 (fun q_12 => ?_)
  refine j_st (ws' := ([(q_8, aI (Y 0) 30 (fun _ => 0)), (q_9, aI (Y 0) 3 (fun _ => 0)), (q_10, aI (Y 0) 7 (fun _ => 0)), (q_11, aI (Y 0) 63 (fun _ => 0)), (q_12, aI (Y 0) 7 (fun _ => 0))] ++ W0)) rfl rfl rfl ?_
  refine j_astore (pc := 43) (lc' := [(7, .ref q_12), (6, .ref q_11), (5, .ref q_10), (4, .ref q_9), (3, .ref q_8), (2, vI np), (1, .ref (k 0)), (0, .ref b)]) C (by decide) rfl dL_law_43 ?_
  refine j_bipush (pc := 45) (w := 7) C rfl dL_law_45 ?_
  refine j_newIT (pc := 47) (m0 := 7) C (by rfl) (by decide) (List.mem_of_getElem? (i := 3) rfl) (by decide) dL_law_47 (fun q_13 => ?_)
  refine j_st (ws' := ([(q_8, aI (Y 0) 30 (fun _ => 0)), (q_9, aI (Y 0) 3 (fun _ => 0)), (q_10, aI (Y 0) 7 (fun _ => 0)), (q_11, aI (Y 0) 63 (fun _ => 0)), (q_12, aI (Y 0) 7 (fun _ => 0)), (q_13, aI (Y 0) 7 (fun _ => 0))] ++ W0)) rfl rfl rfl ?_
  refine j_astore (pc := 49) (lc' := [(8, .ref q_13), (7, .ref q_12), (6, .ref q_11), (5, .ref q_10), (4, .ref q_9), (3, .ref q_8), (2, vI np), (1, .ref (k 0)), (0, .ref b)]) C (by decide) rfl dL_law_49 ?_
  refine j_bipush (pc := 51) (w := 63) C rfl dL_law_51 ?_
  refine j_newIT (pc := 53) (m0 := 63) C (by rfl) (by decide) (List.mem_of_getElem? (i := 3) rfl) (by decide) dL_law_53 (fun q_14 => ?_)
  refine j_st (ws' := ([(q_8, aI (Y 0) 30 (fun _ => 0)), (q_9, aI (Y 0) 3 (fun _ => 0)), (q_10, aI (Y 0) 7 (fun _ => 0)), (q_11, aI (Y 0) 63 (fun _ => 0)), (q_12, aI (Y 0) 7 (fun _ => 0)), (q_13, aI (Y 0) 7 (fun _ => 0)), (q_14, aI (Y 0) 63 (fun _ => 0))] ++ W0)) rfl rfl rfl ?_
  refine j_astore (pc := 55) (lc' := [(9, .ref q_14), (8, .ref q_13), (7, .ref q_12), (6, .ref q_11), (5, .ref q_10), (4, .ref q_9), (3, .ref q_8), (2, vI np), (1, .ref (k 0)), (0, .ref b)]) C (by decide) rfl dL_law_55 ?_
  refine j_bipush (pc := 57) (w := 7) C rfl dL_law_57 ?_
  refine j_newIT (pc := 59) (m0 := 7) C (by rfl) (by decide) (List.mem_of_getElem? (i := 3) rfl) (by decide) dL_law_59 (fun q_15 => ?_)
  refine j_st (ws' := ([(q_8, aI (Y 0) 30 (fun _ => 0)), (q_9, aI (Y 0) 3 (fun _ => 0)), (q_10, aI (Y 0) 7 (fun _ => 0)), (q_11, aI (Y 0) 63 (fun _ => 0)), (q_12, aI (Y 0) 7 (fun _ => 0)), (q_13, aI (Y 0) 7 (fun _ => 0)), (q_14, aI (Y 0) 63 (fun _ => 0)), (q_15, aI (Y 0) 7 (fun _ => 0))] ++ W0)) rfl rfl rfl ?_
  refine j_astore (pc := 61) (lc' := [(10, .ref q_15), (9, .ref q_14), (8, .ref q_13), (7, .ref q_12), (6, .ref q_11), (5, .ref q_10), (4, .ref q_9), (3, .ref q_8), (2, vI np), (1, .ref (k 0)), (0, .ref b)]) C (by decide) rfl dL_law_61 ?_
  refine j_iconst (pc := 63) C dL_law_63 ?_
  refine j_newLT (pc := 64) (m0 := 1) C (by rfl) (by decide) (List.mem_of_getElem? (i := 4) rfl) (by decide) dL_law_64 (fun q_16 => ?_)
  refine j_st (ws' := ([(q_8, aI (Y 0) 30 (fun _ => 0)), (q_9, aI (Y 0) 3 (fun _ => 0)), (q_10, aI (Y 0) 7 (fun _ => 0)), (q_11, aI (Y 0) 63 (fun _ => 0)), (q_12, aI (Y 0) 7 (fun _ => 0)), (q_13, aI (Y 0) 7 (fun _ => 0)), (q_14, aI (Y 0) 63 (fun _ => 0)), (q_15, aI (Y 0) 7 (fun _ => 0)), (q_16, aL (Y 1) 1 (fun _ => 0))] ++ W0)) rfl rfl rfl ?_
  refine j_astore (pc := 66) (lc' := [(11, .ref q_16), (10, .ref q_15), (9, .ref q_14), (8, .ref q_13), (7, .ref q_12), (6, .ref q_11), (5, .ref q_10), (4, .ref q_9), (3, .ref q_8), (2, vI np), (1, .ref (k 0)), (0, .ref b)]) C (by decide) rfl dL_law_66 ?_
  refine j_iconst (pc := 68) C dL_law_68 ?_
  refine j_newLT (pc := 69) (m0 := 1) C (by rfl) (by decide) (List.mem_of_getElem? (i := 4) rfl) (by decide) dL_law_69 (fun q_17 => ?_)
  refine j_st (ws' := ([(q_8, aI (Y 0) 30 (fun _ => 0)), (q_9, aI (Y 0) 3 (fun _ => 0)), (q_10, aI (Y 0) 7 (fun _ => 0)), (q_11, aI (Y 0) 63 (fun _ => 0)), (q_12, aI (Y 0) 7 (fun _ => 0)), (q_13, aI (Y 0) 7 (fun _ => 0)), (q_14, aI (Y 0) 63 (fun _ => 0)), (q_15, aI (Y 0) 7 (fun _ => 0)), (q_16, aL (Y 1) 1 (fun _ => 0)), (q_17, aL (Y 1) 1 (fun _ => 0))] ++ W0)) rfl rfl rfl ?_
  refine j_astore (pc := 71) (lc' := [(12, .ref q_17), (11, .ref q_16), (10, .ref q_15), (9, .ref q_14), (8, .ref q_13), (7, .ref q_12), (6, .ref q_11), (5, .ref q_10), (4, .ref q_9), (3, .ref q_8), (2, vI np), (1, .ref (k 0)), (0, .ref b)]) C (by decide) rfl dL_law_71 ?_
  refine j_aload (pc := 73) C 1 rfl dL_law_73 ?_
  refine j_iconst (pc := 75) C dL_law_75 ?_
  refine j_aload_n (pc := 76) C 0 12 rfl rfl dL_law_76 ?_
  refine j_bipush (pc := 77) (w := 7) C rfl dL_law_77 ?_
  refine j_lawSiX (pc := 79) (M0 := [(q_8, aI (Y 0) 30 (fun _ => 0)), (q_9, aI (Y 0) 3 (fun _ => 0)), (q_10, aI (Y 0) 7 (fun _ => 0)), (q_11, aI (Y 0) 63 (fun _ => 0)), (q_12, aI (Y 0) 7 (fun _ => 0)), (q_13, aI (Y 0) 7 (fun _ => 0)), (q_14, aI (Y 0) 63 (fun _ => 0)), (q_15, aI (Y 0) 7 (fun _ => 0)), (q_16, aL (Y 1) 1 (fun _ => 0)), (q_17, aL (Y 1) 1 (fun _ => 0))]) (PL := W0) (wc := []) (As := [.ref b, vI 7]) (na := 2) (st := [vI 0, .ref q_16]) C [] [0, 1, 2, 3, 4, 5, 6, 7, 8, 9] (wr := [(q_8, aI (Y 0) 30 (fun _ => 0)), (q_9, aI (Y 0) 3 (fun _ => 0)), (q_10, aI (Y 0) 7 (fun _ => 0)), (q_11, aI (Y 0) 63 (fun _ => 0)), (q_12, aI (Y 0) 7 (fun _ => 0)), (q_13, aI (Y 0) 7 (fun _ => 0)), (q_14, aI (Y 0) 63 (fun _ => 0)), (q_15, aI (Y 0) 7 (fun _ => 0)), (q_16, aL (Y 1) 1 (fun _ => 0)), (q_17, aL (Y 1) 1 (fun _ => 0))]) hSc (fun l => l_cell l D Y _ b L xs hL 7 (by first | assumption | omega)) rfl rfl rfl rfl (by decide) rfl gL_law_L_cell (by decide +kernel) (by decide) rfl rfl (Nat.le_of_ble_eq_true rfl) (by decide) dL_law_79 (fun e_18 w_19 h_20 => ?_)
  obtain ⟨ce_18, rfl⟩ := h_20
  refine j_permT (L' := [(q_8, aI (Y 0) 30 (fun _ => 0)), (q_9, aI (Y 0) 3 (fun _ => 0)), (q_10, aI (Y 0) 7 (fun _ => 0)), (q_11, aI (Y 0) 63 (fun _ => 0)), (q_12, aI (Y 0) 7 (fun _ => 0)), (q_13, aI (Y 0) 7 (fun _ => 0)), (q_14, aI (Y 0) 63 (fun _ => 0)), (q_15, aI (Y 0) 7 (fun _ => 0)), (q_16, aL (Y 1) 1 (fun _ => 0)), (q_17, aL (Y 1) 1 (fun _ => 0))]) [0, 1, 2, 3, 4, 5, 6, 7, 8, 9] rfl rfl ?_
  refine j_i2l (pc := 82) C (by omega) dL_law_82 ?_
  refine j_last (pc := 83) (ws' := ([(q_8, aI (Y 0) 30 (fun _ => 0)), (q_9, aI (Y 0) 3 (fun _ => 0)), (q_10, aI (Y 0) 7 (fun _ => 0)), (q_11, aI (Y 0) 63 (fun _ => 0)), (q_12, aI (Y 0) 7 (fun _ => 0)), (q_13, aI (Y 0) 7 (fun _ => 0)), (q_14, aI (Y 0) 63 (fun _ => 0)), (q_15, aI (Y 0) 7 (fun _ => 0)), (q_16, aL (Y 1) 1 (up (fun _ => 0) 0 e_18)), (q_17, aL (Y 1) 1 (fun _ => 0))] ++ W0)) C 8 rfl rfl (by omega) (by decide) rfl dL_law_83 ?_
  refine j_aload_n (pc := 84) C 1 11 rfl rfl dL_law_84 ?_
  refine j_aload_n (pc := 85) C 0 12 rfl rfl dL_law_85 ?_
  refine j_iconst (pc := 86) C dL_law_86 ?_
  refine j_iload_n (pc := 87) C 2 10 rfl rfl dL_law_87 ?_
  refine j_aload_n (pc := 88) C 0 12 rfl rfl dL_law_88 ?_
  refine j_iconst (pc := 89) C dL_law_89 ?_
  refine j_lawSiX (pc := 90) (M0 := [(q_8, aI (Y 0) 30 (fun _ => 0)), (q_9, aI (Y 0) 3 (fun _ => 0)), (q_10, aI (Y 0) 7 (fun _ => 0)), (q_11, aI (Y 0) 63 (fun _ => 0)), (q_12, aI (Y 0) 7 (fun _ => 0)), (q_13, aI (Y 0) 7 (fun _ => 0)), (q_14, aI (Y 0) 63 (fun _ => 0)), (q_15, aI (Y 0) 7 (fun _ => 0)), (q_16, aL (Y 1) 1 (up (fun _ => 0) 0 e_18)), (q_17, aL (Y 1) 1 (fun _ => 0))]) (PL := W0) (wc := []) (As := [.ref b, vI 0]) (na := 2) (st := [vI np, vI 1, .ref b, .ref (k 0)]) C [] [0, 1, 2, 3, 4, 5, 6, 7, 8, 9] (wr := [(q_8, aI (Y 0) 30 (fun _ => 0)), (q_9, aI (Y 0) 3 (fun _ => 0)), (q_10, aI (Y 0) 7 (fun _ => 0)), (q_11, aI (Y 0) 63 (fun _ => 0)), (q_12, aI (Y 0) 7 (fun _ => 0)), (q_13, aI (Y 0) 7 (fun _ => 0)), (q_14, aI (Y 0) 63 (fun _ => 0)), (q_15, aI (Y 0) 7 (fun _ => 0)), (q_16, aL (Y 1) 1 (up (fun _ => 0) 0 e_18)), (q_17, aL (Y 1) 1 (fun _ => 0))]) hSc (fun l => l_cell l D Y _ b L xs hL 0 (by first | assumption | omega)) rfl rfl rfl rfl (by decide) rfl gL_law_L_cell (by decide +kernel) (by decide) rfl rfl (Nat.le_of_ble_eq_true rfl) (by decide) dL_law_90 (fun e_21 w_22 h_23 => ?_)
  obtain ⟨ce_21, rfl⟩ := h_23
  refine j_permT (L' := [(q_8, aI (Y 0) 30 (fun _ => 0)), (q_9, aI (Y 0) 3 (fun _ => 0)), (q_10, aI (Y 0) 7 (fun _ => 0)), (q_11, aI (Y 0) 63 (fun _ => 0)), (q_12, aI (Y 0) 7 (fun _ => 0)), (q_13, aI (Y 0) 7 (fun _ => 0)), (q_14, aI (Y 0) 63 (fun _ => 0)), (q_15, aI (Y 0) 7 (fun _ => 0)), (q_16, aL (Y 1) 1 (up (fun _ => 0) 0 e_18)), (q_17, aL (Y 1) 1 (fun _ => 0))]) [0, 1, 2, 3, 4, 5, 6, 7, 8, 9] rfl rfl ?_
  refine j_bipush (pc := 93) (w := 8) C rfl dL_law_93 ?_
  refine j_idiv (pc := 95) C (by omega) dL_law_95 ?_
  refine j_iconst (pc := 96) C dL_law_96 ?_
  refine j_irem (pc := 97) C (by omega) dL_law_97 ?_
  have J : ∀ d : Int, 1 ≤ d ∧ d ≤ 9 → jW X 23 28 2084 ([(q_8, aI (Y 0) 30 (fun _ => 0)), (q_9, aI (Y 0) 3 (fun _ => 0)), (q_10, aI (Y 0) 7 (fun _ => 0)), (q_11, aI (Y 0) 63 (fun _ => 0)), (q_12, aI (Y 0) 7 (fun _ => 0)), (q_13, aI (Y 0) 7 (fun _ => 0)), (q_14, aI (Y 0) 63 (fun _ => 0)), (q_15, aI (Y 0) 7 (fun _ => 0)), (q_16, aL (Y 1) 1 (up (fun _ => 0) 0 e_18)), (q_17, aL (Y 1) 1 (fun _ => 0))] ++ W0) [(12, .ref q_17), (11, .ref q_16), (10, .ref q_15), (9, .ref q_14), (8, .ref q_13), (7, .ref q_12), (6, .ref q_11), (5, .ref q_10), (4, .ref q_9), (3, .ref q_8), (2, vI np), (1, .ref (k 0)), (0, .ref b)] 107 [vI d, vI np, vI 1, .ref b, .ref (k 0)] := by
    intro d rd
    refine j_aload_n (pc := 107) C 3 9 rfl rfl dL_law_107 ?_
    refine j_tailSiX (pc := 108) (M0 := [(q_8, aI (Y 0) 30 (fun _ => 0)), (q_9, aI (Y 0) 3 (fun _ => 0)), (q_10, aI (Y 0) 7 (fun _ => 0)), (q_11, aI (Y 0) 63 (fun _ => 0)), (q_12, aI (Y 0) 7 (fun _ => 0)), (q_13, aI (Y 0) 7 (fun _ => 0)), (q_14, aI (Y 0) 63 (fun _ => 0)), (q_15, aI (Y 0) 7 (fun _ => 0)), (q_16, aL (Y 1) 1 (up (fun _ => 0) 0 e_18)), (q_17, aL (Y 1) 1 (fun _ => 0))]) (PL := W0) (wc := [(q_8, aI (Y 0) 30 (fun _ => 0))]) (As := [.ref (k 0), .ref b, vI 1, vI np, vI d, .ref q_8]) (na := 6) (st := []) C [0] [1, 2, 3, 4, 5, 6, 7, 8, 9] (wr := [(q_9, aI (Y 0) 3 (fun _ => 0)), (q_10, aI (Y 0) 7 (fun _ => 0)), (q_11, aI (Y 0) 63 (fun _ => 0)), (q_12, aI (Y 0) 7 (fun _ => 0)), (q_13, aI (Y 0) 7 (fun _ => 0)), (q_14, aI (Y 0) 63 (fun _ => 0)), (q_15, aI (Y 0) 7 (fun _ => 0)), (q_16, aL (Y 1) 1 (up (fun _ => 0) 0 e_18)), (q_17, aL (Y 1) 1 (fun _ => 0))]) hSc (fun l => l_parishes l D Y _ b L xs hL k 0 0 MS0 (fun _ => 0) CS0 PS0 W0 1 np d q_8 (fun _ => 0) hW0 (by first | assumption | omega) (by first | assumption | omega) (by first | assumption | omega)) rfl rfl rfl rfl (by decide) rfl gL_law_L_parishes (by decide +kernel) (by decide) rfl rfl (Nat.le_of_ble_eq_true rfl) (by decide) dL_law_108 (fun e_24 w_25 h_26 => ?_)
    obtain ⟨rfl, g1_27, ps1_28, W1_29, ug1_27, qW1_29, rfl⟩ := h_26
    refine j_st (ws' := [(q_9, aI (Y 0) 3 (fun _ => 0)), (q_10, aI (Y 0) 7 (fun _ => 0)), (q_11, aI (Y 0) 63 (fun _ => 0)), (q_12, aI (Y 0) 7 (fun _ => 0)), (q_13, aI (Y 0) 7 (fun _ => 0)), (q_14, aI (Y 0) 63 (fun _ => 0)), (q_15, aI (Y 0) 7 (fun _ => 0)), (q_16, aL (Y 1) 1 (up (fun _ => 0) 0 e_18)), (q_17, aL (Y 1) 1 (fun _ => 0)), (q_8, aI (Y 0) 30 g1_27)] ++ W1_29) rfl rfl rfl ?_
    refine j_permT (L' := [(q_8, aI (Y 0) 30 g1_27), (q_9, aI (Y 0) 3 (fun _ => 0)), (q_10, aI (Y 0) 7 (fun _ => 0)), (q_11, aI (Y 0) 63 (fun _ => 0)), (q_12, aI (Y 0) 7 (fun _ => 0)), (q_13, aI (Y 0) 7 (fun _ => 0)), (q_14, aI (Y 0) 63 (fun _ => 0)), (q_15, aI (Y 0) 7 (fun _ => 0)), (q_16, aL (Y 1) 1 (up (fun _ => 0) 0 e_18)), (q_17, aL (Y 1) 1 (fun _ => 0))]) [9, 0, 1, 2, 3, 4, 5, 6, 7, 8] rfl rfl ?_
    refine j_if_eq (pc := 111) C 127 rfl (by omega) dL_law_111 (fun h_30 => absurd h_30 (by decide)) (fun _ => ?_)
    refine j_aload_n (pc := 114) C 1 11 rfl rfl dL_law_114 ?_
    refine j_aload (pc := 115) C 1 rfl dL_law_115 ?_
    refine j_iconst (pc := 117) C dL_law_117 ?_
    refine j_lald (pc := 118) C (Or.inl (List.mem_of_getElem? (i := 8) rfl)) rfl (by omega) (by decide) dL_law_118 ?_
    refine j_st (st' := [vL e_18, .ref (k 0)]) rfl rfl (congrArg (fun z => vL z :: [.ref (k 0)]) (up_same _ _ _)) ?_
    refine j_l2i (pc := 119) C dL_law_119 ?_
    refine tc_seed (pc := 120) (st := []) C qW1_29 (by omega) gL_law_X9_seed (by decide) rfl (by decide) dL_law_120 (fun W_31 hW_32 => ?_)
    rw [show (sSeed e_18 MS0) = (setD MS0 e_18) from by unfold sSeed; rw [if_neg (by omega)]] at hW_32
    refine j_st (st' := [vI 1]) rfl rfl (congrArg (fun z => vI z :: []) (show (rSeed e_18 MS0) = 1 from by unfold rSeed; rw [if_neg (by omega)]; first | done | rfl)) ?_
    refine j_iconst (pc := 123) C dL_law_123 ?_
    refine j_icmp_eq (pc := 124) C 129 rfl (by omega) dL_law_124 (fun _ => ?_) (fun h_33 => absurd h_33 (by decide))
    refine j_bipush (pc := 129) (w := 12) C rfl dL_law_129 ?_
    refine j_newIT (pc := 131) (m0 := 12) C (by rfl) (by decide) (List.mem_of_getElem? (i := 3) rfl) (by decide) dL_law_131 (fun q_34 => ?_)
    refine j_st (ws' := ([(q_8, aI (Y 0) 30 g1_27), (q_9, aI (Y 0) 3 (fun _ => 0)), (q_10, aI (Y 0) 7 (fun _ => 0)), (q_11, aI (Y 0) 63 (fun _ => 0)), (q_12, aI (Y 0) 7 (fun _ => 0)), (q_13, aI (Y 0) 7 (fun _ => 0)), (q_14, aI (Y 0) 63 (fun _ => 0)), (q_15, aI (Y 0) 7 (fun _ => 0)), (q_16, aL (Y 1) 1 (up (fun _ => 0) 0 e_18)), (q_17, aL (Y 1) 1 (fun _ => 0)), (q_34, aI (Y 0) 12 (fun _ => 0))] ++ W_31)) rfl rfl rfl ?_
    refine j_astore (pc := 133) (lc' := [(13, .ref q_34), (12, .ref q_17), (11, .ref q_16), (10, .ref q_15), (9, .ref q_14), (8, .ref q_13), (7, .ref q_12), (6, .ref q_11), (5, .ref q_10), (4, .ref q_9), (3, .ref q_8), (2, vI np), (1, .ref (k 0)), (0, .ref b)]) C (by decide) rfl dL_law_133 ?_
    refine j_iconst (pc := 135) C dL_law_135 ?_
    refine j_istore (pc := 136) (lc' := [(14, vI 0), (13, .ref q_34), (12, .ref q_17), (11, .ref q_16), (10, .ref q_15), (9, .ref q_14), (8, .ref q_13), (7, .ref q_12), (6, .ref q_11), (5, .ref q_10), (4, .ref q_9), (3, .ref q_8), (2, vI np), (1, .ref (k 0)), (0, .ref b)]) C (by decide) rfl dL_law_136 ?_
    have hL138 : ∀ (N138 : Nat) (t : Int) (cu : Int → Int) (al : Int → Int) (cs2 : Int → CT) (pg2 : Int → Int) (W2 : va_W) (kk : Nat) (nn : Nat), ((4 - t).toNat) < N138 → (0 ≤ t ∧ t ≤ 4) → (RAll t cs2 al) → (KWs Y k np t 0 (setD MS0 e_18) pg2 cs2 ps1_28 W2) → ((kk : Int) ≤ 100 + t) → ((nn : Int) ≤ 20000 + 3 * t) → jW X 23 kk nn ([(q_8, aI (Y 0) 30 g1_27), (q_9, aI (Y 0) 3 cu), (q_10, aI (Y 0) 7 (fun _ => 0)), (q_11, aI (Y 0) 63 (fun _ => 0)), (q_12, aI (Y 0) 7 (fun _ => 0)), (q_13, aI (Y 0) 7 (fun _ => 0)), (q_14, aI (Y 0) 63 (fun _ => 0)), (q_15, aI (Y 0) 7 (fun _ => 0)), (q_16, aL (Y 1) 1 (up (fun _ => 0) 0 e_18)), (q_17, aL (Y 1) 1 (fun _ => 0)), (q_34, aI (Y 0) 12 al)] ++ W2) [(0, .ref b), (1, .ref (k 0)), (2, vI np), (3, .ref q_8), (4, .ref q_9), (5, .ref q_10), (6, .ref q_11), (7, .ref q_12), (8, .ref q_13), (9, .ref q_14), (10, .ref q_15), (11, .ref q_16), (12, .ref q_17), (13, .ref q_34), (14, vI t)] 138 [] := by
      intro N138
      induction N138 with
      | zero => intro t cu al cs2 pg2 W2 kk nn hm138 i138_0 i138_1 i138_2 i138_3 i138_4; omega
      | succ N138 ih138 =>
        intro t cu al cs2 pg2 W2 kk nn hm138 i138_0 i138_1 i138_2 i138_3 i138_4
        refine j_iload (pc := 138) C 14 rfl dL_law_138 ?_
        refine j_iconst (pc := 140) C dL_law_140 ?_
        refine j_icmp_ge (pc := 141) C 220 rfl (by omega) dL_law_141 (fun h_35p141 => ?_) (fun h_35p141 => ?_)
        · skip
          obtain rfl : t = 4 := by omega
          refine j_st (ws' := ([(q_8, aI (Y 0) 30 g1_27), (q_9, aI (Y 0) 3 cu), (q_10, aI (Y 0) 7 (ms_h (setD MS0 e_18))), (q_11, aI (Y 0) 63 (fun _ => 0)), (q_12, aI (Y 0) 7 (fun _ => 0)), (q_13, aI (Y 0) 7 (fun _ => 0)), (q_14, aI (Y 0) 63 (fun _ => 0)), (q_15, aI (Y 0) 7 (fun _ => 0)), (q_16, aL (Y 1) 1 (up (fun _ => 0) 0 e_18)), (q_17, aL (Y 1) 1 (fun _ => 0)), (q_34, aI (Y 0) 12 al)] ++ W2)) rfl rfl rfl ?_
          refine j_iconst (pc := 220) C dL_law_220 ?_
          refine j_istore (pc := 221) (lc' := [(14, vI 0), (0, .ref b), (1, .ref (k 0)), (2, vI np), (3, .ref q_8), (4, .ref q_9), (5, .ref q_10), (6, .ref q_11), (7, .ref q_12), (8, .ref q_13), (9, .ref q_14), (10, .ref q_15), (11, .ref q_16), (12, .ref q_17), (13, .ref q_34)]) C (by decide) rfl dL_law_221 ?_
          refine j_locals (lc' := [(0, .ref b), (1, .ref (k 0)), (2, vI np), (3, .ref q_8), (4, .ref q_9), (5, .ref q_10), (6, .ref q_11), (7, .ref q_12), (8, .ref q_13), (9, .ref q_14), (10, .ref q_15), (11, .ref q_16), (12, .ref q_17), (13, .ref q_34), (14, vI 0)]) [1, 2, 3, 4, 5, 6, 7, 8, 9, 10, 11, 12, 13, 14, 0] rfl ?_
          exact law_loop X D Y b L xs C hSc hL k q_8 q_9 q_10 q_11 q_12 q_13 q_14 q_15 q_16 q_17 q_34 ug1_27 i138_1 i138_2 (LR_0 e_18) (up_same _ _ _) rfl (Int.le_refl 0) _ _ (by omega) (by omega) hend
        · skip
          refine j_aload_n (pc := 144) C 1 1 rfl rfl dL_law_144 ?_
          refine j_aload_n (pc := 145) C 0 0 rfl rfl dL_law_145 ?_
          refine j_bipush (pc := 146) (w := 8) C rfl dL_law_146 ?_
          refine j_iload (pc := 148) C 14 rfl dL_law_148 ?_
          refine j_iadd (pc := 150) C dL_law_150 ?_
          refine j_lawSiX (pc := 151) (M0 := [(q_8, aI (Y 0) 30 g1_27), (q_9, aI (Y 0) 3 cu), (q_10, aI (Y 0) 7 (fun _ => 0)), (q_11, aI (Y 0) 63 (fun _ => 0)), (q_12, aI (Y 0) 7 (fun _ => 0)), (q_13, aI (Y 0) 7 (fun _ => 0)), (q_14, aI (Y 0) 63 (fun _ => 0)), (q_15, aI (Y 0) 7 (fun _ => 0)), (q_16, aL (Y 1) 1 (up (fun _ => 0) 0 e_18)), (q_17, aL (Y 1) 1 (fun _ => 0)), (q_34, aI (Y 0) 12 al)]) (PL := W2) (wc := []) (As := [.ref b, vI (8 + t)]) (na := 2) (st := [.ref (k 0)]) C [] [0, 1, 2, 3, 4, 5, 6, 7, 8, 9, 10] (wr := [(q_8, aI (Y 0) 30 g1_27), (q_9, aI (Y 0) 3 cu), (q_10, aI (Y 0) 7 (fun _ => 0)), (q_11, aI (Y 0) 63 (fun _ => 0)), (q_12, aI (Y 0) 7 (fun _ => 0)), (q_13, aI (Y 0) 7 (fun _ => 0)), (q_14, aI (Y 0) 63 (fun _ => 0)), (q_15, aI (Y 0) 7 (fun _ => 0)), (q_16, aL (Y 1) 1 (up (fun _ => 0) 0 e_18)), (q_17, aL (Y 1) 1 (fun _ => 0)), (q_34, aI (Y 0) 12 al)]) hSc (fun l => l_cell l D Y _ b L xs hL (8 + t) (by first | assumption | omega)) rfl rfl rfl rfl (by decide) rfl gL_law_L_cell (by decide +kernel) (by decide) rfl rfl (Nat.le_of_ble_eq_true rfl) ⟨show kk + 0 + 0 ≤ 600000 by omega, show nn + 0 + 0 ≤ 7302250 by omega⟩ dL_law_151 (fun e_36 w_37 h_38 => ?_)
          obtain ⟨ce_36, rfl⟩ := h_38
          refine j_permT (L' := [(q_8, aI (Y 0) 30 g1_27), (q_9, aI (Y 0) 3 cu), (q_10, aI (Y 0) 7 (fun _ => 0)), (q_11, aI (Y 0) 63 (fun _ => 0)), (q_12, aI (Y 0) 7 (fun _ => 0)), (q_13, aI (Y 0) 7 (fun _ => 0)), (q_14, aI (Y 0) 63 (fun _ => 0)), (q_15, aI (Y 0) 7 (fun _ => 0)), (q_16, aL (Y 1) 1 (up (fun _ => 0) 0 e_18)), (q_17, aL (Y 1) 1 (fun _ => 0)), (q_34, aI (Y 0) 12 al)]) [0, 1, 2, 3, 4, 5, 6, 7, 8, 9, 10] rfl rfl ?_
          refine j_iload (pc := 154) C 14 rfl dL_law_154 ?_
          refine j_aload (pc := 156) C 4 rfl dL_law_156 ?_
          refine j_tailSi (pc := 158) (M0 := [(q_8, aI (Y 0) 30 g1_27), (q_9, aI (Y 0) 3 cu), (q_10, aI (Y 0) 7 (fun _ => 0)), (q_11, aI (Y 0) 63 (fun _ => 0)), (q_12, aI (Y 0) 7 (fun _ => 0)), (q_13, aI (Y 0) 7 (fun _ => 0)), (q_14, aI (Y 0) 63 (fun _ => 0)), (q_15, aI (Y 0) 7 (fun _ => 0)), (q_16, aL (Y 1) 1 (up (fun _ => 0) 0 e_18)), (q_17, aL (Y 1) 1 (fun _ => 0)), (q_34, aI (Y 0) 12 al)]) (PL := W2) (wc := [(q_9, aI (Y 0) 3 cu)]) (As := [.ref (k 0), vI e_36, vI t, .ref q_9]) (na := 4) (st := []) C [1] [0, 2, 3, 4, 5, 6, 7, 8, 9, 10] (wr := [(q_8, aI (Y 0) 30 g1_27), (q_10, aI (Y 0) 7 (fun _ => 0)), (q_11, aI (Y 0) 63 (fun _ => 0)), (q_12, aI (Y 0) 7 (fun _ => 0)), (q_13, aI (Y 0) 7 (fun _ => 0)), (q_14, aI (Y 0) 63 (fun _ => 0)), (q_15, aI (Y 0) 7 (fun _ => 0)), (q_16, aL (Y 1) 1 (up (fun _ => 0) 0 e_18)), (q_17, aL (Y 1) 1 (fun _ => 0)), (q_34, aI (Y 0) 12 al)]) (fun l => l_custom l D Y _ k np t (setD MS0 e_18) pg2 cs2 ps1_28 W2 e_36 q_9 cu i138_2 (by first | assumption | omega) (by first | assumption | omega)) rfl rfl rfl rfl (by decide) rfl gL_law_L_custom (by decide +kernel) (by decide) rfl rfl (Nat.le_of_ble_eq_true rfl) ⟨show kk + 0 + 1 ≤ 600000 by omega, show nn + 0 + 3 ≤ 7302250 by omega⟩ dL_law_158 (fun e_39 w_40 h_41 => ?_)
          obtain ⟨rfl, g1_42, C1_43, pg1_44, W1_45, ug1_42, oC1_43, qW1_45, rfl⟩ := h_41
          refine j_st (ws' := [(q_8, aI (Y 0) 30 g1_27), (q_10, aI (Y 0) 7 (fun _ => 0)), (q_11, aI (Y 0) 63 (fun _ => 0)), (q_12, aI (Y 0) 7 (fun _ => 0)), (q_13, aI (Y 0) 7 (fun _ => 0)), (q_14, aI (Y 0) 63 (fun _ => 0)), (q_15, aI (Y 0) 7 (fun _ => 0)), (q_16, aL (Y 1) 1 (up (fun _ => 0) 0 e_18)), (q_17, aL (Y 1) 1 (fun _ => 0)), (q_34, aI (Y 0) 12 al), (q_9, aI (Y 0) 3 g1_42)] ++ W1_45) rfl rfl rfl ?_
          refine j_permT (L' := [(q_8, aI (Y 0) 30 g1_27), (q_9, aI (Y 0) 3 g1_42), (q_10, aI (Y 0) 7 (fun _ => 0)), (q_11, aI (Y 0) 63 (fun _ => 0)), (q_12, aI (Y 0) 7 (fun _ => 0)), (q_13, aI (Y 0) 7 (fun _ => 0)), (q_14, aI (Y 0) 63 (fun _ => 0)), (q_15, aI (Y 0) 7 (fun _ => 0)), (q_16, aL (Y 1) 1 (up (fun _ => 0) 0 e_18)), (q_17, aL (Y 1) 1 (fun _ => 0)), (q_34, aI (Y 0) 12 al)]) [0, 10, 1, 2, 3, 4, 5, 6, 7, 8, 9] rfl rfl ?_
          refine j_if_ne (pc := 161) C 166 rfl (by omega) dL_law_161 (fun _ => ?_) (fun h_46 => absurd h_46 (by decide))
          refine j_iconst (pc := 166) C dL_law_166 ?_
          refine j_istore (pc := 167) (lc' := [(15, vI 0), (0, .ref b), (1, .ref (k 0)), (2, vI np), (3, .ref q_8), (4, .ref q_9), (5, .ref q_10), (6, .ref q_11), (7, .ref q_12), (8, .ref q_13), (9, .ref q_14), (10, .ref q_15), (11, .ref q_16), (12, .ref q_17), (13, .ref q_34), (14, vI t)]) C (by decide) rfl dL_law_167 ?_
          have hL169 : ∀ (N169 : Nat) (j : Int) (al2 : Int → Int) (W3 : va_W), ((3 - j).toNat) < N169 → (0 ≤ j ∧ j ≤ 3) → (RAll t cs2 al2 ∧ ∀ i : Int, 0 ≤ i → i < j → al2 (3 * t + i) = g1_42 i) → (KWs Y k np (t + 1) 0 (setD MS0 e_18) pg1_44 (up cs2 t C1_43) ps1_28 W3) → jW X 23 (kk + 1) (nn + 3) ([(q_8, aI (Y 0) 30 g1_27), (q_9, aI (Y 0) 3 g1_42), (q_10, aI (Y 0) 7 (fun _ => 0)), (q_11, aI (Y 0) 63 (fun _ => 0)), (q_12, aI (Y 0) 7 (fun _ => 0)), (q_13, aI (Y 0) 7 (fun _ => 0)), (q_14, aI (Y 0) 63 (fun _ => 0)), (q_15, aI (Y 0) 7 (fun _ => 0)), (q_16, aL (Y 1) 1 (up (fun _ => 0) 0 e_18)), (q_17, aL (Y 1) 1 (fun _ => 0)), (q_34, aI (Y 0) 12 al2)] ++ W3) [(0, .ref b), (1, .ref (k 0)), (2, vI np), (3, .ref q_8), (4, .ref q_9), (5, .ref q_10), (6, .ref q_11), (7, .ref q_12), (8, .ref q_13), (9, .ref q_14), (10, .ref q_15), (11, .ref q_16), (12, .ref q_17), (13, .ref q_34), (14, vI t), (15, vI j)] 169 [] := by
            intro N169
            induction N169 with
            | zero => intro j al2 W3 hm169 i169_0 i169_1 i169_2; omega
            | succ N169 ih169 =>
              intro j al2 W3 hm169 i169_0 i169_1 i169_2
              refine j_iload (pc := 169) C 15 rfl dL_law_169 ?_
              refine j_iconst (pc := 171) C dL_law_171 ?_
              refine j_icmp_ge (pc := 172) C 214 rfl (by omega) dL_law_172 (fun h_47p172 => ?_) (fun h_47p172 => ?_)
              · skip
                have hALn := RAll_new i169_1.1 ug1_42 (fun i i0 i1 => i169_1.2 i i0 (by omega))
                refine j_iinc (pc := 214) (lc' := [(14, vI (t + 1)), (0, .ref b), (1, .ref (k 0)), (2, vI np), (3, .ref q_8), (4, .ref q_9), (5, .ref q_10), (6, .ref q_11), (7, .ref q_12), (8, .ref q_13), (9, .ref q_14), (10, .ref q_15), (11, .ref q_16), (12, .ref q_17), (13, .ref q_34), (15, vI j)]) C 14 rfl (by decide) rfl dL_law_214 ?_
                refine j_goto (pc := 217) C 138 rfl dL_law_217 ?_
                refine j_locals (lc' := [(0, .ref b), (1, .ref (k 0)), (2, vI np), (3, .ref q_8), (4, .ref q_9), (5, .ref q_10), (6, .ref q_11), (7, .ref q_12), (8, .ref q_13), (9, .ref q_14), (10, .ref q_15), (11, .ref q_16), (12, .ref q_17), (13, .ref q_34), (14, vI (t + 1))]) [1, 2, 3, 4, 5, 6, 7, 8, 9, 10, 11, 12, 13, 14, 0] rfl ?_
                exact ih138 (t + 1) g1_42 al2 (up cs2 t C1_43) pg1_44 W3 (kk + 1) (nn + 3) (by omega) (by omega) hALn i169_2 (by omega) (by omega)
              · skip
                refine j_aload (pc := 175) C 13 rfl dL_law_175 ?_
                refine j_iconst (pc := 177) C dL_law_177 ?_
                refine j_iload (pc := 178) C 14 rfl dL_law_178 ?_
                refine j_imul (pc := 180) C dL_law_180 ?_
                refine j_iload (pc := 181) C 15 rfl dL_law_181 ?_
                refine j_iadd (pc := 183) C dL_law_183 ?_
                refine j_aload (pc := 184) C 4 rfl dL_law_184 ?_
                refine j_iload (pc := 186) C 15 rfl dL_law_186 ?_
                refine j_iald (pc := 188) C (Or.inl (List.mem_of_getElem? (i := 1) rfl)) rfl (by omega) (by decide) dL_law_188 ?_
                refine j_iast (pc := 189) (ws' := ([(q_8, aI (Y 0) 30 g1_27), (q_9, aI (Y 0) 3 g1_42), (q_10, aI (Y 0) 7 (fun _ => 0)), (q_11, aI (Y 0) 63 (fun _ => 0)), (q_12, aI (Y 0) 7 (fun _ => 0)), (q_13, aI (Y 0) 7 (fun _ => 0)), (q_14, aI (Y 0) 63 (fun _ => 0)), (q_15, aI (Y 0) 7 (fun _ => 0)), (q_16, aL (Y 1) 1 (up (fun _ => 0) 0 e_18)), (q_17, aL (Y 1) 1 (fun _ => 0)), (q_34, aI (Y 0) 12 (up al2 ((3 * t) + j) (g1_42 j)))] ++ W3)) C 10 rfl rfl (by omega) (by decide) rfl dL_law_189 ?_
                refine j_aload_n (pc := 190) C 1 1 rfl rfl dL_law_190 ?_
                refine j_iload (pc := 191) C 14 rfl dL_law_191 ?_
                refine j_iload (pc := 193) C 15 rfl dL_law_193 ?_
                refine tc_customTold (pc := 195) (st := []) C i169_2 (by omega) (by omega) gL_law_X9_customTold (by decide) rfl ⟨show kk + 1 + 0 ≤ 600000 by omega, show nn + 3 + 0 ≤ 7302250 by omega⟩ dL_law_195 (fun W_48 hW_49 => ?_)
                refine j_st (st' := [vI (g1_42 j)]) rfl rfl (congrArg (fun z => vI z :: []) (show (rCusTold t j (t + 1) (up cs2 t C1_43)) = g1_42 j from by unfold rCusTold; rw [if_neg (by omega), if_neg (by omega), up_same]; exact told_cu ug1_42 (by omega))) ?_
                refine j_aload (pc := 198) C 4 rfl dL_law_198 ?_
                refine j_iload (pc := 200) C 15 rfl dL_law_200 ?_
                refine j_iald (pc := 202) C (Or.inl (List.mem_of_getElem? (i := 1) rfl)) rfl (by omega) (by decide) dL_law_202 ?_
                refine j_icmpSe (pc := 203) C 208 rfl dL_law_203 ?_
                refine j_iinc (pc := 208) (lc' := [(15, vI (j + 1)), (0, .ref b), (1, .ref (k 0)), (2, vI np), (3, .ref q_8), (4, .ref q_9), (5, .ref q_10), (6, .ref q_11), (7, .ref q_12), (8, .ref q_13), (9, .ref q_14), (10, .ref q_15), (11, .ref q_16), (12, .ref q_17), (13, .ref q_34), (14, vI t)]) C 15 rfl (by decide) rfl dL_law_208 ?_
                refine j_goto (pc := 211) C 169 rfl dL_law_211 ?_
                refine j_locals (lc' := [(0, .ref b), (1, .ref (k 0)), (2, vI np), (3, .ref q_8), (4, .ref q_9), (5, .ref q_10), (6, .ref q_11), (7, .ref q_12), (8, .ref q_13), (9, .ref q_14), (10, .ref q_15), (11, .ref q_16), (12, .ref q_17), (13, .ref q_34), (14, vI t), (15, vI (j + 1))]) [1, 2, 3, 4, 5, 6, 7, 8, 9, 10, 11, 12, 13, 14, 15, 0] rfl ?_
                exact ih169 (j + 1) (up al2 ((3 * t) + j) (g1_42 j)) W_48 (by omega) (by omega) ⟨RAll_keep i169_1.1 (by omega), up_agree2 i169_1.2⟩ hW_49
          refine j_locals (lc' := [(0, .ref b), (1, .ref (k 0)), (2, vI np), (3, .ref q_8), (4, .ref q_9), (5, .ref q_10), (6, .ref q_11), (7, .ref q_12), (8, .ref q_13), (9, .ref q_14), (10, .ref q_15), (11, .ref q_16), (12, .ref q_17), (13, .ref q_34), (14, vI t), (15, vI 0)]) [1, 2, 3, 4, 5, 6, 7, 8, 9, 10, 11, 12, 13, 14, 15, 0] rfl ?_
          exact hL169 _ 0 al W1_45 (Nat.lt_succ_self _) (by omega) ⟨i138_1, fun i i0 i1 => by omega⟩ qW1_45
    refine j_locals (lc' := [(0, .ref b), (1, .ref (k 0)), (2, vI np), (3, .ref q_8), (4, .ref q_9), (5, .ref q_10), (6, .ref q_11), (7, .ref q_12), (8, .ref q_13), (9, .ref q_14), (10, .ref q_15), (11, .ref q_16), (12, .ref q_17), (13, .ref q_34), (14, vI 0)]) [14, 13, 12, 11, 10, 9, 8, 7, 6, 5, 4, 3, 2, 1, 0] rfl ?_
    exact hL138 _ 0 (fun _ => 0) (fun _ => 0) CS0 (fun _ => 0) W_31 35 2120 (Nat.lt_succ_self _) (by omega) (fun t t0 t1 => by omega) hW_32 (by omega) (by omega)
  refine j_if_ne (pc := 98) C 106 rfl (by omega) dL_law_98 (fun h_50p98 => ?_) (fun h_50p98 => ?_)
  · skip
    refine j_iconst (pc := 106) C dL_law_106 ?_
    exact J 2 (by omega)
  · skip
    refine j_bipush (pc := 101) (w := 9) C rfl dL_law_101 ?_
    refine j_goto (pc := 103) C 107 rfl dL_law_103 ?_
    exact J 9 (by omega)
