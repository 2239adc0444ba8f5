theorem rB_o {n w np : Int} {ps : Int → PT} (h : n < -54 ∨ 216 < n) : rBounds n w np ps = -102 := by unfold rBounds; rw [if_pos h]
theorem rB_0 {n w np : Int} {ps : Int → PT} (h : ¬ (n < -54 ∨ 216 < n)) (hw : w = 0) : rBounds n w np ps = endI 1 (BQ ps (-1) np n) := by unfold rBounds; rw [if_neg h, if_pos hw]
theorem rB_1 {n w np : Int} {ps : Int → PT} (h : ¬ (n < -54 ∨ 216 < n)) (hw : w = 1) : rBounds n w np ps = endI (-1) (BQ ps (-1) np n) := by unfold rBounds; rw [if_neg h, if_neg (show ¬ w = 0 by omega), if_pos hw]
theorem rB_2 {n w np : Int} {ps : Int → PT} (h : ¬ (n < -54 ∨ 216 < n)) (hw : w = 2) : rBounds n w np ps = if canI ps np n (-1) 0 0 = 0 then 0 else fo (mustF ps np n) np 0 := by unfold rBounds; rw [if_neg h, if_neg (show ¬ w = 0 by omega), if_neg (show ¬ w = 1 by omega), if_pos hw]
theorem rB_3 {n w np : Int} {ps : Int → PT} (h : ¬ (n < -54 ∨ 216 < n)) (hw : w = 3) : rBounds n w np ps = if canI ps np n (-1) 0 0 = 0 then 0 else fo (mayF ps np n) np 0 := by unfold rBounds; rw [if_neg h, if_neg (show ¬ w = 0 by omega), if_neg (show ¬ w = 1 by omega), if_neg (show ¬ w = 2 by omega), if_pos hw]
theorem rB_w {n w np : Int} {ps : Int → PT} (hw : w < 0 ∨ 3 < w) : rBounds n w np ps = -102 := by
  unfold rBounds
  by_cases h : n < -54 ∨ 216 < n
  · rw [if_pos h]
  · rw [if_neg h, if_neg (show ¬ w = 0 by omega), if_neg (show ¬ w = 1 by omega), if_neg (show ¬ w = 2 by omega), if_neg (show ¬ w = 3 by omega)]
theorem rB_3m {n w np : Int} {ps : Int → PT} (hnp : 0 ≤ np ∧ np ≤ 6) (h : ¬ (n < -54 ∨ 216 < n)) (hw : w = 3) : rBounds n w np ps = fo (mayF ps np n) np 0 := by
  rw [rB_3 h hw]
  by_cases q : canI ps np n (-1) 0 0 = 0
  · rw [if_pos q, may_fo (may_none hnp q)]
  · rw [if_neg q]
theorem fX9_bounds_X9 : ∀ w ∈ u_ws RX9 TX9 11, w ∈ wsX9_bounds := j_words [117, 118, 119, 120, 121, 122, 123, 124, 125, 126, 127] (by decide +kernel)
set_option maxHeartbeats 4000000 in
set_option maxRecDepth 100000 in
theorem k_bounds (l : Launch) (D : va_G) (Y : Nat → ClassId) (RO : va_W) (k : Nat → Nat) (nc : Int) (np : Int) (ik : Int) (pad : Int → Nat) (ps : Int → PT) (x : Nat) (y : Nat) (g : Int → Int) (g2 : Int → Int) (n : Int) (w : Int) (ko : ((k 0), oC 8 [.ref (k 1), .ref (k 2), vI nc, .ref (k 3), vI np, .ref (k 4), .ref (k 7), vI ik, .ref (k 10), .ref (k 13), .ref (k 14)]) ∈ RO) (kp : ((k 3), aQ (Y 3) 6 (orow np pad)) ∈ RO) (hpc : ∀ i, 0 ≤ i ∧ i < np → pC (pad i) (ps i) ∈ RO) (hnp : 0 ≤ np ∧ np ≤ 6) (hps : ∀ i, 0 ≤ i ∧ i < np → okP (ps i)) (hn : -2147483648 ≤ n ∧ n ≤ 2147483647) (hw : -2147483648 ≤ w ∧ w ≤ 2147483647) : jMi l yX9_bounds wsX9_bounds { frames := 5, cells := 0, slots := 0, locals := 124 } D Y RO [.ref (k 0), vI n, vI w] [((k 14), oC 7 [.ref x, .ref y]), (x, aI (Y 0) 271 g), (y, aI (Y 0) 271 g2)] (fun e w1 => ∃ (xq yq : Nat) (gq hq : Int → Int), e = rBounds n w np ps ∧ w1 = [((k 14), oC 7 [.ref xq, .ref yq]), (xq, aI (Y 0) 271 gq), (yq, aI (Y 0) 271 hq)]) := by
  refine j_ofi RX9 rfl rfl rfl (Nat.le_of_ble_eq_true rfl) (fun X C Rt => ?_)
  refine j_iload_n (pc := 0) C 1 1 rfl rfl dX9_bounds_0 ?_
  refine j_bipush (pc := 1) (w := (-54)) C rfl dX9_bounds_1 ?_
  refine j_icmp_lt (pc := 3) C 13 rfl (by omega) dX9_bounds_3 (fun h_1p3 => ?_) (fun h_1p3 => ?_)
  · skip
    refine j_bipush (pc := 13) (w := (-102)) C rfl dX9_bounds_13 ?_
    exact Rt _ _ _ _ _ _ (by decide) (by decide) ⟨_, _, _, _, (rB_o (by omega)).symm, rfl⟩ dX9_bounds_15
  · skip
    refine j_iload_n (pc := 6) C 1 1 rfl rfl dX9_bounds_6 ?_
    refine j_sipush (pc := 7) (w := 216) C rfl dX9_bounds_7 ?_
    refine j_icmp_le (pc := 10) C 16 rfl (by omega) dX9_bounds_10 (fun h_2p10 => ?_) (fun h_2p10 => ?_)
    · skip
      refine j_iload_n (pc := 16) C 2 2 rfl rfl dX9_bounds_16 ?_
      rcases (show w = 0 ∨ w = 1 ∨ w = 2 ∨ w = 3 ∨ (w < 0 ∨ 3 < w) by omega) with h_3p17 | h_3p17 | h_3p17 | h_3p17 | h_3p17
      · refine j_tableC (pc := 17) C 0 48 h_3p17 (by decide) rfl rfl dX9_bounds_17 ?_
        refine j_aload_n (pc := 48) C 0 0 rfl rfl dX9_bounds_48 ?_
        refine j_get (pc := 49) C (Or.inr ko) rfl fX9_bounds_X9 10 (by decide) (List.mem_of_getElem? (i := 1) rfl) (Or.inl rfl) rfl dX9_bounds_49 ?_
        refine j_aload_n (pc := 52) C 0 0 rfl rfl dX9_bounds_52 ?_
        refine j_get (pc := 53) C (Or.inr ko) rfl fX9_bounds_X9 3 (by decide) (List.mem_of_getElem? (i := 2) rfl) (Or.inl rfl) rfl dX9_bounds_53 ?_
        refine j_iload_n (pc := 56) C 1 1 rfl rfl dX9_bounds_56 ?_
        refine j_callVi (pc := 57) (As := [.ref (k 3), vI n]) (na := 2) (st := []) C [0, 1, 2] [] (wr := []) (fun l => c_fewestSins l D Y _ (k 14) x y g g2 (k 3) pad np ps n (List.mem_append_right _ kp) (fun i hi => List.mem_append_right _ (hpc i hi)) (by first | assumption | omega) (by first | assumption | omega) (by first | assumption | omega)) rfl rfl rfl rfl (by decide) rfl (Or.inl (List.mem_of_getElem? (i := 0) rfl)) rfl gX9_bounds_X8_fewestSins ⟨rfl, by decide +kernel⟩ (by decide) rfl rfl (Nat.le_of_ble_eq_true rfl) (by decide) dX9_bounds_57 (fun e_4 w_5 h_6 => ?_)
        obtain ⟨xq_7, yq_8, gq_9, hq_10, rfl, rfl⟩ := h_6
        refine j_perm (ws' := [((k 14), oC 7 [.ref xq_7, .ref yq_8]), (xq_7, aI (Y 0) 271 gq_9), (yq_8, aI (Y 0) 271 hq_10)]) [0, 1, 2] rfl rfl ?_
        exact Rt _ _ _ _ _ _ (by decide) (by decide) ⟨_, _, _, _, (rB_0 (by omega) (by omega)).symm, rfl⟩ dX9_bounds_60
      · refine j_tableC (pc := 17) C 1 61 h_3p17 (by decide) rfl rfl dX9_bounds_17 ?_
        refine j_aload_n (pc := 61) C 0 0 rfl rfl dX9_bounds_61 ?_
        refine j_get (pc := 62) C (Or.inr ko) rfl fX9_bounds_X9 10 (by decide) (List.mem_of_getElem? (i := 1) rfl) (Or.inl rfl) rfl dX9_bounds_62 ?_
        refine j_aload_n (pc := 65) C 0 0 rfl rfl dX9_bounds_65 ?_
        refine j_get (pc := 66) C (Or.inr ko) rfl fX9_bounds_X9 3 (by decide) (List.mem_of_getElem? (i := 2) rfl) (Or.inl rfl) rfl dX9_bounds_66 ?_
        refine j_iload_n (pc := 69) C 1 1 rfl rfl dX9_bounds_69 ?_
        refine j_callVi (pc := 70) (As := [.ref (k 3), vI n]) (na := 2) (st := []) C [0, 1, 2] [] (wr := []) (fun l => c_mostSins l D Y _ (k 14) x y g g2 (k 3) pad np ps n (List.mem_append_right _ kp) (fun i hi => List.mem_append_right _ (hpc i hi)) (by first | assumption | omega) (by first | assumption | omega) (by first | assumption | omega)) rfl rfl rfl rfl (by decide) rfl (Or.inl (List.mem_of_getElem? (i := 0) rfl)) rfl gX9_bounds_X8_mostSins ⟨rfl, by decide +kernel⟩ (by decide) rfl rfl (Nat.le_of_ble_eq_true rfl) (by decide) dX9_bounds_70 (fun e_11 w_12 h_13 => ?_)
        obtain ⟨xq_14, yq_15, gq_16, hq_17, rfl, rfl⟩ := h_13
        refine j_perm (ws' := [((k 14), oC 7 [.ref xq_14, .ref yq_15]), (xq_14, aI (Y 0) 271 gq_16), (yq_15, aI (Y 0) 271 hq_17)]) [0, 1, 2] rfl rfl ?_
        exact Rt _ _ _ _ _ _ (by decide) (by decide) ⟨_, _, _, _, (rB_1 (by omega) (by omega)).symm, rfl⟩ dX9_bounds_73
      · refine j_tableC (pc := 17) C 2 74 h_3p17 (by decide) rfl rfl dX9_bounds_17 ?_
        refine j_aload_n (pc := 74) C 0 0 rfl rfl dX9_bounds_74 ?_
        refine j_get (pc := 75) C (Or.inr ko) rfl fX9_bounds_X9 10 (by decide) (List.mem_of_getElem? (i := 1) rfl) (Or.inl rfl) rfl dX9_bounds_75 ?_
        refine j_aload_n (pc := 78) C 0 0 rfl rfl dX9_bounds_78 ?_
        refine j_get (pc := 79) C (Or.inr ko) rfl fX9_bounds_X9 3 (by decide) (List.mem_of_getElem? (i := 2) rfl) (Or.inl rfl) rfl dX9_bounds_79 ?_
        refine j_iload_n (pc := 82) C 1 1 rfl rfl dX9_bounds_82 ?_
        refine j_callVi (pc := 83) (As := [.ref (k 3), vI n]) (na := 2) (st := []) C [0, 1, 2] [] (wr := []) (fun l => c_whoMust l D Y _ (k 14) x y g g2 (k 3) pad np ps n (List.mem_append_right _ kp) (fun i hi => List.mem_append_right _ (hpc i hi)) (by first | assumption | omega) (by first | assumption | omega) (by first | assumption | omega)) rfl rfl rfl rfl (by decide) rfl (Or.inl (List.mem_of_getElem? (i := 0) rfl)) rfl gX9_bounds_X8_whoMust ⟨rfl, by decide +kernel⟩ (by decide) rfl rfl (Nat.le_of_ble_eq_true rfl) (by decide) dX9_bounds_83 (fun e_18 w_19 h_20 => ?_)
        obtain ⟨xq_21, yq_22, gq_23, hq_24, rfl, rfl⟩ := h_20
        refine j_perm (ws' := [((k 14), oC 7 [.ref xq_21, .ref yq_22]), (xq_21, aI (Y 0) 271 gq_23), (yq_22, aI (Y 0) 271 hq_24)]) [0, 1, 2] rfl rfl ?_
        exact Rt _ _ _ _ _ _ (by decide) (by decide) ⟨_, _, _, _, (rB_2 (by omega) (by omega)).symm, rfl⟩ dX9_bounds_86
      · refine j_tableC (pc := 17) C 3 87 h_3p17 (by decide) rfl rfl dX9_bounds_17 ?_
        refine j_aload_n (pc := 87) C 0 0 rfl rfl dX9_bounds_87 ?_
        refine j_get (pc := 88) C (Or.inr ko) rfl fX9_bounds_X9 10 (by decide) (List.mem_of_getElem? (i := 1) rfl) (Or.inl rfl) rfl dX9_bounds_88 ?_
        refine j_aload_n (pc := 91) C 0 0 rfl rfl dX9_bounds_91 ?_
        refine j_get (pc := 92) C (Or.inr ko) rfl fX9_bounds_X9 3 (by decide) (List.mem_of_getElem? (i := 2) rfl) (Or.inl rfl) rfl dX9_bounds_92 ?_
        refine j_iload_n (pc := 95) C 1 1 rfl rfl dX9_bounds_95 ?_
        refine j_callVi (pc := 96) (As := [.ref (k 3), vI n]) (na := 2) (st := []) C [0, 1, 2] [] (wr := []) (fun l => c_whoMay l D Y _ (k 14) x y g g2 (k 3) pad np ps n (List.mem_append_right _ kp) (fun i hi => List.mem_append_right _ (hpc i hi)) (by first | assumption | omega) (by first | assumption | omega) (by first | assumption | omega)) rfl rfl rfl rfl (by decide) rfl (Or.inl (List.mem_of_getElem? (i := 0) rfl)) rfl gX9_bounds_X8_whoMay ⟨rfl, by decide +kernel⟩ (by decide) rfl rfl (Nat.le_of_ble_eq_true rfl) (by decide) dX9_bounds_96 (fun e_25 w_26 h_27 => ?_)
        obtain ⟨xq_28, yq_29, gq_30, hq_31, rfl, rfl⟩ := h_27
        refine j_perm (ws' := [((k 14), oC 7 [.ref xq_28, .ref yq_29]), (xq_28, aI (Y 0) 271 gq_30), (yq_29, aI (Y 0) 271 hq_31)]) [0, 1, 2] rfl rfl ?_
        exact Rt _ _ _ _ _ _ (by decide) (by decide) ⟨_, _, _, _, (rB_3m hnp (by omega) (by omega)).symm, rfl⟩ dX9_bounds_99
      · refine j_tableD (pc := 17) C 100 (by omega) h_3p17 rfl dX9_bounds_17 ?_
        refine j_bipush (pc := 100) (w := (-102)) C rfl dX9_bounds_100 ?_
        exact Rt _ _ _ _ _ _ (by decide) (by decide) ⟨_, _, _, _, (rB_w (by omega)).symm, rfl⟩ dX9_bounds_102
    · skip
      refine j_bipush (pc := 13) (w := (-102)) C rfl dX9_bounds_13 ?_
      exact Rt _ _ _ _ _ _ (by decide) (by decide) ⟨_, _, _, _, (rB_o (by omega)).symm, rfl⟩ dX9_bounds_15
