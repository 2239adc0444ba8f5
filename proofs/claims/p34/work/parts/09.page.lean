set_option maxHeartbeats 4000000 in
set_option maxRecDepth 100000 in
theorem c_codeAt (l : Launch) (D : va_G) (Y : Nat → ClassId) (RO : va_W) (w : Int) (i : Int)  (hi : 0 ≤ i ∧ i < 8) : jMi l yX4_codeAt wsX4_codeAt { frames := 0, cells := 0, slots := 0, locals := 0 } D Y RO [vL w, vI i] [] (fun e w1 => e = codeW w i ∧ w1 = []) := by
  refine j_ofi RX4 rfl rfl rfl (Nat.le_of_ble_eq_true rfl) (fun X C Rt => ?_)
  refine j_lload_n (pc := 0) C 0 0 rfl rfl dX4_codeAt_0 ?_
  refine j_bipush (pc := 1) (w := 8) C rfl dX4_codeAt_1 ?_
  refine j_iload_n (pc := 3) C 2 1 rfl rfl dX4_codeAt_3 ?_
  refine j_imul (pc := 4) C dX4_codeAt_4 ?_
  refine j_lushr (pc := 5) C dX4_codeAt_5 ?_
  refine j_ldc2 (pc := 6) (w := 255) C (List.mem_of_getElem? (i := 1) rfl) dX4_codeAt_6 ?_
  refine j_land (pc := 9) C dX4_codeAt_9 ?_
  rw [cW_u hi]
  refine j_l2i (pc := 10) C dX4_codeAt_10 ?_
  exact Rt _ _ _ _ _ _ (by decide) (by decide) ⟨rfl, rfl⟩ dX4_codeAt_11

set_option maxHeartbeats 4000000 in
set_option maxRecDepth 100000 in
theorem c_lettersIn (l : Launch) (D : va_G) (Y : Nat → ClassId) (RO : va_W) (w : Int)   : jMi l yX4_lettersIn wsX4_lettersIn { frames := 1, cells := 0, slots := 0, locals := 22 } D Y RO [vL w] [] (fun e w1 => e = lnI w ∧ w1 = []) := by
  refine j_ofi RX4 rfl rfl rfl (Nat.le_of_ble_eq_true rfl) (fun X C Rt => ?_)
  refine j_iconst (pc := 0) C dX4_lettersIn_0 ?_
  refine j_istore_n (pc := 1) (lc' := [(2, vI 0), (0, vL w)]) C 2 rfl (by decide) rfl dX4_lettersIn_1 ?_
  refine j_iconst (pc := 2) C dX4_lettersIn_2 ?_
  refine j_istore_n (pc := 3) (lc' := [(3, vI 0), (2, vI 0), (0, vL w)]) C 3 rfl (by decide) rfl dX4_lettersIn_3 ?_
  have hL4 : ∀ (N4 : Nat) (m : Int) (i : Int), ((8 - i).toNat) < N4 → (0 ≤ i ∧ i ≤ 8) → (0 ≤ m ∧ m ≤ i) → (fo (lnF w) i 0 = m) → jW X 5 0 0 [] [(0, vL w), (2, vI m), (3, vI i)] 4 [] := by
    intro N4
    induction N4 with
    | zero => intro m i hm4 i4_0 i4_1 i4_2; omega
    | succ N4 ih4 =>
      intro m i hm4 i4_0 i4_1 i4_2
      refine j_iload_n (pc := 4) C 3 2 rfl rfl dX4_lettersIn_4 ?_
      refine j_bipush (pc := 5) (w := 8) C rfl dX4_lettersIn_5 ?_
      refine j_icmp_ge (pc := 7) C 50 rfl (by omega) dX4_lettersIn_7 (fun h_1p7 => ?_) (fun h_1p7 => ?_)
      · skip
        refine j_iload_n (pc := 50) C 2 1 rfl rfl dX4_lettersIn_50 ?_
        exact Rt _ _ _ _ _ _ (by decide) (by decide) ⟨by rw [← i4_2, show i = 8 by omega]; rfl, rfl⟩ dX4_lettersIn_51
      · skip
        refine j_lload_n (pc := 10) C 0 0 rfl rfl dX4_lettersIn_10 ?_
        refine j_iload_n (pc := 11) C 3 2 rfl rfl dX4_lettersIn_11 ?_
        refine j_callSi (pc := 12) (As := [vL w, vI i]) (na := 2) (st := []) C [] [] (wr := []) (fun l => c_codeAt l D Y _ w i (by first | assumption | omega)) rfl rfl rfl rfl (by decide) rfl gX4_lettersIn_X4_codeAt (by decide +kernel) (by decide) rfl rfl (Nat.le_of_ble_eq_true rfl) (by decide) dX4_lettersIn_12 (fun e_2 w_3 h_4 => ?_)
        obtain ⟨rfl, rfl⟩ := h_4
        refine j_perm (ws' := []) [] rfl rfl ?_
        have hcw := codeW_in w i
        refine j_istore (pc := 15) (lc' := [(4, vI (codeW w i)), (0, vL w), (2, vI m), (3, vI i)]) C (by decide) rfl dX4_lettersIn_15 ?_
        refine j_iload (pc := 17) C 0 rfl dX4_lettersIn_17 ?_
        refine j_bipush (pc := 19) (w := 126) C rfl dX4_lettersIn_19 ?_
        refine j_icmp_gt (pc := 21) C 34 rfl (by omega) dX4_lettersIn_21 (fun h_5p21 => ?_) (fun h_5p21 => ?_)
        · skip
          refine j_iconst (pc := 34) C dX4_lettersIn_34 ?_
          exact Rt _ _ _ _ _ _ (by decide) (by decide) ⟨(ln_bad (by omega) i4_2 (by omega)).symm, rfl⟩ dX4_lettersIn_35
        · skip
          refine j_iload (pc := 24) C 0 rfl dX4_lettersIn_24 ?_
          refine j_if_eq (pc := 26) C 36 rfl (by omega) dX4_lettersIn_26 (fun h_6p26 => ?_) (fun h_6p26 => ?_)
          · skip
            refine j_iload (pc := 36) C 0 rfl dX4_lettersIn_36 ?_
            refine j_if_eq (pc := 38) C 44 rfl (by omega) dX4_lettersIn_38 (fun h_7p38 => ?_) (fun h_7p38 => ?_)
            · skip
              refine j_iinc (pc := 44) (lc' := [(3, vI (i + 1)), (4, vI (codeW w i)), (0, vL w), (2, vI m)]) C 3 rfl (by decide) rfl dX4_lettersIn_44 ?_
              refine j_goto (pc := 47) C 4 rfl dX4_lettersIn_47 ?_
              refine j_locals (lc' := [(0, vL w), (2, vI m), (3, vI (i + 1))]) [2, 3, 0] rfl ?_
              exact ih4 m (i + 1) (by omega) (by omega) (by omega) (by first | (exfalso; omega) | (rw [ln_step (by omega) (by omega) i4_2 (by omega)]; first | rw [if_pos (by omega)] | rw [if_neg (by omega)]))
            · skip
              refine j_iinc (pc := 41) (lc' := [(2, vI (m + 1)), (4, vI (codeW w i)), (0, vL w), (3, vI i)]) C 2 rfl (by decide) rfl dX4_lettersIn_41 ?_
              refine j_iinc (pc := 44) (lc' := [(3, vI (i + 1)), (2, vI (m + 1)), (4, vI (codeW w i)), (0, vL w)]) C 3 rfl (by decide) rfl dX4_lettersIn_44 ?_
              refine j_goto (pc := 47) C 4 rfl dX4_lettersIn_47 ?_
              refine j_locals (lc' := [(0, vL w), (2, vI (m + 1)), (3, vI (i + 1))]) [3, 1, 0] rfl ?_
              exact ih4 (m + 1) (i + 1) (by omega) (by omega) (by omega) (by first | (exfalso; omega) | (rw [ln_step (by omega) (by omega) i4_2 (by omega)]; first | rw [if_pos (by omega)] | rw [if_neg (by omega)]))
          · skip
            refine j_iload_n (pc := 29) C 2 2 rfl rfl dX4_lettersIn_29 ?_
            refine j_iload_n (pc := 30) C 3 3 rfl rfl dX4_lettersIn_30 ?_
            refine j_icmp_ge (pc := 31) C 36 rfl (by omega) dX4_lettersIn_31 (fun h_8p31 => ?_) (fun h_8p31 => ?_)
            · skip
              refine j_iload (pc := 36) C 0 rfl dX4_lettersIn_36 ?_
              refine j_if_eq (pc := 38) C 44 rfl (by omega) dX4_lettersIn_38 (fun h_9p38 => ?_) (fun h_9p38 => ?_)
              · skip
                refine j_iinc (pc := 44) (lc' := [(3, vI (i + 1)), (4, vI (codeW w i)), (0, vL w), (2, vI m)]) C 3 rfl (by decide) rfl dX4_lettersIn_44 ?_
                refine j_goto (pc := 47) C 4 rfl dX4_lettersIn_47 ?_
                refine j_locals (lc' := [(0, vL w), (2, vI m), (3, vI (i + 1))]) [2, 3, 0] rfl ?_
                exact ih4 m (i + 1) (by omega) (by omega) (by omega) (by first | (exfalso; omega) | (rw [ln_step (by omega) (by omega) i4_2 (by omega)]; first | rw [if_pos (by omega)] | rw [if_neg (by omega)]))
              · skip
                refine j_iinc (pc := 41) (lc' := [(2, vI (m + 1)), (4, vI (codeW w i)), (0, vL w), (3, vI i)]) C 2 rfl (by decide) rfl dX4_lettersIn_41 ?_
                refine j_iinc (pc := 44) (lc' := [(3, vI (i + 1)), (2, vI (m + 1)), (4, vI (codeW w i)), (0, vL w)]) C 3 rfl (by decide) rfl dX4_lettersIn_44 ?_
                refine j_goto (pc := 47) C 4 rfl dX4_lettersIn_47 ?_
                refine j_locals (lc' := [(0, vL w), (2, vI (m + 1)), (3, vI (i + 1))]) [3, 1, 0] rfl ?_
                exact ih4 (m + 1) (i + 1) (by omega) (by omega) (by omega) (by first | (exfalso; omega) | (rw [ln_step (by omega) (by omega) i4_2 (by omega)]; first | rw [if_pos (by omega)] | rw [if_neg (by omega)]))
            · skip
              refine j_iconst (pc := 34) C dX4_lettersIn_34 ?_
              exact Rt _ _ _ _ _ _ (by decide) (by decide) ⟨(ln_bad (by omega) i4_2 (by omega)).symm, rfl⟩ dX4_lettersIn_35
  refine j_locals (lc' := [(0, vL w), (2, vI 0), (3, vI 0)]) [2, 1, 0] rfl ?_
  exact hL4 _ 0 0 (Nat.lt_succ_self _) (by omega) (by omega) rfl

theorem fX4_write_X4 : ∀ w ∈ u_ws RX4 TX4 2, w ∈ wsX4_write := j_words [8, 9] (by decide +kernel)
set_option maxHeartbeats 4000000 in
set_option maxRecDepth 100000 in
theorem c_write (l : Launch) (D : va_G) (Y : Nat → ClassId) (RO : va_W) (h : Nat) (hc : Nat) (pg : Int → Int) (pl : Int) (w : Int) (n : Int)  (hn : 0 ≤ n ∧ n ≤ 8) (hp : 0 ≤ pl ∧ pl + n ≤ 16) : jMv l yX4_write wsX4_write { frames := 1, cells := 0, slots := 0, locals := 22 } D Y RO [.ref h, vL w, vI n] [(h, oC 3 [.ref hc, vI pl]), (hc, aI (Y 0) 16 pg)] (fun w1 => w1 = [(h, oC 3 [.ref hc, vI (pl + n)]), (hc, aI (Y 0) 16 (wrI w pl n pg))]) := by
  refine j_ofv RX4 rfl rfl rfl (Nat.le_of_ble_eq_true rfl) (fun X C Rt hI => ?_)
  refine j_iconst (pc := 0) C dX4_write_0 ?_
  refine j_istore (pc := 1) (lc' := [(4, vI 0), (0, .ref h), (1, vL w), (3, vI n)]) C (by decide) rfl dX4_write_1 ?_
  have hL3 : ∀ (N3 : Nat) (i : Int) (e : Int) (z : Int → Int), ((n - i).toNat) < N3 → (0 ≤ i ∧ i ≤ n) → (e = pl + i) → (z = wrI w pl i pg) → jW X 5 0 0 [(h, oC 3 [.ref hc, vI e]), (hc, aI (Y 0) 16 z)] [(0, .ref h), (1, vL w), (3, vI n), (4, vI i)] 3 [] := by
    intro N3
    induction N3 with
    | zero => intro i e z hm3 i3_0 i3_1 i3_2; omega
    | succ N3 ih3 =>
      intro i e z hm3 i3_0 i3_1 i3_2
      refine j_iload (pc := 3) C 3 rfl dX4_write_3 ?_
      refine j_iload_n (pc := 5) C 3 2 rfl rfl dX4_write_5 ?_
      refine j_icmp_ge (pc := 6) C 56 rfl (by omega) dX4_write_6 (fun h_1p6 => ?_) (fun h_1p6 => ?_)
      · skip
        exact Rt _ _ _ _ _ (by decide) (by decide) (by first | (exfalso; omega) | rw [show n = i by omega, i3_1, i3_2]) dX4_write_56
      · skip
        refine j_aload_n (pc := 9) C 0 0 rfl rfl dX4_write_9 ?_
        refine j_get (pc := 10) C (Or.inl (List.mem_of_getElem? (i := 0) rfl)) rfl fX4_write_X4 1 (by decide) (List.mem_of_getElem? (i := 1) rfl) (Or.inl rfl) rfl dX4_write_10 ?_
        refine j_if_lt (pc := 13) C 56 rfl (by omega) dX4_write_13 (fun h_2p13 => ?_) (fun h_2p13 => ?_)
        · skip
          exact Rt _ _ _ _ _ (by decide) (by decide) (by first | (exfalso; omega) | rw [show n = i by omega, i3_1, i3_2]) dX4_write_56
        · skip
          refine j_aload_n (pc := 16) C 0 0 rfl rfl dX4_write_16 ?_
          refine j_get (pc := 17) C (Or.inl (List.mem_of_getElem? (i := 0) rfl)) rfl fX4_write_X4 1 (by decide) (List.mem_of_getElem? (i := 1) rfl) (Or.inl rfl) rfl dX4_write_17 ?_
          refine j_bipush (pc := 20) (w := 16) C rfl dX4_write_20 ?_
          refine j_icmp_ge (pc := 22) C 56 rfl (by omega) dX4_write_22 (fun h_3p22 => ?_) (fun h_3p22 => ?_)
          · skip
            exact Rt _ _ _ _ _ (by decide) (by decide) (by first | (exfalso; omega) | rw [show n = i by omega, i3_1, i3_2]) dX4_write_56
          · skip
            refine j_aload_n (pc := 25) C 0 0 rfl rfl dX4_write_25 ?_
            refine j_get (pc := 26) C (Or.inl (List.mem_of_getElem? (i := 0) rfl)) rfl fX4_write_X4 0 (by decide) (List.mem_of_getElem? (i := 2) rfl) (Or.inl rfl) rfl dX4_write_26 ?_
            refine j_aload_n (pc := 29) C 0 0 rfl rfl dX4_write_29 ?_
            refine j_get (pc := 30) C (Or.inl (List.mem_of_getElem? (i := 0) rfl)) rfl fX4_write_X4 1 (by decide) (List.mem_of_getElem? (i := 1) rfl) (Or.inl rfl) rfl dX4_write_30 ?_
            refine j_lload_n (pc := 33) C 1 1 rfl rfl dX4_write_33 ?_
            refine j_iload (pc := 34) C 3 rfl dX4_write_34 ?_
            refine j_callSi (pc := 36) (As := [vL w, vI i]) (na := 2) (st := [vI e, .ref hc]) C [] [0, 1] (wr := [(h, oC 3 [.ref hc, vI e]), (hc, aI (Y 0) 16 z)]) (fun l => c_codeAt l D Y _ w i (by first | assumption | omega)) rfl rfl rfl rfl (by decide) rfl gX4_write_X4_codeAt (by decide +kernel) (by decide) rfl rfl (Nat.le_of_ble_eq_true rfl) (by decide) dX4_write_36 (fun e_4 w_5 h_6 => ?_)
            obtain ⟨rfl, rfl⟩ := h_6
            refine j_perm (ws' := [(h, oC 3 [.ref hc, vI e]), (hc, aI (Y 0) 16 z)]) [0, 1] rfl rfl ?_
            refine j_iast (pc := 39) (ws' := [(h, oC 3 [.ref hc, vI e]), (hc, aI (Y 0) 16 (up z e (codeW w i)))]) C 1 rfl rfl (by omega) (by decide) rfl dX4_write_39 ?_
            refine j_aload_n (pc := 40) C 0 0 rfl rfl dX4_write_40 ?_
            refine j_dup (pc := 41) C rfl dX4_write_41 ?_
            refine j_get (pc := 42) C (Or.inl (List.mem_of_getElem? (i := 0) rfl)) rfl fX4_write_X4 1 (by decide) (List.mem_of_getElem? (i := 1) rfl) (Or.inl rfl) rfl dX4_write_42 ?_
            refine j_iconst (pc := 45) C dX4_write_45 ?_
            refine j_iadd (pc := 46) C dX4_write_46 ?_
            refine j_put (pc := 47) (ws' := [(h, oC 3 [.ref hc, vI (e + 1)]), (hc, aI (Y 0) 16 (up z e (codeW w i)))]) C 0 rfl rfl fX4_write_X4 tyX4_ok nmX4 1 (by decide) (List.mem_of_getElem? (i := 1) rfl) (Or.inl rfl) rfl rfl rfl rfl (Nat.le_of_ble_eq_true rfl) rfl dX4_write_47 ?_
            refine j_iinc (pc := 50) (lc' := [(4, vI (i + 1)), (0, .ref h), (1, vL w), (3, vI n)]) C 3 rfl (by decide) rfl dX4_write_50 ?_
            refine j_goto (pc := 53) C 3 rfl dX4_write_53 ?_
            refine j_locals (lc' := [(0, .ref h), (1, vL w), (3, vI n), (4, vI (i + 1))]) [1, 2, 3, 0] rfl ?_
            exact ih3 (i + 1) (e + 1) (up z e (codeW w i)) (by omega) (by omega) (by omega) (by rw [wrI_succ (by omega), i3_1, i3_2])
  refine j_locals (lc' := [(0, .ref h), (1, vL w), (3, vI n), (4, vI 0)]) [1, 2, 3, 0] rfl ?_
  exact hL3 _ 0 pl pg (Nat.lt_succ_self _) (by omega) (by omega) rfl

theorem fX4_codeOf_X4 : ∀ w ∈ u_ws RX4 TX4 2, w ∈ wsX4_codeOf := j_words [2, 3] (by decide +kernel)
set_option maxHeartbeats 4000000 in
set_option maxRecDepth 100000 in
theorem c_codeOf (l : Launch) (D : va_G) (Y : Nat → ClassId) (RO : va_W) (h : Nat) (hc : Nat) (pg : Int → Int) (pl : Int) (i : Int) (p0 : (h, oC 3 [.ref hc, vI pl]) ∈ RO) (p1 : (hc, aI (Y 0) 16 pg) ∈ RO) (hi : 0 ≤ i ∧ i < 16) : jMi l yX4_codeOf wsX4_codeOf { frames := 0, cells := 0, slots := 0, locals := 0 } D Y RO [.ref h, vI i] [] (fun e w1 => e = (pg i) ∧ w1 = []) := by
  refine j_ofi RX4 rfl rfl rfl (Nat.le_of_ble_eq_true rfl) (fun X C Rt => ?_)
  refine j_iload_n (pc := 0) C 1 1 rfl rfl dX4_codeOf_0 ?_
  refine j_if_lt (pc := 1) C 10 rfl (by omega) dX4_codeOf_1 (fun h_1p1 => ?_) (fun h_1p1 => ?_)
  · skip
    exfalso; omega
  · skip
    refine j_iload_n (pc := 4) C 1 1 rfl rfl dX4_codeOf_4 ?_
    refine j_bipush (pc := 5) (w := 16) C rfl dX4_codeOf_5 ?_
    refine j_icmp_lt (pc := 7) C 14 rfl (by omega) dX4_codeOf_7 (fun h_2p7 => ?_) (fun h_2p7 => ?_)
    · skip
      refine j_aload_n (pc := 14) C 0 0 rfl rfl dX4_codeOf_14 ?_
      refine j_get (pc := 15) C (Or.inr p0) rfl fX4_codeOf_X4 0 (by decide) (List.mem_of_getElem? (i := 1) rfl) (Or.inl rfl) rfl dX4_codeOf_15 ?_
      refine j_iload_n (pc := 18) C 1 1 rfl rfl dX4_codeOf_18 ?_
      refine j_iald (pc := 19) C (Or.inr p1) rfl (by omega) (by decide) dX4_codeOf_19 ?_
      exact Rt _ _ _ _ _ _ (by decide) (by decide) ⟨rfl, rfl⟩ dX4_codeOf_20
    · skip
      exfalso; omega

set_option maxHeartbeats 4000000 in
set_option maxRecDepth 100000 in
theorem c_ruleOf (l : Launch) (D : va_G) (Y : Nat → ClassId) (RO : va_W) (c : Int)  (hc : -2147483648 ≤ c ∧ c ≤ 2147483647) : jMi l yX4_ruleOf wsX4_ruleOf { frames := 0, cells := 0, slots := 0, locals := 0 } D Y RO [vI c] [] (fun e w1 => e = ruleI c ∧ w1 = []) := by
  refine j_ofi RX4 rfl rfl rfl (Nat.le_of_ble_eq_true rfl) (fun X C Rt => ?_)
  refine j_iload_n (pc := 0) C 0 0 rfl rfl dX4_ruleOf_0 ?_
  refine j_bipush (pc := 1) (w := 48) C rfl dX4_ruleOf_1 ?_
  refine j_icmp_lt (pc := 3) C 17 rfl (by omega) dX4_ruleOf_3 (fun h_1p3 => ?_) (fun h_1p3 => ?_)
  · skip
    refine j_iload_n (pc := 17) C 0 0 rfl rfl dX4_ruleOf_17 ?_
    rcases (show c = 108 ∨ c = 109 ∨ c = 110 ∨ c = 111 ∨ c = 112 ∨ (c < 108 ∨ 112 < c) by omega) with h_2p18 | h_2p18 | h_2p18 | h_2p18 | h_2p18 | h_2p18
    · refine j_tableC (pc := 18) C 108 55 h_2p18 (by decide) rfl rfl dX4_ruleOf_18 ?_
      refine j_bipush (pc := 55) (w := 8) C rfl dX4_ruleOf_55 ?_
      exact Rt _ _ _ _ _ _ (by decide) (by decide) ⟨by unfold ruleI; first | (exfalso; omega) | rw [if_pos (by omega)] | (rw [if_neg (by omega)]; first | rw [if_pos (by omega)] | (rw [if_neg (by omega)]; first | rw [if_pos (by omega)] | (rw [if_neg (by omega)]; first | rw [if_pos (by omega)] | (rw [if_neg (by omega)]; first | rw [if_pos (by omega)] | rw [if_neg (by omega)])))), rfl⟩ dX4_ruleOf_57
    · refine j_tableC (pc := 18) C 109 52 h_2p18 (by decide) rfl rfl dX4_ruleOf_18 ?_
      refine j_bipush (pc := 52) (w := 7) C rfl dX4_ruleOf_52 ?_
      exact Rt _ _ _ _ _ _ (by decide) (by decide) ⟨by unfold ruleI; first | (exfalso; omega) | rw [if_pos (by omega)] | (rw [if_neg (by omega)]; first | rw [if_pos (by omega)] | (rw [if_neg (by omega)]; first | rw [if_pos (by omega)] | (rw [if_neg (by omega)]; first | rw [if_pos (by omega)] | (rw [if_neg (by omega)]; first | rw [if_pos (by omega)] | rw [if_neg (by omega)])))), rfl⟩ dX4_ruleOf_54
    · refine j_tableC (pc := 18) C 110 61 h_2p18 (by decide) rfl rfl dX4_ruleOf_18 ?_
      refine j_bipush (pc := 61) (w := 10) C rfl dX4_ruleOf_61 ?_
      exact Rt _ _ _ _ _ _ (by decide) (by decide) ⟨by unfold ruleI; first | (exfalso; omega) | rw [if_pos (by omega)] | (rw [if_neg (by omega)]; first | rw [if_pos (by omega)] | (rw [if_neg (by omega)]; first | rw [if_pos (by omega)] | (rw [if_neg (by omega)]; first | rw [if_pos (by omega)] | (rw [if_neg (by omega)]; first | rw [if_pos (by omega)] | rw [if_neg (by omega)])))), rfl⟩ dX4_ruleOf_63
    · refine j_tableC (pc := 18) C 111 64 h_2p18 (by decide) rfl rfl dX4_ruleOf_18 ?_
      refine j_iconst (pc := 64) C dX4_ruleOf_64 ?_
      exact Rt _ _ _ _ _ _ (by decide) (by decide) ⟨by unfold ruleI; first | (exfalso; omega) | rw [if_pos (by omega)] | (rw [if_neg (by omega)]; first | rw [if_pos (by omega)] | (rw [if_neg (by omega)]; first | rw [if_pos (by omega)] | (rw [if_neg (by omega)]; first | rw [if_pos (by omega)] | (rw [if_neg (by omega)]; first | rw [if_pos (by omega)] | rw [if_neg (by omega)])))), rfl⟩ dX4_ruleOf_65
    · refine j_tableC (pc := 18) C 112 58 h_2p18 (by decide) rfl rfl dX4_ruleOf_18 ?_
      refine j_bipush (pc := 58) (w := 9) C rfl dX4_ruleOf_58 ?_
      exact Rt _ _ _ _ _ _ (by decide) (by decide) ⟨by unfold ruleI; first | (exfalso; omega) | rw [if_pos (by omega)] | (rw [if_neg (by omega)]; first | rw [if_pos (by omega)] | (rw [if_neg (by omega)]; first | rw [if_pos (by omega)] | (rw [if_neg (by omega)]; first | rw [if_pos (by omega)] | (rw [if_neg (by omega)]; first | rw [if_pos (by omega)] | rw [if_neg (by omega)])))), rfl⟩ dX4_ruleOf_60
    · refine j_tableD (pc := 18) C 64 (by omega) h_2p18 rfl dX4_ruleOf_18 ?_
      refine j_iconst (pc := 64) C dX4_ruleOf_64 ?_
      exact Rt _ _ _ _ _ _ (by decide) (by decide) ⟨by unfold ruleI; first | (exfalso; omega) | rw [if_pos (by omega)] | (rw [if_neg (by omega)]; first | rw [if_pos (by omega)] | (rw [if_neg (by omega)]; first | rw [if_pos (by omega)] | (rw [if_neg (by omega)]; first | rw [if_pos (by omega)] | (rw [if_neg (by omega)]; first | rw [if_pos (by omega)] | rw [if_neg (by omega)])))), rfl⟩ dX4_ruleOf_65
  · skip
    refine j_iload_n (pc := 6) C 0 0 rfl rfl dX4_ruleOf_6 ?_
    refine j_bipush (pc := 7) (w := 54) C rfl dX4_ruleOf_7 ?_
    refine j_icmp_gt (pc := 9) C 17 rfl (by omega) dX4_ruleOf_9 (fun h_3p9 => ?_) (fun h_3p9 => ?_)
    · skip
      refine j_iload_n (pc := 17) C 0 0 rfl rfl dX4_ruleOf_17 ?_
      rcases (show c = 108 ∨ c = 109 ∨ c = 110 ∨ c = 111 ∨ c = 112 ∨ (c < 108 ∨ 112 < c) by omega) with h_4p18 | h_4p18 | h_4p18 | h_4p18 | h_4p18 | h_4p18
      · refine j_tableC (pc := 18) C 108 55 h_4p18 (by decide) rfl rfl dX4_ruleOf_18 ?_
        refine j_bipush (pc := 55) (w := 8) C rfl dX4_ruleOf_55 ?_
        exact Rt _ _ _ _ _ _ (by decide) (by decide) ⟨by unfold ruleI; first | (exfalso; omega) | rw [if_pos (by omega)] | (rw [if_neg (by omega)]; first | rw [if_pos (by omega)] | (rw [if_neg (by omega)]; first | rw [if_pos (by omega)] | (rw [if_neg (by omega)]; first | rw [if_pos (by omega)] | (rw [if_neg (by omega)]; first | rw [if_pos (by omega)] | rw [if_neg (by omega)])))), rfl⟩ dX4_ruleOf_57
      · refine j_tableC (pc := 18) C 109 52 h_4p18 (by decide) rfl rfl dX4_ruleOf_18 ?_
        refine j_bipush (pc := 52) (w := 7) C rfl dX4_ruleOf_52 ?_
        exact Rt _ _ _ _ _ _ (by decide) (by decide) ⟨by unfold ruleI; first | (exfalso; omega) | rw [if_pos (by omega)] | (rw [if_neg (by omega)]; first | rw [if_pos (by omega)] | (rw [if_neg (by omega)]; first | rw [if_pos (by omega)] | (rw [if_neg (by omega)]; first | rw [if_pos (by omega)] | (rw [if_neg (by omega)]; first | rw [if_pos (by omega)] | rw [if_neg (by omega)])))), rfl⟩ dX4_ruleOf_54
      · refine j_tableC (pc := 18) C 110 61 h_4p18 (by decide) rfl rfl dX4_ruleOf_18 ?_
        refine j_bipush (pc := 61) (w := 10) C rfl dX4_ruleOf_61 ?_
        exact Rt _ _ _ _ _ _ (by decide) (by decide) ⟨by unfold ruleI; first | (exfalso; omega) | rw [if_pos (by omega)] | (rw [if_neg (by omega)]; first | rw [if_pos (by omega)] | (rw [if_neg (by omega)]; first | rw [if_pos (by omega)] | (rw [if_neg (by omega)]; first | rw [if_pos (by omega)] | (rw [if_neg (by omega)]; first | rw [if_pos (by omega)] | rw [if_neg (by omega)])))), rfl⟩ dX4_ruleOf_63
      · refine j_tableC (pc := 18) C 111 64 h_4p18 (by decide) rfl rfl dX4_ruleOf_18 ?_
        refine j_iconst (pc := 64) C dX4_ruleOf_64 ?_
        exact Rt _ _ _ _ _ _ (by decide) (by decide) ⟨by unfold ruleI; first | (exfalso; omega) | rw [if_pos (by omega)] | (rw [if_neg (by omega)]; first | rw [if_pos (by omega)] | (rw [if_neg (by omega)]; first | rw [if_pos (by omega)] | (rw [if_neg (by omega)]; first | rw [if_pos (by omega)] | (rw [if_neg (by omega)]; first | rw [if_pos (by omega)] | rw [if_neg (by omega)])))), rfl⟩ dX4_ruleOf_65
      · refine j_tableC (pc := 18) C 112 58 h_4p18 (by decide) rfl rfl dX4_ruleOf_18 ?_
        refine j_bipush (pc := 58) (w := 9) C rfl dX4_ruleOf_58 ?_
        exact Rt _ _ _ _ _ _ (by decide) (by decide) ⟨by unfold ruleI; first | (exfalso; omega) | rw [if_pos (by omega)] | (rw [if_neg (by omega)]; first | rw [if_pos (by omega)] | (rw [if_neg (by omega)]; first | rw [if_pos (by omega)] | (rw [if_neg (by omega)]; first | rw [if_pos (by omega)] | (rw [if_neg (by omega)]; first | rw [if_pos (by omega)] | rw [if_neg (by omega)])))), rfl⟩ dX4_ruleOf_60
      · refine j_tableD (pc := 18) C 64 (by omega) h_4p18 rfl dX4_ruleOf_18 ?_
        refine j_iconst (pc := 64) C dX4_ruleOf_64 ?_
        exact Rt _ _ _ _ _ _ (by decide) (by decide) ⟨by unfold ruleI; first | (exfalso; omega) | rw [if_pos (by omega)] | (rw [if_neg (by omega)]; first | rw [if_pos (by omega)] | (rw [if_neg (by omega)]; first | rw [if_pos (by omega)] | (rw [if_neg (by omega)]; first | rw [if_pos (by omega)] | (rw [if_neg (by omega)]; first | rw [if_pos (by omega)] | rw [if_neg (by omega)])))), rfl⟩ dX4_ruleOf_65
    · skip
      refine j_iload_n (pc := 12) C 0 0 rfl rfl dX4_ruleOf_12 ?_
      refine j_bipush (pc := 13) (w := 48) C rfl dX4_ruleOf_13 ?_
      refine j_isub (pc := 15) C dX4_ruleOf_15 ?_
      exact Rt _ _ _ _ _ _ (by decide) (by decide) ⟨by unfold ruleI; first | (exfalso; omega) | rw [if_pos (by omega)] | (rw [if_neg (by omega)]; first | rw [if_pos (by omega)] | (rw [if_neg (by omega)]; first | rw [if_pos (by omega)] | (rw [if_neg (by omega)]; first | rw [if_pos (by omega)] | (rw [if_neg (by omega)]; first | rw [if_pos (by omega)] | rw [if_neg (by omega)])))), rfl⟩ dX4_ruleOf_16

set_option maxHeartbeats 4000000 in
set_option maxRecDepth 100000 in
theorem c_fits (l : Launch) (D : va_G) (Y : Nat → ClassId) (RO : va_W) (i : Int) (c : Int)  (hi : -2147483648 ≤ i ∧ i ≤ 2147483647) (hc : -2147483648 ≤ c ∧ c ≤ 2147483647) : jMi l yX4_fits wsX4_fits { frames := 1, cells := 0, slots := 0, locals := 20 } D Y RO [vI i, vI c] [] (fun e w1 => e = (if fitP i c then 1 else 0) ∧ w1 = []) := by
  refine j_ofz RX4 rfl rfl rfl (Nat.le_of_ble_eq_true rfl) (fun X C Rt => ?_)
  have hru := ruleI_in c
  refine j_iload_n (pc := 0) C 0 0 rfl rfl dX4_fits_0 ?_
  rcases (show i = 0 ∨ i = 1 ∨ i = 2 ∨ i = 3 ∨ i = 4 ∨ i = 5 ∨ (i < 0 ∨ 5 < i) by omega) with h_1p1 | h_1p1 | h_1p1 | h_1p1 | h_1p1 | h_1p1 | h_1p1
  · refine j_tableC (pc := 1) C 0 40 h_1p1 (by decide) rfl rfl dX4_fits_1 ?_
    refine j_iload_n (pc := 40) C 1 1 rfl rfl dX4_fits_40 ?_
    refine j_bipush (pc := 41) (w := 119) C rfl dX4_fits_41 ?_
    refine j_icmp_ne (pc := 43) C 50 rfl (by omega) dX4_fits_43 (fun h_2p43 => ?_) (fun h_2p43 => ?_)
    · skip
      refine j_iconst (pc := 50) C dX4_fits_50 ?_
      exact Rt _ _ _ _ _ _ (by decide) (by decide) (by decide) ⟨by unfold fitP; split <;> omega, rfl⟩ dX4_fits_51
    · skip
      refine j_iconst (pc := 46) C dX4_fits_46 ?_
      refine j_goto (pc := 47) C 51 rfl dX4_fits_47 ?_
      exact Rt _ _ _ _ _ _ (by decide) (by decide) (by decide) ⟨by unfold fitP; split <;> omega, rfl⟩ dX4_fits_51
  · refine j_tableC (pc := 1) C 1 52 h_1p1 (by decide) rfl rfl dX4_fits_1 ?_
    refine j_iload_n (pc := 52) C 1 1 rfl rfl dX4_fits_52 ?_
    refine j_callSi (pc := 53) (As := [vI c]) (na := 1) (st := []) C [] [] (wr := []) (fun l => c_ruleOf l D Y _ c (by first | assumption | omega)) rfl rfl rfl rfl (by decide) rfl gX4_fits_X4_ruleOf (by decide +kernel) (by decide) rfl rfl (Nat.le_of_ble_eq_true rfl) (by decide) dX4_fits_53 (fun e_3 w_4 h_5 => ?_)
    obtain ⟨rfl, rfl⟩ := h_5
    refine j_perm (ws' := []) [] rfl rfl ?_
    refine j_iconst (pc := 56) C dX4_fits_56 ?_
    refine j_icmp_eq (pc := 57) C 64 rfl (by omega) dX4_fits_57 (fun h_6p57 => ?_) (fun h_6p57 => ?_)
    · skip
      refine j_iconst (pc := 64) C dX4_fits_64 ?_
      exact Rt _ _ _ _ _ _ (by decide) (by decide) (by decide) ⟨by unfold fitP; split <;> omega, rfl⟩ dX4_fits_65
    · skip
      refine j_iconst (pc := 60) C dX4_fits_60 ?_
      refine j_goto (pc := 61) C 65 rfl dX4_fits_61 ?_
      exact Rt _ _ _ _ _ _ (by decide) (by decide) (by decide) ⟨by unfold fitP; split <;> omega, rfl⟩ dX4_fits_65
  · refine j_tableC (pc := 1) C 2 66 h_1p1 (by decide) rfl rfl dX4_fits_1 ?_
    refine j_iload_n (pc := 66) C 1 1 rfl rfl dX4_fits_66 ?_
    refine j_bipush (pc := 67) (w := 115) C rfl dX4_fits_67 ?_
    refine j_icmp_ne (pc := 69) C 76 rfl (by omega) dX4_fits_69 (fun h_7p69 => ?_) (fun h_7p69 => ?_)
    · skip
      refine j_iconst (pc := 76) C dX4_fits_76 ?_
      exact Rt _ _ _ _ _ _ (by decide) (by decide) (by decide) ⟨by unfold fitP; split <;> omega, rfl⟩ dX4_fits_77
    · skip
      refine j_iconst (pc := 72) C dX4_fits_72 ?_
      refine j_goto (pc := 73) C 77 rfl dX4_fits_73 ?_
      exact Rt _ _ _ _ _ _ (by decide) (by decide) (by decide) ⟨by unfold fitP; split <;> omega, rfl⟩ dX4_fits_77
  · refine j_tableC (pc := 1) C 3 78 h_1p1 (by decide) rfl rfl dX4_fits_1 ?_
    refine j_iload_n (pc := 78) C 1 1 rfl rfl dX4_fits_78 ?_
    refine j_callSi (pc := 79) (As := [vI c]) (na := 1) (st := []) C [] [] (wr := []) (fun l => c_ruleOf l D Y _ c (by first | assumption | omega)) rfl rfl rfl rfl (by decide) rfl gX4_fits_X4_ruleOf (by decide +kernel) (by decide) rfl rfl (Nat.le_of_ble_eq_true rfl) (by decide) dX4_fits_79 (fun e_8 w_9 h_10 => ?_)
    obtain ⟨rfl, rfl⟩ := h_10
    refine j_perm (ws' := []) [] rfl rfl ?_
    refine j_iconst (pc := 82) C dX4_fits_82 ?_
    refine j_icmp_eq (pc := 83) C 90 rfl (by omega) dX4_fits_83 (fun h_11p83 => ?_) (fun h_11p83 => ?_)
    · skip
      refine j_iconst (pc := 90) C dX4_fits_90 ?_
      exact Rt _ _ _ _ _ _ (by decide) (by decide) (by decide) ⟨by unfold fitP; split <;> omega, rfl⟩ dX4_fits_91
    · skip
      refine j_iconst (pc := 86) C dX4_fits_86 ?_
      refine j_goto (pc := 87) C 91 rfl dX4_fits_87 ?_
      exact Rt _ _ _ _ _ _ (by decide) (by decide) (by decide) ⟨by unfold fitP; split <;> omega, rfl⟩ dX4_fits_91
  · refine j_tableC (pc := 1) C 4 92 h_1p1 (by decide) rfl rfl dX4_fits_1 ?_
    refine j_iload_n (pc := 92) C 1 1 rfl rfl dX4_fits_92 ?_
    refine j_bipush (pc := 93) (w := 102) C rfl dX4_fits_93 ?_
    refine j_icmp_ne (pc := 95) C 102 rfl (by omega) dX4_fits_95 (fun h_12p95 => ?_) (fun h_12p95 => ?_)
    · skip
      refine j_iconst (pc := 102) C dX4_fits_102 ?_
      exact Rt _ _ _ _ _ _ (by decide) (by decide) (by decide) ⟨by unfold fitP; split <;> omega, rfl⟩ dX4_fits_103
    · skip
      refine j_iconst (pc := 98) C dX4_fits_98 ?_
      refine j_goto (pc := 99) C 103 rfl dX4_fits_99 ?_
      exact Rt _ _ _ _ _ _ (by decide) (by decide) (by decide) ⟨by unfold fitP; split <;> omega, rfl⟩ dX4_fits_103
  · refine j_tableC (pc := 1) C 5 104 h_1p1 (by decide) rfl rfl dX4_fits_1 ?_
    refine j_iload_n (pc := 104) C 1 1 rfl rfl dX4_fits_104 ?_
    refine j_bipush (pc := 105) (w := 49) C rfl dX4_fits_105 ?_
    refine j_icmp_lt (pc := 107) C 120 rfl (by omega) dX4_fits_107 (fun h_13p107 => ?_) (fun h_13p107 => ?_)
    · skip
      refine j_iconst (pc := 120) C dX4_fits_120 ?_
      exact Rt _ _ _ _ _ _ (by decide) (by decide) (by decide) ⟨by unfold fitP; split <;> omega, rfl⟩ dX4_fits_121
    · skip
      refine j_iload_n (pc := 110) C 1 1 rfl rfl dX4_fits_110 ?_
      refine j_bipush (pc := 111) (w := 57) C rfl dX4_fits_111 ?_
      refine j_icmp_gt (pc := 113) C 120 rfl (by omega) dX4_fits_113 (fun h_14p113 => ?_) (fun h_14p113 => ?_)
      · skip
        refine j_iconst (pc := 120) C dX4_fits_120 ?_
        exact Rt _ _ _ _ _ _ (by decide) (by decide) (by decide) ⟨by unfold fitP; split <;> omega, rfl⟩ dX4_fits_121
      · skip
        refine j_iconst (pc := 116) C dX4_fits_116 ?_
        refine j_goto (pc := 117) C 121 rfl dX4_fits_117 ?_
        exact Rt _ _ _ _ _ _ (by decide) (by decide) (by decide) ⟨by unfold fitP; split <;> omega, rfl⟩ dX4_fits_121
  · refine j_tableD (pc := 1) C 122 (by omega) h_1p1 rfl dX4_fits_1 ?_
    refine j_iconst (pc := 122) C dX4_fits_122 ?_
    exact Rt _ _ _ _ _ _ (by decide) (by decide) (by decide) ⟨by unfold fitP; split <;> omega, rfl⟩ dX4_fits_123

theorem fX4_firstWrong_X4 : ∀ w ∈ u_ws RX4 TX4 2, w ∈ wsX4_firstWrong := j_words [14, 15] (by decide +kernel)
set_option maxHeartbeats 4000000 in
set_option maxRecDepth 100000 in
theorem c_firstWrong (l : Launch) (D : va_G) (Y : Nat → ClassId) (RO : va_W) (h : Nat) (hc : Nat) (pg : Int → Int) (pl : Int) (p0 : (h, oC 3 [.ref hc, vI pl]) ∈ RO) (p1 : (hc, aI (Y 0) 16 pg) ∈ RO) (hp : okPg pg pl) : jMi l yX4_firstWrong wsX4_firstWrong { frames := 2, cells := 0, slots := 0, locals := 41 } D Y RO [.ref h] [] (fun e w1 => e = faultI pg pl ∧ w1 = []) := by
  refine j_ofi RX4 rfl rfl rfl (Nat.le_of_ble_eq_true rfl) (fun X C Rt => ?_)
  have hpl := hp.1
  refine j_iconst (pc := 0) C dX4_firstWrong_0 ?_
  refine j_istore_n (pc := 1) (lc' := [(1, vI 0), (0, .ref h)]) C 1 rfl (by decide) rfl dX4_firstWrong_1 ?_
  have hL2 : ∀ (N2 : Nat) (i : Int), ((pl - i).toNat) < N2 → (0 ≤ i ∧ i ≤ pl) → (fstI (fun i => ¬ fitP i (pg i)) i = -1) → jW X 2 0 0 [] [(0, .ref h), (1, vI i)] 2 [] := by
    intro N2
    induction N2 with
    | zero => intro i hm2 i2_0 i2_1; omega
    | succ N2 ih2 =>
      intro i hm2 i2_0 i2_1
      refine j_iload_n (pc := 2) C 1 1 rfl rfl dX4_firstWrong_2 ?_
      refine j_aload_n (pc := 3) C 0 0 rfl rfl dX4_firstWrong_3 ?_
      refine j_get (pc := 4) C (Or.inr p0) rfl fX4_firstWrong_X4 1 (by decide) (List.mem_of_getElem? (i := 1) rfl) (Or.inl rfl) rfl dX4_firstWrong_4 ?_
      refine j_icmp_ge (pc := 7) C 30 rfl (by omega) dX4_firstWrong_7 (fun h_1p7 => ?_) (fun h_1p7 => ?_)
      · skip
        refine j_aload_n (pc := 30) C 0 0 rfl rfl dX4_firstWrong_30 ?_
        refine j_get (pc := 31) C (Or.inr p0) rfl fX4_firstWrong_X4 1 (by decide) (List.mem_of_getElem? (i := 1) rfl) (Or.inl rfl) rfl dX4_firstWrong_31 ?_
        exact Rt _ _ _ _ _ _ (by decide) (by decide) ⟨by have e : badI pg pl = -1 := (by rw [show pl = i by omega]; exact i2_1); unfold faultI; rw [e, if_pos rfl], rfl⟩ dX4_firstWrong_34
      · skip
        refine j_iload_n (pc := 10) C 1 1 rfl rfl dX4_firstWrong_10 ?_
        have hpi := hp.2 i (by omega) (by omega)
        refine j_aload_n (pc := 11) C 0 0 rfl rfl dX4_firstWrong_11 ?_
        refine j_iload_n (pc := 12) C 1 1 rfl rfl dX4_firstWrong_12 ?_
        refine j_callVi (pc := 13) (As := [vI i]) (na := 1) (st := [vI i]) C [] [] (wr := []) (fun l => c_codeOf l D Y _ h hc pg pl i (List.mem_append_right _ p0) (List.mem_append_right _ p1) (by first | assumption | omega)) rfl rfl rfl rfl (by decide) rfl (Or.inr (List.mem_append_right _ p0)) rfl gX4_firstWrong_X4_codeOf ⟨rfl, by decide +kernel⟩ (by decide) rfl rfl (Nat.le_of_ble_eq_true rfl) (by decide) dX4_firstWrong_13 (fun e_2 w_3 h_4 => ?_)
        obtain ⟨rfl, rfl⟩ := h_4
        refine j_perm (ws' := []) [] rfl rfl ?_
        refine j_callSi (pc := 16) (As := [vI i, vI (pg i)]) (na := 2) (st := []) C [] [] (wr := []) (fun l => c_fits l D Y _ i (pg i) (by first | assumption | omega) (by first | assumption | omega)) rfl rfl rfl rfl (by decide) rfl gX4_firstWrong_X4_fits (by decide +kernel) (by decide) rfl rfl (Nat.le_of_ble_eq_true rfl) (by decide) dX4_firstWrong_16 (fun e_5 w_6 h_7 => ?_)
        obtain ⟨rfl, rfl⟩ := h_7
        refine j_perm (ws' := []) [] rfl rfl ?_
        refine j_if_neb (pc := 19) C 24 rfl dX4_firstWrong_19 (fun h_8p19 => ?_) (fun h_8p19 => ?_)
        · skip
          refine j_iinc (pc := 24) (lc' := [(1, vI (i + 1)), (0, .ref h)]) C 1 rfl (by decide) rfl dX4_firstWrong_24 ?_
          refine j_goto (pc := 27) C 2 rfl dX4_firstWrong_27 ?_
          refine j_locals (lc' := [(0, .ref h), (1, vI (i + 1))]) [1, 0] rfl ?_
          exact ih2 (i + 1) (by omega) (by omega) (fst_step (P := (fun i => ¬ fitP i (pg i))) (by omega) i2_1 (by (try dsimp only); exact not_not_intro (by assumption)))
        · skip
          refine j_iload_n (pc := 22) C 1 1 rfl rfl dX4_firstWrong_22 ?_
          exact Rt _ _ _ _ _ _ (by decide) (by decide) ⟨by have e : badI pg pl = i := fst_hit (P := (fun i => ¬ fitP i (pg i))) (by omega) (by omega) i2_1 (by assumption); unfold faultI; rw [e, if_neg (by omega)], rfl⟩ dX4_firstWrong_23
  refine j_locals (lc' := [(0, .ref h), (1, vI 0)]) [1, 0] rfl ?_
  exact hL2 _ 0 (Nat.lt_succ_self _) (by omega) rfl

theorem fX4_isCustom_X4 : ∀ w ∈ u_ws RX4 TX4 2, w ∈ wsX4_isCustom := j_words [18, 19] (by decide +kernel)
set_option maxHeartbeats 4000000 in
set_option maxRecDepth 100000 in
theorem c_pisCustom (l : Launch) (D : va_G) (Y : Nat → ClassId) (RO : va_W) (h : Nat) (hc : Nat) (pg : Int → Int) (pl : Int) (p0 : (h, oC 3 [.ref hc, vI pl]) ∈ RO) (p1 : (hc, aI (Y 0) 16 pg) ∈ RO) (hp : okPg pg pl) : jMi l yX4_isCustom wsX4_isCustom { frames := 3, cells := 0, slots := 0, locals := 62 } D Y RO [.ref h] [] (fun e w1 => e = (if cusP pg pl then 1 else 0) ∧ w1 = []) := by
  refine j_ofz RX4 rfl rfl rfl (Nat.le_of_ble_eq_true rfl) (fun X C Rt => ?_)
  have hpl := hp.1
  have hfi := faultI_in hp
  refine j_aload_n (pc := 0) C 0 0 rfl rfl dX4_isCustom_0 ?_
  refine j_get (pc := 1) C (Or.inr p0) rfl fX4_isCustom_X4 1 (by decide) (List.mem_of_getElem? (i := 1) rfl) (Or.inl rfl) rfl dX4_isCustom_1 ?_
  refine j_iconst (pc := 4) C dX4_isCustom_4 ?_
  refine j_icmp_eq (pc := 5) C 17 rfl (by omega) dX4_isCustom_5 (fun h_1p5 => ?_) (fun h_1p5 => ?_)
  · skip
    refine j_aload_n (pc := 17) C 0 0 rfl rfl dX4_isCustom_17 ?_
    refine j_callVi (pc := 18) (As := []) (na := 0) (st := []) C [] [] (wr := []) (fun l => c_firstWrong l D Y _ h hc pg pl (List.mem_append_right _ p0) (List.mem_append_right _ p1) (by first | assumption | omega)) rfl rfl rfl rfl (by decide) rfl (Or.inr (List.mem_append_right _ p0)) rfl gX4_isCustom_X4_firstWrong ⟨rfl, by decide +kernel⟩ (by decide) rfl rfl (Nat.le_of_ble_eq_true rfl) (by decide) dX4_isCustom_18 (fun e_2 w_3 h_4 => ?_)
    obtain ⟨rfl, rfl⟩ := h_4
    refine j_perm (ws' := []) [] rfl rfl ?_
    refine j_aload_n (pc := 21) C 0 0 rfl rfl dX4_isCustom_21 ?_
    refine j_get (pc := 22) C (Or.inr p0) rfl fX4_isCustom_X4 1 (by decide) (List.mem_of_getElem? (i := 1) rfl) (Or.inl rfl) rfl dX4_isCustom_22 ?_
    refine j_icmp_ne (pc := 25) C 32 rfl (by omega) dX4_isCustom_25 (fun h_5p25 => ?_) (fun h_5p25 => ?_)
    · skip
      refine j_iconst (pc := 32) C dX4_isCustom_32 ?_
      exact Rt _ _ _ _ _ _ (by decide) (by decide) (by decide) ⟨by unfold cusP; split <;> omega, rfl⟩ dX4_isCustom_33
    · skip
      refine j_iconst (pc := 28) C dX4_isCustom_28 ?_
      refine j_goto (pc := 29) C 33 rfl dX4_isCustom_29 ?_
      exact Rt _ _ _ _ _ _ (by decide) (by decide) (by decide) ⟨by unfold cusP; split <;> omega, rfl⟩ dX4_isCustom_33
  · skip
    refine j_aload_n (pc := 8) C 0 0 rfl rfl dX4_isCustom_8 ?_
    refine j_get (pc := 9) C (Or.inr p0) rfl fX4_isCustom_X4 1 (by decide) (List.mem_of_getElem? (i := 1) rfl) (Or.inl rfl) rfl dX4_isCustom_9 ?_
    refine j_bipush (pc := 12) (w := 6) C rfl dX4_isCustom_12 ?_
    refine j_icmp_ne (pc := 14) C 32 rfl (by omega) dX4_isCustom_14 (fun h_6p14 => ?_) (fun h_6p14 => ?_)
    · skip
      refine j_iconst (pc := 32) C dX4_isCustom_32 ?_
      exact Rt _ _ _ _ _ _ (by decide) (by decide) (by decide) ⟨by unfold cusP; split <;> omega, rfl⟩ dX4_isCustom_33
    · skip
      refine j_aload_n (pc := 17) C 0 0 rfl rfl dX4_isCustom_17 ?_
      refine j_callVi (pc := 18) (As := []) (na := 0) (st := []) C [] [] (wr := []) (fun l => c_firstWrong l D Y _ h hc pg pl (List.mem_append_right _ p0) (List.mem_append_right _ p1) (by first | assumption | omega)) rfl rfl rfl rfl (by decide) rfl (Or.inr (List.mem_append_right _ p0)) rfl gX4_isCustom_X4_firstWrong ⟨rfl, by decide +kernel⟩ (by decide) rfl rfl (Nat.le_of_ble_eq_true rfl) (by decide) dX4_isCustom_18 (fun e_7 w_8 h_9 => ?_)
      obtain ⟨rfl, rfl⟩ := h_9
      refine j_perm (ws' := []) [] rfl rfl ?_
      refine j_aload_n (pc := 21) C 0 0 rfl rfl dX4_isCustom_21 ?_
      refine j_get (pc := 22) C (Or.inr p0) rfl fX4_isCustom_X4 1 (by decide) (List.mem_of_getElem? (i := 1) rfl) (Or.inl rfl) rfl dX4_isCustom_22 ?_
      refine j_icmp_ne (pc := 25) C 32 rfl (by omega) dX4_isCustom_25 (fun h_10p25 => ?_) (fun h_10p25 => ?_)
      · skip
        refine j_iconst (pc := 32) C dX4_isCustom_32 ?_
        exact Rt _ _ _ _ _ _ (by decide) (by decide) (by decide) ⟨by unfold cusP; split <;> omega, rfl⟩ dX4_isCustom_33
      · skip
        refine j_iconst (pc := 28) C dX4_isCustom_28 ?_
        refine j_goto (pc := 29) C 33 rfl dX4_isCustom_29 ?_
        exact Rt _ _ _ _ _ _ (by decide) (by decide) (by decide) ⟨by unfold cusP; split <;> omega, rfl⟩ dX4_isCustom_33

theorem fX1_init_X1 : ∀ w ∈ u_ws RX1 TX1 3, w ∈ wsX1_init := j_words [7, 8, 9] (by decide +kernel)
set_option maxHeartbeats 4000000 in
set_option maxRecDepth 100000 in
theorem c_cusinit (l : Launch) (D : va_G) (Y : Nat → ClassId) (RO : va_W) (a : Nat) (x : Int) (y : Int) (z : Int)   : jMv l yX1_init wsX1_init { frames := 1, cells := 0, slots := 0, locals := 12 } D Y RO [.ref a, vI x, vI y, vI z] [(a, oC 1 [vI 0, vI 0, vI 0])] (fun w1 => w1 = [(a, oC 1 [vI x, vI y, vI z])]) := by
  refine j_ofv RX1 rfl rfl rfl (Nat.le_of_ble_eq_true rfl) (fun X C Rt hI => ?_)
  refine j_aload_n (pc := 0) C 0 0 rfl rfl dX1_init_0 ?_
  refine j_objInit (pc := 1) (st := []) C (List.mem_of_getElem? (i := 1) rfl) (List.mem_of_getElem? (i := 2) rfl) (List.mem_of_getElem? (i := 3) rfl) (by decide) (Nat.le_of_ble_eq_true rfl) dX1_init_1 ?_
  refine j_aload_n (pc := 4) C 0 0 rfl rfl dX1_init_4 ?_
  refine j_iload_n (pc := 5) C 1 1 rfl rfl dX1_init_5 ?_
  refine j_putF (pc := 6) (ws' := [(a, oC 1 [vI x, vI 0, vI 0])]) C 0 rfl rfl fX1_init_X1 tyX1_ok nmX1 0 (by decide) (List.mem_of_getElem? (i := 4) rfl) (Or.inl rfl) rfl (hI rfl) rfl rfl rfl rfl (Nat.le_of_ble_eq_true rfl) rfl dX1_init_6 ?_
  refine j_aload_n (pc := 9) C 0 0 rfl rfl dX1_init_9 ?_
  refine j_iload_n (pc := 10) C 2 2 rfl rfl dX1_init_10 ?_
  refine j_putF (pc := 11) (ws' := [(a, oC 1 [vI x, vI y, vI 0])]) C 0 rfl rfl fX1_init_X1 tyX1_ok nmX1 1 (by decide) (List.mem_of_getElem? (i := 5) rfl) (Or.inl rfl) rfl (hI rfl) rfl rfl rfl rfl (Nat.le_of_ble_eq_true rfl) rfl dX1_init_11 ?_
  refine j_aload_n (pc := 14) C 0 0 rfl rfl dX1_init_14 ?_
  refine j_iload_n (pc := 15) C 3 3 rfl rfl dX1_init_15 ?_
  refine j_putF (pc := 16) (ws' := [(a, oC 1 [vI x, vI y, vI z])]) C 0 rfl rfl fX1_init_X1 tyX1_ok nmX1 2 (by decide) (List.mem_of_getElem? (i := 6) rfl) (Or.inl rfl) rfl (hI rfl) rfl rfl rfl rfl (Nat.le_of_ble_eq_true rfl) rfl dX1_init_16 ?_
  exact Rt _ _ _ _ _ (by decide) (by decide) rfl dX1_init_19

theorem fX4_asCustom_X1 : ∀ w ∈ u_ws RX1 TX1 3, w ∈ wsX4_asCustom := j_words [25, 26, 27] (by decide +kernel)
theorem fX4_asCustom_X4 : ∀ w ∈ u_ws RX4 TX4 2, w ∈ wsX4_asCustom := j_words [23, 24] (by decide +kernel)
set_option maxHeartbeats 4000000 in
set_option maxRecDepth 100000 in
theorem c_asCustom (l : Launch) (D : va_G) (Y : Nat → ClassId) (RO : va_W) (h : Nat) (hc : Nat) (pg : Int → Int) (pl : Int) (p0 : (h, oC 3 [.ref hc, vI pl]) ∈ RO) (p1 : (hc, aI (Y 0) 16 pg) ∈ RO) (hp : okPg pg pl) (hq : cusP pg pl) : jMr l yX4_asCustom wsX4_asCustom { frames := 2, cells := 1, slots := 3, locals := 35 } D Y RO [.ref h] [] (fun e w1 => ∃ q : Nat, e = some q ∧ w1 = [(q, oC 1 [vI (cw (cusI pg pl)), vI (cz (cusI pg pl)), vI (ce (cusI pg pl))])]) := by
  refine j_ofr RX4 rfl rfl rfl (Nat.le_of_ble_eq_true rfl) (fun X C Rt => ?_)
  have hpl := hp.1
  have hl6 := hq.1
  refine j_aload_n (pc := 0) C 0 0 rfl rfl dX4_asCustom_0 ?_
  refine j_get (pc := 1) C (Or.inr p0) rfl fX4_asCustom_X4 1 (by decide) (List.mem_of_getElem? (i := 1) rfl) (Or.inl rfl) rfl dX4_asCustom_1 ?_
  refine j_bipush (pc := 4) (w := 6) C rfl dX4_asCustom_4 ?_
  refine j_icmp_ne (pc := 6) C 20 rfl (by omega) dX4_asCustom_6 (fun h_1p6 => ?_) (fun h_1p6 => ?_)
  · skip
    refine j_iconst (pc := 20) C dX4_asCustom_20 ?_
    refine j_istore_n (pc := 21) (lc' := [(1, vI 0), (0, .ref h)]) C 1 rfl (by decide) rfl dX4_asCustom_21 ?_
    refine j_new (pc := 22) (ci := 1) C [vI 0, vI 0, vI 0] rfl fX4_asCustom_X1 tyX1_ok (List.mem_of_getElem? (i := 2) rfl) (List.mem_of_getElem? (i := 3) rfl) (List.mem_of_getElem? (i := 4) rfl) (fun j hj => by rcases (show j = 0 ∨ j = 1 ∨ j = 2 by omega) with rfl | rfl | rfl <;> rfl) (by decide) dX4_asCustom_22 (fun q_2 => ?_)
    refine j_st (ws' := [(q_2, oC 1 [vI 0, vI 0, vI 0])]) rfl rfl rfl ?_
    refine j_dup (pc := 25) C rfl dX4_asCustom_25 ?_
    refine j_aload_n (pc := 26) C 0 1 rfl rfl dX4_asCustom_26 ?_
    refine j_iconst (pc := 27) C dX4_asCustom_27 ?_
    refine j_callVi (pc := 28) (As := [vI 1]) (na := 1) (st := [.ref q_2, .ref q_2]) C [] [0] (wr := [(q_2, oC 1 [vI 0, vI 0, vI 0])]) (fun l => c_codeOf l D Y _ h hc pg pl 1 (List.mem_append_right _ p0) (List.mem_append_right _ p1) (by first | assumption | omega)) rfl rfl rfl rfl (by decide) rfl (Or.inr (List.mem_append_right _ p0)) rfl gX4_asCustom_X4_codeOf ⟨rfl, by decide +kernel⟩ (by decide) rfl rfl (Nat.le_of_ble_eq_true rfl) (by decide) dX4_asCustom_28 (fun e_3 w_4 h_5 => ?_)
    obtain ⟨rfl, rfl⟩ := h_5
    refine j_perm (ws' := [(q_2, oC 1 [vI 0, vI 0, vI 0])]) [0] rfl rfl ?_
    have h1 := hp.2 1 (by decide) (by omega)
    refine j_callSi (pc := 31) (As := [vI (pg 1)]) (na := 1) (st := [.ref q_2, .ref q_2]) C [] [0] (wr := [(q_2, oC 1 [vI 0, vI 0, vI 0])]) (fun l => c_ruleOf l D Y _ (pg 1) (by first | assumption | omega)) rfl rfl rfl rfl (by decide) rfl gX4_asCustom_X4_ruleOf (by decide +kernel) (by decide) rfl rfl (Nat.le_of_ble_eq_true rfl) (by decide) dX4_asCustom_31 (fun e_6 w_7 h_8 => ?_)
    obtain ⟨rfl, rfl⟩ := h_8
    refine j_perm (ws' := [(q_2, oC 1 [vI 0, vI 0, vI 0])]) [0] rfl rfl ?_
    refine j_aload_n (pc := 34) C 0 1 rfl rfl dX4_asCustom_34 ?_
    refine j_iconst (pc := 35) C dX4_asCustom_35 ?_
    refine j_callVi (pc := 36) (As := [vI 3]) (na := 1) (st := [vI (ruleI (pg 1)), .ref q_2, .ref q_2]) C [] [0] (wr := [(q_2, oC 1 [vI 0, vI 0, vI 0])]) (fun l => c_codeOf l D Y _ h hc pg pl 3 (List.mem_append_right _ p0) (List.mem_append_right _ p1) (by first | assumption | omega)) rfl rfl rfl rfl (by decide) rfl (Or.inr (List.mem_append_right _ p0)) rfl gX4_asCustom_X4_codeOf ⟨rfl, by decide +kernel⟩ (by decide) rfl rfl (Nat.le_of_ble_eq_true rfl) (by decide) dX4_asCustom_36 (fun e_9 w_10 h_11 => ?_)
    obtain ⟨rfl, rfl⟩ := h_11
    refine j_perm (ws' := [(q_2, oC 1 [vI 0, vI 0, vI 0])]) [0] rfl rfl ?_
    have h3 := hp.2 3 (by decide) (by omega)
    refine j_callSi (pc := 39) (As := [vI (pg 3)]) (na := 1) (st := [vI (ruleI (pg 1)), .ref q_2, .ref q_2]) C [] [0] (wr := [(q_2, oC 1 [vI 0, vI 0, vI 0])]) (fun l => c_ruleOf l D Y _ (pg 3) (by first | assumption | omega)) rfl rfl rfl rfl (by decide) rfl gX4_asCustom_X4_ruleOf (by decide +kernel) (by decide) rfl rfl (Nat.le_of_ble_eq_true rfl) (by decide) dX4_asCustom_39 (fun e_12 w_13 h_14 => ?_)
    obtain ⟨rfl, rfl⟩ := h_14
    refine j_perm (ws' := [(q_2, oC 1 [vI 0, vI 0, vI 0])]) [0] rfl rfl ?_
    refine j_iload_n (pc := 42) C 1 0 rfl rfl dX4_asCustom_42 ?_
    refine j_callIv (pc := 43) (As := [vI (ruleI (pg 1)), vI (ruleI (pg 3)), vI 0]) (na := 3) (st := [.ref q_2]) C [0] [] (wr := []) (fun l => c_cusinit l D Y _ q_2 (ruleI (pg 1)) (ruleI (pg 3)) 0 ) rfl rfl rfl rfl (by decide) rfl gX4_asCustom_X1_init (List.mem_of_getElem? (i := 4) rfl) (List.mem_of_getElem? (i := 14) rfl) (List.mem_of_getElem? (i := 15) rfl) rfl (by decide +kernel) (by decide) rfl rfl (Nat.le_of_ble_eq_true rfl) (by decide) dX4_asCustom_43 (fun w_16 h_17 => ?_)
    subst h_17
    refine j_perm (ws' := [(q_2, oC 1 [vI (ruleI (pg 1)), vI (ruleI (pg 3)), vI 0])]) [0] rfl rfl ?_
    exact Rt _ _ _ _ _ (some q_2) (by decide) (by decide) ⟨_, rfl, by unfold cusI; first | (rw [if_pos (by omega)]; done) | (rw [if_neg (by omega)]; done) | (rw [if_pos (by omega)]; rfl) | (rw [if_neg (by omega)]; rfl)⟩ dX4_asCustom_46
  · skip
    refine j_aload_n (pc := 9) C 0 0 rfl rfl dX4_asCustom_9 ?_
    refine j_iconst (pc := 10) C dX4_asCustom_10 ?_
    refine j_callVi (pc := 11) (As := [vI 5]) (na := 1) (st := []) C [] [] (wr := []) (fun l => c_codeOf l D Y _ h hc pg pl 5 (List.mem_append_right _ p0) (List.mem_append_right _ p1) (by first | assumption | omega)) rfl rfl rfl rfl (by decide) rfl (Or.inr (List.mem_append_right _ p0)) rfl gX4_asCustom_X4_codeOf ⟨rfl, by decide +kernel⟩ (by decide) rfl rfl (Nat.le_of_ble_eq_true rfl) (by decide) dX4_asCustom_11 (fun e_18 w_19 h_20 => ?_)
    obtain ⟨rfl, rfl⟩ := h_20
    refine j_perm (ws' := []) [] rfl rfl ?_
    have h5 := hp.2 5 (by decide) (by omega)
    refine j_bipush (pc := 14) (w := 48) C rfl dX4_asCustom_14 ?_
    refine j_isub (pc := 16) C dX4_asCustom_16 ?_
    refine j_goto (pc := 17) C 21 rfl dX4_asCustom_17 ?_
    refine j_istore_n (pc := 21) (lc' := [(1, vI ((pg 5) - 48)), (0, .ref h)]) C 1 rfl (by decide) rfl dX4_asCustom_21 ?_
    refine j_new (pc := 22) (ci := 1) C [vI 0, vI 0, vI 0] rfl fX4_asCustom_X1 tyX1_ok (List.mem_of_getElem? (i := 2) rfl) (List.mem_of_getElem? (i := 3) rfl) (List.mem_of_getElem? (i := 4) rfl) (fun j hj => by rcases (show j = 0 ∨ j = 1 ∨ j = 2 by omega) with rfl | rfl | rfl <;> rfl) (by decide) dX4_asCustom_22 (fun q_21 => ?_)
    refine j_st (ws' := [(q_21, oC 1 [vI 0, vI 0, vI 0])]) rfl rfl rfl ?_
    refine j_dup (pc := 25) C rfl dX4_asCustom_25 ?_
    refine j_aload_n (pc := 26) C 0 1 rfl rfl dX4_asCustom_26 ?_
    refine j_iconst (pc := 27) C dX4_asCustom_27 ?_
    refine j_callVi (pc := 28) (As := [vI 1]) (na := 1) (st := [.ref q_21, .ref q_21]) C [] [0] (wr := [(q_21, oC 1 [vI 0, vI 0, vI 0])]) (fun l => c_codeOf l D Y _ h hc pg pl 1 (List.mem_append_right _ p0) (List.mem_append_right _ p1) (by first | assumption | omega)) rfl rfl rfl rfl (by decide) rfl (Or.inr (List.mem_append_right _ p0)) rfl gX4_asCustom_X4_codeOf ⟨rfl, by decide +kernel⟩ (by decide) rfl rfl (Nat.le_of_ble_eq_true rfl) (by decide) dX4_asCustom_28 (fun e_22 w_23 h_24 => ?_)
    obtain ⟨rfl, rfl⟩ := h_24
    refine j_perm (ws' := [(q_21, oC 1 [vI 0, vI 0, vI 0])]) [0] rfl rfl ?_
    have h1 := hp.2 1 (by decide) (by omega)
    refine j_callSi (pc := 31) (As := [vI (pg 1)]) (na := 1) (st := [.ref q_21, .ref q_21]) C [] [0] (wr := [(q_21, oC 1 [vI 0, vI 0, vI 0])]) (fun l => c_ruleOf l D Y _ (pg 1) (by first | assumption | omega)) rfl rfl rfl rfl (by decide) rfl gX4_asCustom_X4_ruleOf (by decide +kernel) (by decide) rfl rfl (Nat.le_of_ble_eq_true rfl) (by decide) dX4_asCustom_31 (fun e_25 w_26 h_27 => ?_)
    obtain ⟨rfl, rfl⟩ := h_27
    refine j_perm (ws' := [(q_21, oC 1 [vI 0, vI 0, vI 0])]) [0] rfl rfl ?_
    refine j_aload_n (pc := 34) C 0 1 rfl rfl dX4_asCustom_34 ?_
    refine j_iconst (pc := 35) C dX4_asCustom_35 ?_
    refine j_callVi (pc := 36) (As := [vI 3]) (na := 1) (st := [vI (ruleI (pg 1)), .ref q_21, .ref q_21]) C [] [0] (wr := [(q_21, oC 1 [vI 0, vI 0, vI 0])]) (fun l => c_codeOf l D Y _ h hc pg pl 3 (List.mem_append_right _ p0) (List.mem_append_right _ p1) (by first | assumption | omega)) rfl rfl rfl rfl (by decide) rfl (Or.inr (List.mem_append_right _ p0)) rfl gX4_asCustom_X4_codeOf ⟨rfl, by decide +kernel⟩ (by decide) rfl rfl (Nat.le_of_ble_eq_true rfl) (by decide) dX4_asCustom_36 (fun e_28 w_29 h_30 => ?_)
    obtain ⟨rfl, rfl⟩ := h_30
    refine j_perm (ws' := [(q_21, oC 1 [vI 0, vI 0, vI 0])]) [0] rfl rfl ?_
    have h3 := hp.2 3 (by decide) (by omega)
    refine j_callSi (pc := 39) (As := [vI (pg 3)]) (na := 1) (st := [vI (ruleI (pg 1)), .ref q_21, .ref q_21]) C [] [0] (wr := [(q_21, oC 1 [vI 0, vI 0, vI 0])]) (fun l => c_ruleOf l D Y _ (pg 3) (by first | assumption | omega)) rfl rfl rfl rfl (by decide) rfl gX4_asCustom_X4_ruleOf (by decide +kernel) (by decide) rfl rfl (Nat.le_of_ble_eq_true rfl) (by decide) dX4_asCustom_39 (fun e_31 w_32 h_33 => ?_)
    obtain ⟨rfl, rfl⟩ := h_33
    refine j_perm (ws' := [(q_21, oC 1 [vI 0, vI 0, vI 0])]) [0] rfl rfl ?_
    refine j_iload_n (pc := 42) C 1 0 rfl rfl dX4_asCustom_42 ?_
    refine j_callIv (pc := 43) (As := [vI (ruleI (pg 1)), vI (ruleI (pg 3)), vI ((pg 5) - 48)]) (na := 3) (st := [.ref q_21]) C [0] [] (wr := []) (fun l => c_cusinit l D Y _ q_21 (ruleI (pg 1)) (ruleI (pg 3)) ((pg 5) - 48) ) rfl rfl rfl rfl (by decide) rfl gX4_asCustom_X1_init (List.mem_of_getElem? (i := 4) rfl) (List.mem_of_getElem? (i := 14) rfl) (List.mem_of_getElem? (i := 15) rfl) rfl (by decide +kernel) (by decide) rfl rfl (Nat.le_of_ble_eq_true rfl) (by decide) dX4_asCustom_43 (fun w_35 h_36 => ?_)
    subst h_36
    refine j_perm (ws' := [(q_21, oC 1 [vI (ruleI (pg 1)), vI (ruleI (pg 3)), vI ((pg 5) - 48)])]) [0] rfl rfl ?_
    exact Rt _ _ _ _ _ (some q_21) (by decide) (by decide) ⟨_, rfl, by unfold cusI; first | (rw [if_pos (by omega)]; done) | (rw [if_neg (by omega)]; done) | (rw [if_pos (by omega)]; rfl) | (rw [if_neg (by omega)]; rfl)⟩ dX4_asCustom_46

theorem fX9_letters_X4 : ∀ w ∈ u_ws RX4 TX4 2, w ∈ wsX9_letters := j_words [28, 29] (by decide +kernel)
theorem fX9_letters_X9 : ∀ w ∈ u_ws RX9 TX9 11, w ∈ wsX9_letters := j_words [17, 18, 19, 20, 21, 22, 23, 24, 25, 26, 27] (by decide +kernel)
set_option maxHeartbeats 4000000 in
set_option maxRecDepth 100000 in
theorem k_letters (l : Launch) (D : va_G) (Y : Nat → ClassId) (RO : va_W) (k : Nat → Nat) (nc : Int) (np : Int) (ik : Int) (pg : Int → Int) (pl : Int) (w : Int) (ko : ((k 0), oC 8 [.ref (k 1), .ref (k 2), vI nc, .ref (k 3), vI np, .ref (k 4), .ref (k 7), vI ik, .ref (k 10), .ref (k 13), .ref (k 14)]) ∈ RO) (hp : okPg pg pl) : jMi l yX9_letters wsX9_letters { frames := 2, cells := 0, slots := 0, locals := 46 } D Y RO [.ref (k 0), vL w] [((k 1), oC 3 [.ref (k 17), vI pl]), ((k 17), aI (Y 0) 16 pg)] (fun e w1 => e = rLetters w pl ∧ w1 = [((k 1), oC 3 [.ref (k 17), vI (sLetN w pl)]), ((k 17), aI (Y 0) 16 (sLetG w pl pg))]) := by
  refine j_ofi RX9 rfl rfl rfl (Nat.le_of_ble_eq_true rfl) (fun X C Rt => ?_)
  have hpl := hp.1
  have hln := ln_in (w := w) (n := 8) (by decide)
  change lnI w = -1 ∨ (0 ≤ lnI w ∧ lnI w ≤ 8 ∧ _) at hln
  refine j_lload_n (pc := 0) C 1 1 rfl rfl dX9_letters_0 ?_
  refine j_callSi (pc := 1) (As := [vL w]) (na := 1) (st := []) C [] [0, 1] (wr := [((k 1), oC 3 [.ref (k 17), vI pl]), ((k 17), aI (Y 0) 16 pg)]) (fun l => c_lettersIn l D Y _ w ) rfl rfl rfl rfl (by decide) rfl gX9_letters_X4_lettersIn (by decide +kernel) (by decide) rfl rfl (Nat.le_of_ble_eq_true rfl) (by decide) dX9_letters_1 (fun e_1 w_2 h_3 => ?_)
  obtain ⟨rfl, rfl⟩ := h_3
  refine j_perm (ws' := [((k 1), oC 3 [.ref (k 17), vI pl]), ((k 17), aI (Y 0) 16 pg)]) [0, 1] rfl rfl ?_
  refine j_istore_n (pc := 4) (lc' := [(3, vI (lnI w)), (0, .ref (k 0)), (1, vL w)]) C 3 rfl (by decide) rfl dX9_letters_4 ?_
  refine j_iload_n (pc := 5) C 3 0 rfl rfl dX9_letters_5 ?_
  refine j_if_ge (pc := 6) C 12 rfl (by omega) dX9_letters_6 (fun h_4p6 => ?_) (fun h_4p6 => ?_)
  · skip
    refine j_aload_n (pc := 12) C 0 1 rfl rfl dX9_letters_12 ?_
    refine j_get (pc := 13) C (Or.inr ko) rfl fX9_letters_X9 0 (by decide) (List.mem_of_getElem? (i := 1) rfl) (Or.inl rfl) rfl dX9_letters_13 ?_
    refine j_get (pc := 16) C (Or.inl (List.mem_of_getElem? (i := 0) rfl)) rfl fX9_letters_X4 1 (by decide) (List.mem_of_getElem? (i := 2) rfl) (Or.inl rfl) rfl dX9_letters_16 ?_
    refine j_iload_n (pc := 19) C 3 0 rfl rfl dX9_letters_19 ?_
    refine j_iadd (pc := 20) C dX9_letters_20 ?_
    refine j_bipush (pc := 21) (w := 16) C rfl dX9_letters_21 ?_
    refine j_icmp_le (pc := 23) C 29 rfl (by omega) dX9_letters_23 (fun h_5p23 => ?_) (fun h_5p23 => ?_)
    · skip
      refine j_aload_n (pc := 29) C 0 1 rfl rfl dX9_letters_29 ?_
      refine j_get (pc := 30) C (Or.inr ko) rfl fX9_letters_X9 0 (by decide) (List.mem_of_getElem? (i := 1) rfl) (Or.inl rfl) rfl dX9_letters_30 ?_
      refine j_lload_n (pc := 33) C 1 2 rfl rfl dX9_letters_33 ?_
      refine j_iload_n (pc := 34) C 3 0 rfl rfl dX9_letters_34 ?_
      refine j_callVv (pc := 35) (As := [vL w, vI (lnI w)]) (na := 2) (st := []) C [0, 1] [] (wr := []) (fun l => c_write l D Y _ (k 1) (k 17) pg pl w (lnI w) (by first | assumption | omega) (by first | assumption | omega)) rfl rfl rfl rfl (by decide) rfl (Or.inl (List.mem_of_getElem? (i := 0) rfl)) rfl gX9_letters_X4_write ⟨rfl, by decide +kernel⟩ (by decide) rfl rfl (Nat.le_of_ble_eq_true rfl) (by decide) dX9_letters_35 (fun w_7 h_8 => ?_)
      subst h_8
      refine j_perm (ws' := [((k 1), oC 3 [.ref (k 17), vI (pl + (lnI w))]), ((k 17), aI (Y 0) 16 (wrI w pl (lnI w) pg))]) [0, 1] rfl rfl ?_
      refine j_aload_n (pc := 38) C 0 1 rfl rfl dX9_letters_38 ?_
      refine j_get (pc := 39) C (Or.inr ko) rfl fX9_letters_X9 0 (by decide) (List.mem_of_getElem? (i := 1) rfl) (Or.inl rfl) rfl dX9_letters_39 ?_
      refine j_get (pc := 42) C (Or.inl (List.mem_of_getElem? (i := 0) rfl)) rfl fX9_letters_X4 1 (by decide) (List.mem_of_getElem? (i := 2) rfl) (Or.inl rfl) rfl dX9_letters_42 ?_
      exact Rt _ _ _ _ _ _ (by decide) (by decide) ⟨by unfold rLetters; rw [if_neg (by omega), if_neg (by omega)], by unfold sLetN sLetG; rw [if_neg (by omega), if_neg (by omega), if_neg (by omega), if_neg (by omega)]⟩ dX9_letters_45
    · skip
      refine j_bipush (pc := 26) (w := (-104)) C rfl dX9_letters_26 ?_
      exact Rt _ _ _ _ _ _ (by decide) (by decide) ⟨by unfold rLetters; rw [if_neg (by omega), if_pos (by omega)], by unfold sLetN sLetG; rw [if_neg (by omega), if_pos (by omega), if_neg (by omega), if_pos (by omega)]⟩ dX9_letters_28
  · skip
    refine j_bipush (pc := 9) (w := (-102)) C rfl dX9_letters_9 ?_
    exact Rt _ _ _ _ _ _ (by decide) (by decide) ⟨by unfold rLetters; rw [if_pos (by omega)], by unfold sLetN sLetG; rw [if_pos (by omega), if_pos (by omega)]⟩ dX9_letters_11

theorem fX9_fault_X9 : ∀ w ∈ u_ws RX9 TX9 11, w ∈ wsX9_fault := j_words [19, 20, 21, 22, 23, 24, 25, 26, 27, 28, 29] (by decide +kernel)
set_option maxHeartbeats 4000000 in
set_option maxRecDepth 100000 in
theorem k_fault (l : Launch) (D : va_G) (Y : Nat → ClassId) (RO : va_W) (k : Nat → Nat) (nc : Int) (np : Int) (ik : Int) (pg : Int → Int) (pl : Int) (ko : ((k 0), oC 8 [.ref (k 1), .ref (k 2), vI nc, .ref (k 3), vI np, .ref (k 4), .ref (k 7), vI ik, .ref (k 10), .ref (k 13), .ref (k 14)]) ∈ RO) (p0 : ((k 1), oC 3 [.ref (k 17), vI pl]) ∈ RO) (p1 : ((k 17), aI (Y 0) 16 pg) ∈ RO) (hp : okPg pg pl) : jMi l yX9_fault wsX9_fault { frames := 3, cells := 0, slots := 0, locals := 62 } D Y RO [.ref (k 0)] [] (fun e w1 => e = faultI pg pl ∧ w1 = []) := by
  refine j_ofi RX9 rfl rfl rfl (Nat.le_of_ble_eq_true rfl) (fun X C Rt => ?_)
  refine j_aload_n (pc := 0) C 0 0 rfl rfl dX9_fault_0 ?_
  refine j_get (pc := 1) C (Or.inr ko) rfl fX9_fault_X9 0 (by decide) (List.mem_of_getElem? (i := 1) rfl) (Or.inl rfl) rfl dX9_fault_1 ?_
  refine j_callVi (pc := 4) (As := []) (na := 0) (st := []) C [] [] (wr := []) (fun l => c_firstWrong l D Y _ (k 1) (k 17) pg pl (List.mem_append_right _ p0) (List.mem_append_right _ p1) (by first | assumption | omega)) rfl rfl rfl rfl (by decide) rfl (Or.inr (List.mem_append_right _ p0)) rfl gX9_fault_X4_firstWrong ⟨rfl, by decide +kernel⟩ (by decide) rfl rfl (Nat.le_of_ble_eq_true rfl) (by decide) dX9_fault_4 (fun e_1 w_2 h_3 => ?_)
  obtain ⟨rfl, rfl⟩ := h_3
  refine j_perm (ws' := []) [] rfl rfl ?_
  exact Rt _ _ _ _ _ _ (by decide) (by decide) ⟨rfl, rfl⟩ dX9_fault_7

theorem fX9_custom_X4 : ∀ w ∈ u_ws RX4 TX4 2, w ∈ wsX9_custom := j_words [53, 54] (by decide +kernel)
theorem fX9_custom_X9 : ∀ w ∈ u_ws RX9 TX9 11, w ∈ wsX9_custom := j_words [42, 43, 44, 45, 46, 47, 48, 49, 50, 51, 52] (by decide +kernel)
set_option maxHeartbeats 4000000 in
set_option maxRecDepth 100000 in
theorem k_custom (l : Launch) (D : va_G) (Y : Nat → ClassId) (RO : va_W) (k : Nat → Nat) (nc : Int) (np : Int) (ik : Int) (cad : Int → Nat) (pg : Int → Int) (pl : Int) (p1 : ((k 17), aI (Y 0) 16 pg) ∈ RO) (hp : okPg pg pl) (hnc : 0 ≤ nc ∧ nc ≤ 4) : jMi l yX9_custom wsX9_custom { frames := 4, cells := 1, slots := 3, locals := 82 } D Y RO [.ref (k 0)] [((k 0), oC 8 [.ref (k 1), .ref (k 2), vI nc, .ref (k 3), vI np, .ref (k 4), .ref (k 7), vI ik, .ref (k 10), .ref (k 13), .ref (k 14)]), ((k 2), aQ (Y 2) 4 (orow nc cad)), ((k 1), oC 3 [.ref (k 17), vI pl])] (fun e w1 => e = rCustom pg pl nc ∧ ((¬ cusOk pg pl nc ∧ w1 = [((k 0), oC 8 [.ref (k 1), .ref (k 2), vI nc, .ref (k 3), vI np, .ref (k 4), .ref (k 7), vI ik, .ref (k 10), .ref (k 13), .ref (k 14)]), ((k 2), aQ (Y 2) 4 (orow nc cad)), ((k 1), oC 3 [.ref (k 17), vI pl])]) ∨ (cusOk pg pl nc ∧ ∃ q : Nat, w1 = [((k 0), oC 8 [.ref (k 1), .ref (k 2), vI (nc + 1), .ref (k 3), vI np, .ref (k 4), .ref (k 7), vI ik, .ref (k 10), .ref (k 13), .ref (k 14)]), ((k 2), aQ (Y 2) 4 (orow (nc + 1) (up cad nc q))), ((k 1), oC 3 [.ref (k 17), vI 0]), (q, oC 1 [vI (cw (cusI pg pl)), vI (cz (cusI pg pl)), vI (ce (cusI pg pl))])]))) := by
  refine j_ofi RX9 rfl rfl rfl (Nat.le_of_ble_eq_true rfl) (fun X C Rt => ?_)
  refine j_aload_n (pc := 0) C 0 0 rfl rfl dX9_custom_0 ?_
  refine j_get (pc := 1) C (Or.inl (List.mem_of_getElem? (i := 0) rfl)) rfl fX9_custom_X9 0 (by decide) (List.mem_of_getElem? (i := 1) rfl) (Or.inl rfl) rfl dX9_custom_1 ?_
  refine j_callVi (pc := 4) (As := []) (na := 0) (st := []) C [] [0, 1, 2] (wr := [((k 0), oC 8 [.ref (k 1), .ref (k 2), vI nc, .ref (k 3), vI np, .ref (k 4), .ref (k 7), vI ik, .ref (k 10), .ref (k 13), .ref (k 14)]), ((k 2), aQ (Y 2) 4 (orow nc cad)), ((k 1), oC 3 [.ref (k 17), vI pl])]) (fun l => c_pisCustom l D Y _ (k 1) (k 17) pg pl (List.mem_append_left _ (List.mem_of_getElem? (i := 2) rfl)) (List.mem_append_right _ p1) (by first | assumption | omega)) rfl rfl rfl rfl (by decide) rfl (Or.inr (List.mem_append_left _ (List.mem_of_getElem? (i := 2) rfl))) rfl gX9_custom_X4_isCustom ⟨rfl, by decide +kernel⟩ (by decide) rfl rfl (Nat.le_of_ble_eq_true rfl) (by decide) dX9_custom_4 (fun e_1 w_2 h_3 => ?_)
  obtain ⟨rfl, rfl⟩ := h_3
  refine j_perm (ws' := [((k 0), oC 8 [.ref (k 1), .ref (k 2), vI nc, .ref (k 3), vI np, .ref (k 4), .ref (k 7), vI ik, .ref (k 10), .ref (k 13), .ref (k 14)]), ((k 2), aQ (Y 2) 4 (orow nc cad)), ((k 1), oC 3 [.ref (k 17), vI pl])]) [0, 1, 2] rfl rfl ?_
  refine j_if_neb (pc := 7) C 13 rfl dX9_custom_7 (fun h_4p7 => ?_) (fun h_4p7 => ?_)
  · skip
    refine j_aload_n (pc := 13) C 0 0 rfl rfl dX9_custom_13 ?_
    refine j_get (pc := 14) C (Or.inl (List.mem_of_getElem? (i := 0) rfl)) rfl fX9_custom_X9 2 (by decide) (List.mem_of_getElem? (i := 2) rfl) (Or.inl rfl) rfl dX9_custom_14 ?_
    refine j_if_lt (pc := 17) C 28 rfl (by omega) dX9_custom_17 (fun h_5p17 => ?_) (fun h_5p17 => ?_)
    · skip
      refine j_bipush (pc := 28) (w := (-104)) C rfl dX9_custom_28 ?_
      exact Rt _ _ _ _ _ _ (by decide) (by decide) ⟨by unfold rCustom; rw [if_neg (not_not_intro (by assumption)), if_pos (by omega)], Or.inl ⟨fun q => absurd q.2 (by omega), rfl⟩⟩ dX9_custom_30
    · skip
      refine j_aload_n (pc := 20) C 0 0 rfl rfl dX9_custom_20 ?_
      refine j_get (pc := 21) C (Or.inl (List.mem_of_getElem? (i := 0) rfl)) rfl fX9_custom_X9 2 (by decide) (List.mem_of_getElem? (i := 2) rfl) (Or.inl rfl) rfl dX9_custom_21 ?_
      refine j_iconst (pc := 24) C dX9_custom_24 ?_
      refine j_icmp_lt (pc := 25) C 31 rfl (by omega) dX9_custom_25 (fun h_6p25 => ?_) (fun h_6p25 => ?_)
      · skip
        refine j_aload_n (pc := 31) C 0 0 rfl rfl dX9_custom_31 ?_
        refine j_get (pc := 32) C (Or.inl (List.mem_of_getElem? (i := 0) rfl)) rfl fX9_custom_X9 1 (by decide) (List.mem_of_getElem? (i := 3) rfl) (Or.inl rfl) rfl dX9_custom_32 ?_
        refine j_aload_n (pc := 35) C 0 0 rfl rfl dX9_custom_35 ?_
        refine j_get (pc := 36) C (Or.inl (List.mem_of_getElem? (i := 0) rfl)) rfl fX9_custom_X9 2 (by decide) (List.mem_of_getElem? (i := 2) rfl) (Or.inl rfl) rfl dX9_custom_36 ?_
        refine j_aload_n (pc := 39) C 0 0 rfl rfl dX9_custom_39 ?_
        refine j_get (pc := 40) C (Or.inl (List.mem_of_getElem? (i := 0) rfl)) rfl fX9_custom_X9 0 (by decide) (List.mem_of_getElem? (i := 1) rfl) (Or.inl rfl) rfl dX9_custom_40 ?_
        refine j_callVr (pc := 43) (As := []) (na := 0) (st := [vI nc, .ref (k 2)]) C [] [0, 1, 2] (wr := [((k 0), oC 8 [.ref (k 1), .ref (k 2), vI nc, .ref (k 3), vI np, .ref (k 4), .ref (k 7), vI ik, .ref (k 10), .ref (k 13), .ref (k 14)]), ((k 2), aQ (Y 2) 4 (orow nc cad)), ((k 1), oC 3 [.ref (k 17), vI pl])]) (fun l => c_asCustom l D Y _ (k 1) (k 17) pg pl (List.mem_append_left _ (List.mem_of_getElem? (i := 2) rfl)) (List.mem_append_right _ p1) (by first | assumption | omega) (by assumption)) rfl rfl rfl rfl (by decide) rfl (Or.inr (List.mem_append_left _ (List.mem_of_getElem? (i := 2) rfl))) rfl gX9_custom_X4_asCustom ⟨rfl, by decide +kernel⟩ (by decide) rfl rfl (Nat.le_of_ble_eq_true rfl) (by decide) dX9_custom_43 (fun e_7 w_8 h_9 => ?_)
        obtain ⟨q_10, rfl, rfl⟩ := h_9
        refine j_perm (ws' := [((k 0), oC 8 [.ref (k 1), .ref (k 2), vI nc, .ref (k 3), vI np, .ref (k 4), .ref (k 7), vI ik, .ref (k 10), .ref (k 13), .ref (k 14)]), ((k 2), aQ (Y 2) 4 (orow nc cad)), ((k 1), oC 3 [.ref (k 17), vI pl]), (q_10, oC 1 [vI (cw (cusI pg pl)), vI (cz (cusI pg pl)), vI (ce (cusI pg pl))])]) [0, 1, 2, 3] rfl rfl ?_
        refine j_aastC (pc := 46) (ws' := [((k 0), oC 8 [.ref (k 1), .ref (k 2), vI nc, .ref (k 3), vI np, .ref (k 4), .ref (k 7), vI ik, .ref (k 10), .ref (k 13), .ref (k 14)]), ((k 2), aQ (Y 2) 4 (up (orow nc cad) nc (some q_10))), ((k 1), oC 3 [.ref (k 17), vI pl]), (q_10, oC 1 [vI (cw (cusI pg pl)), vI (cz (cusI pg pl)), vI (ce (cusI pg pl))])]) C 1 3 rfl rfl rfl (by omega) (by decide) rfl dX9_custom_46 ?_
        refine j_aload_n (pc := 47) C 0 0 rfl rfl dX9_custom_47 ?_
        refine j_get (pc := 48) C (Or.inl (List.mem_of_getElem? (i := 0) rfl)) rfl fX9_custom_X9 0 (by decide) (List.mem_of_getElem? (i := 1) rfl) (Or.inl rfl) rfl dX9_custom_48 ?_
        refine j_iconst (pc := 51) C dX9_custom_51 ?_
        refine j_put (pc := 52) (ws' := [((k 0), oC 8 [.ref (k 1), .ref (k 2), vI nc, .ref (k 3), vI np, .ref (k 4), .ref (k 7), vI ik, .ref (k 10), .ref (k 13), .ref (k 14)]), ((k 2), aQ (Y 2) 4 (up (orow nc cad) nc (some q_10))), ((k 1), oC 3 [.ref (k 17), vI 0]), (q_10, oC 1 [vI (cw (cusI pg pl)), vI (cz (cusI pg pl)), vI (ce (cusI pg pl))])]) C 2 rfl rfl fX9_custom_X4 tyX4_ok nmX4 1 (by decide) (List.mem_of_getElem? (i := 4) rfl) (Or.inl rfl) rfl rfl rfl rfl (Nat.le_of_ble_eq_true rfl) rfl dX9_custom_52 ?_
        refine j_aload_n (pc := 55) C 0 0 rfl rfl dX9_custom_55 ?_
        refine j_dup (pc := 56) C rfl dX9_custom_56 ?_
        refine j_get (pc := 57) C (Or.inl (List.mem_of_getElem? (i := 0) rfl)) rfl fX9_custom_X9 2 (by decide) (List.mem_of_getElem? (i := 2) rfl) (Or.inl rfl) rfl dX9_custom_57 ?_
        refine j_iconst (pc := 60) C dX9_custom_60 ?_
        refine j_iadd (pc := 61) C dX9_custom_61 ?_
        refine j_put (pc := 62) (ws' := [((k 0), oC 8 [.ref (k 1), .ref (k 2), vI (nc + 1), .ref (k 3), vI np, .ref (k 4), .ref (k 7), vI ik, .ref (k 10), .ref (k 13), .ref (k 14)]), ((k 2), aQ (Y 2) 4 (up (orow nc cad) nc (some q_10))), ((k 1), oC 3 [.ref (k 17), vI 0]), (q_10, oC 1 [vI (cw (cusI pg pl)), vI (cz (cusI pg pl)), vI (ce (cusI pg pl))])]) C 0 rfl rfl fX9_custom_X9 tyX9_ok nmX9 2 (by decide) (List.mem_of_getElem? (i := 2) rfl) (Or.inl rfl) rfl rfl rfl rfl (Nat.le_of_ble_eq_true rfl) rfl dX9_custom_62 ?_
        refine j_aload_n (pc := 65) C 0 0 rfl rfl dX9_custom_65 ?_
        refine j_get (pc := 66) C (Or.inl (List.mem_of_getElem? (i := 0) rfl)) rfl fX9_custom_X9 2 (by decide) (List.mem_of_getElem? (i := 2) rfl) (Or.inl rfl) rfl dX9_custom_66 ?_
        refine j_iconst (pc := 69) C dX9_custom_69 ?_
        refine j_isub (pc := 70) C dX9_custom_70 ?_
        exact Rt _ _ _ _ _ _ (by decide) (by decide) ⟨by unfold rCustom; rw [if_neg (not_not_intro (by assumption)), if_neg (by omega)]; first | done | omega, Or.inr ⟨⟨by assumption, by omega⟩, _, by rw [← orow_push (by omega)]; first | done | rfl⟩⟩ dX9_custom_71
      · skip
        refine j_bipush (pc := 28) (w := (-104)) C rfl dX9_custom_28 ?_
        exact Rt _ _ _ _ _ _ (by decide) (by decide) ⟨by unfold rCustom; rw [if_neg (not_not_intro (by assumption)), if_pos (by omega)], Or.inl ⟨fun q => absurd q.2 (by omega), rfl⟩⟩ dX9_custom_30
  · skip
    refine j_bipush (pc := 10) (w := (-103)) C rfl dX9_custom_10 ?_
    exact Rt _ _ _ _ _ _ (by decide) (by decide) ⟨by unfold rCustom; rw [if_pos (by assumption)], Or.inl ⟨fun q => absurd q.1 (by assumption), rfl⟩⟩ dX9_custom_12

set_option maxHeartbeats 4000000 in
set_option maxRecDepth 100000 in
theorem k_customTold (l : Launch) (D : va_G) (Y : Nat → ClassId) (RO : va_W) (k : Nat → Nat) (nc : Int) (np : Int) (ik : Int) (cad : Int → Nat) (cs : Int → CT) (cu : Int) (w : Int) (ko : ((k 0), oC 8 [.ref (k 1), .ref (k 2), vI nc, .ref (k 3), vI np, .ref (k 4), .ref (k 7), vI ik, .ref (k 10), .ref (k 13), .ref (k 14)]) ∈ RO) (kc : ((k 2), aQ (Y 2) 4 (orow nc cad)) ∈ RO) (hcc : ∀ i, 0 ≤ i ∧ i < nc → (cad i, oC 1 [vI (cw (cs i)), vI (cz (cs i)), vI (ce (cs i))]) ∈ RO) (hnc : 0 ≤ nc ∧ nc ≤ 4) (hcs : ∀ i, 0 ≤ i ∧ i < nc → okC (cs i)) (hcu : -2147483648 ≤ cu ∧ cu ≤ 2147483647) (hw : -2147483648 ≤ w ∧ w ≤ 2147483647) : jMi l yX9_customTold wsX9_customTold { frames := 1, cells := 0, slots := 0, locals := 21 } D Y RO [.ref (k 0), vI cu, vI w] [] (fun e w1 => e = rCusTold cu w nc cs ∧ w1 = []) := by
  refine j_ofi RX9 rfl rfl rfl (Nat.le_of_ble_eq_true rfl) (fun X C Rt => ?_)
  refine j_aload_n (pc := 0) C 0 0 rfl rfl dX9_customTold_0 ?_
  refine j_iload_n (pc := 1) C 1 1 rfl rfl dX9_customTold_1 ?_
  refine j_callVr (pc := 2) (As := [vI cu]) (na := 1) (st := []) C [] [] (wr := []) (fun l => k_customAt l D Y _ k nc np ik cad cu (List.mem_append_right _ ko) (List.mem_append_right _ kc) (by first | assumption | omega) (by first | assumption | omega)) rfl rfl rfl rfl (by decide) rfl (Or.inr (List.mem_append_right _ ko)) rfl gX9_customTold_X9_customAt ⟨rfl, by decide +kernel⟩ (by decide) rfl rfl (Nat.le_of_ble_eq_true rfl) (by decide) dX9_customTold_2 (fun e_1 w_2 h_3 => ?_)
  obtain ⟨rfl, rfl⟩ := h_3
  refine j_perm (ws' := []) [] rfl rfl ?_
  by_cases hq_4 : 0 ≤ cu ∧ cu < nc
  · rw [show orow nc cad cu = some (cad cu) from orow_in hq_4]
    have hc4 := hcc cu hq_4
    have hC4 := hcs cu hq_4
    refine j_astore_n (pc := 5) (lc' := [(3, .ref (cad cu)), (0, .ref (k 0)), (1, vI cu), (2, vI w)]) C 3 rfl (by decide) rfl dX9_customTold_5 ?_
    refine j_aload_n (pc := 6) C 3 0 rfl rfl dX9_customTold_6 ?_
    refine j_ifnonnull (pc := 7) C 13 rfl dX9_customTold_7 ?_
    refine j_iload_n (pc := 13) C 2 3 rfl rfl dX9_customTold_13 ?_
    refine j_if_lt (pc := 14) C 22 rfl (by omega) dX9_customTold_14 (fun h_5p14 => ?_) (fun h_5p14 => ?_)
    · skip
      refine j_bipush (pc := 22) (w := (-102)) C rfl dX9_customTold_22 ?_
      exact Rt _ _ _ _ _ _ (by decide) (by decide) ⟨by unfold rCusTold; rw [if_neg (by omega), if_pos (by omega)], rfl⟩ dX9_customTold_24
    · skip
      refine j_iload_n (pc := 17) C 2 3 rfl rfl dX9_customTold_17 ?_
      refine j_iconst (pc := 18) C dX9_customTold_18 ?_
      refine j_icmp_le (pc := 19) C 25 rfl (by omega) dX9_customTold_19 (fun h_6p19 => ?_) (fun h_6p19 => ?_)
      · skip
        refine j_aload_n (pc := 25) C 3 0 rfl rfl dX9_customTold_25 ?_
        refine j_iload_n (pc := 26) C 2 3 rfl rfl dX9_customTold_26 ?_
        refine j_callVi (pc := 27) (As := [vI w]) (na := 1) (st := []) C [] [] (wr := []) (fun l => c_ctold l D Y _ (cad cu) (cs cu) w (List.mem_append_right _ hc4) (by first | assumption | omega)) rfl rfl rfl rfl (by decide) rfl (Or.inr (List.mem_append_right _ hc4)) rfl gX9_customTold_X1_told ⟨rfl, by decide +kernel⟩ (by decide) rfl rfl (Nat.le_of_ble_eq_true rfl) (by decide) dX9_customTold_27 (fun e_7 w_8 h_9 => ?_)
        obtain ⟨rfl, rfl⟩ := h_9
        refine j_perm (ws' := []) [] rfl rfl ?_
        exact Rt _ _ _ _ _ _ (by decide) (by decide) ⟨by unfold rCusTold; rw [if_neg (by omega), if_neg (by omega)], rfl⟩ dX9_customTold_30
      · skip
        refine j_bipush (pc := 22) (w := (-102)) C rfl dX9_customTold_22 ?_
        exact Rt _ _ _ _ _ _ (by decide) (by decide) ⟨by unfold rCusTold; rw [if_neg (by omega), if_pos (by omega)], rfl⟩ dX9_customTold_24
  · rw [show orow nc cad cu = none from orow_out hq_4]
    refine j_astore_nN (pc := 5) (lc' := [(3, .null), (0, .ref (k 0)), (1, vI cu), (2, vI w)]) C 3 rfl (by decide) rfl dX9_customTold_5 ?_
    refine j_aload_nN (pc := 6) C 3 0 rfl rfl dX9_customTold_6 ?_
    refine j_ifnonnullN (pc := 7) C dX9_customTold_7 ?_
    refine j_bipush (pc := 10) (w := (-101)) C rfl dX9_customTold_10 ?_
    exact Rt _ _ _ _ _ _ (by decide) (by decide) ⟨by unfold rCusTold; rw [if_pos (by omega)], rfl⟩ dX9_customTold_12
