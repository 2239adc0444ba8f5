set_option maxHeartbeats 4000000 in
set_option maxRecDepth 100000 in
theorem c_isCairn (l : Launch) (D : va_G) (Y : Nat → ClassId) (RO : va_W) (c : Int)  (hc : -2147483648 ≤ c ∧ c ≤ 2147483647) : jMi l yX9_isCairn wsX9_isCairn { frames := 0, cells := 0, slots := 0, locals := 0 } D Y RO [vI c] [] (fun e w1 => e = (if 0 ≤ c ∧ c < 7 then 1 else 0) ∧ w1 = []) := by
  refine j_ofz RX9 rfl rfl rfl (Nat.le_of_ble_eq_true rfl) (fun X C Rt => ?_)
  refine j_iload_n (pc := 0) C 0 0 rfl rfl dX9_isCairn_0 ?_
  refine j_if_lt (pc := 1) C 14 rfl (by omega) dX9_isCairn_1 (fun h_1p1 => ?_) (fun h_1p1 => ?_)
  · skip
    refine j_iconst (pc := 14) C dX9_isCairn_14 ?_
    exact Rt _ _ _ _ _ _ (by decide) (by decide) (by decide) ⟨by split <;> omega, rfl⟩ dX9_isCairn_15
  · skip
    refine j_iload_n (pc := 4) C 0 0 rfl rfl dX9_isCairn_4 ?_
    refine j_bipush (pc := 5) (w := 7) C rfl dX9_isCairn_5 ?_
    refine j_icmp_ge (pc := 7) C 14 rfl (by omega) dX9_isCairn_7 (fun h_2p7 => ?_) (fun h_2p7 => ?_)
    · skip
      refine j_iconst (pc := 14) C dX9_isCairn_14 ?_
      exact Rt _ _ _ _ _ _ (by decide) (by decide) (by decide) ⟨by split <;> omega, rfl⟩ dX9_isCairn_15
    · skip
      refine j_iconst (pc := 10) C dX9_isCairn_10 ?_
      refine j_goto (pc := 11) C 15 rfl dX9_isCairn_11 ?_
      exact Rt _ _ _ _ _ _ (by decide) (by decide) (by decide) ⟨by split <;> omega, rfl⟩ dX9_isCairn_15

theorem fX2_put_X2 : ∀ w ∈ u_ws RX2 TX2 8, w ∈ wsX2_put := j_words [7, 8, 9, 10, 11, 12, 13, 14] (by decide +kernel)
set_option maxHeartbeats 4000000 in
set_option maxRecDepth 100000 in
theorem c_put (l : Launch) (D : va_G) (Y : Nat → ClassId) (RO : va_W) (h : Nat) (hh : Nat) (hm : Nat) (S : MS) (c : Int) (x : Int)  (hS : okS S) (hc : 0 ≤ c ∧ c < 7) : jMv l yX2_put wsX2_put { frames := 1, cells := 0, slots := 0, locals := 20 } D Y RO [.ref h, vI c, vI x] [(h, oC 2 [.ref hh, .ref hm, vI (ms_w S), vI (ms_l S), vI (ms_s S), vI (ms_a S), vI (ms_t S), vI (ms_p S)]), (hh, aI (Y 0) 7 (ms_h S)), (hm, aI (Y 0) 420 (ms_m S))] (fun w1 => w1 = [(h, oC 2 [.ref hh, .ref hm, vI (ms_w (putS c x S)), vI (ms_l (putS c x S)), vI (ms_s (putS c x S)), vI (ms_a (putS c x S)), vI (ms_t (putS c x S)), vI (ms_p (putS c x S))]), (hh, aI (Y 0) 7 (ms_h (putS c x S))), (hm, aI (Y 0) 420 (ms_m (putS c x S)))]) := by
  refine j_ofv RX2 rfl rfl rfl (Nat.le_of_ble_eq_true rfl) (fun X C Rt hI => ?_)
  refine j_iload_n (pc := 0) C 1 1 rfl rfl dX2_put_0 ?_
  refine j_callSNi (pc := 1) (As := [vI c]) (na := 1) (st := []) C [] [0, 1, 2] (wr := [(h, oC 2 [.ref hh, .ref hm, vI (ms_w S), vI (ms_l S), vI (ms_s S), vI (ms_a S), vI (ms_t S), vI (ms_p S)]), (hh, aI (Y 0) 7 (ms_h S)), (hm, aI (Y 0) 420 (ms_m S))]) (fun l => c_isCairn l D Y _ c (by first | assumption | omega)) rfl rfl rfl rfl (by decide) rfl (host := "KneelingStones") gX2_put_X9_isCairn_n43 (List.mem_of_getElem? (i := 4) rfl) (List.mem_of_getElem? (i := 5) rfl) (fun _ h => h.1.1) (by decide +kernel) (by decide) rfl rfl (Nat.le_of_ble_eq_true rfl) (by decide) dX2_put_1 (fun e_1 w_2 h_3 => ?_)
  obtain ⟨rfl, rfl⟩ := h_3
  refine j_perm (ws' := [(h, oC 2 [.ref hh, .ref hm, vI (ms_w S), vI (ms_l S), vI (ms_s S), vI (ms_a S), vI (ms_t S), vI (ms_p S)]), (hh, aI (Y 0) 7 (ms_h S)), (hm, aI (Y 0) 420 (ms_m S))]) [0, 1, 2] rfl rfl ?_
  refine j_if_neb (pc := 4) C 8 rfl dX2_put_4 (fun h_4p4 => ?_) (fun h_4p4 => ?_)
  · skip
    refine j_aload_n (pc := 8) C 0 0 rfl rfl dX2_put_8 ?_
    refine j_get (pc := 9) C (Or.inl (List.mem_of_getElem? (i := 0) rfl)) rfl fX2_put_X2 0 (by decide) (List.mem_of_getElem? (i := 1) rfl) (Or.inl rfl) rfl dX2_put_9 ?_
    refine j_iload_n (pc := 12) C 1 1 rfl rfl dX2_put_12 ?_
    refine j_iald (pc := 13) C (Or.inl (List.mem_of_getElem? (i := 1) rfl)) rfl (by omega) (by decide) dX2_put_13 ?_
    have f_5 := hS.1 c (by omega)
    refine j_istore_n (pc := 14) (lc' := [(3, vI (ms_h S c)), (0, .ref h), (1, vI c), (2, vI x)]) C 3 rfl (by decide) rfl dX2_put_14 ?_
    refine j_iload_n (pc := 15) C 3 0 rfl rfl dX2_put_15 ?_
    refine j_if_lt (pc := 16) C 25 rfl (by omega) dX2_put_16 (fun h_6p16 => ?_) (fun h_6p16 => ?_)
    · skip
      refine j_aload_n (pc := 25) C 0 1 rfl rfl dX2_put_25 ?_
      refine j_dup (pc := 26) C rfl dX2_put_26 ?_
      refine j_get (pc := 27) C (Or.inl (List.mem_of_getElem? (i := 0) rfl)) rfl fX2_put_X2 7 (by decide) (List.mem_of_getElem? (i := 2) rfl) (Or.inl rfl) rfl dX2_put_27 ?_
      refine j_iconst (pc := 30) C dX2_put_30 ?_
      refine j_iadd (pc := 31) C dX2_put_31 ?_
      refine j_put (pc := 32) (ws' := [(h, oC 2 [.ref hh, .ref hm, vI (ms_w S), vI (ms_l S), vI (ms_s S), vI (ms_a S), vI (ms_t S), vI (ms_p S + 1)]), (hh, aI (Y 0) 7 (ms_h S)), (hm, aI (Y 0) 420 (ms_m S))]) C 0 rfl rfl fX2_put_X2 tyX2_ok nmX2 7 (by decide) (List.mem_of_getElem? (i := 2) rfl) (Or.inl rfl) rfl rfl rfl rfl (Nat.le_of_ble_eq_true rfl) rfl dX2_put_32 ?_
      exact Rt _ _ _ _ _ (by decide) (by decide) (by rw [putS_full (by omega)]; first | done | rfl) dX2_put_35
    · skip
      refine j_iload_n (pc := 19) C 3 0 rfl rfl dX2_put_19 ?_
      refine j_bipush (pc := 20) (w := 60) C rfl dX2_put_20 ?_
      refine j_icmp_lt (pc := 22) C 36 rfl (by omega) dX2_put_22 (fun h_7p22 => ?_) (fun h_7p22 => ?_)
      · skip
        refine j_aload_n (pc := 36) C 0 1 rfl rfl dX2_put_36 ?_
        refine j_get (pc := 37) C (Or.inl (List.mem_of_getElem? (i := 0) rfl)) rfl fX2_put_X2 1 (by decide) (List.mem_of_getElem? (i := 3) rfl) (Or.inl rfl) rfl dX2_put_37 ?_
        refine j_iload_n (pc := 40) C 1 2 rfl rfl dX2_put_40 ?_
        refine j_bipush (pc := 41) (w := 60) C rfl dX2_put_41 ?_
        refine j_imul (pc := 43) C dX2_put_43 ?_
        rw [show ((c * 60) : Int) = (60 * c) from Int.mul_comm _ _]
        refine j_iload_n (pc := 44) C 3 0 rfl rfl dX2_put_44 ?_
        refine j_iadd (pc := 45) C dX2_put_45 ?_
        refine j_iload_n (pc := 46) C 2 3 rfl rfl dX2_put_46 ?_
        refine j_iast (pc := 47) (ws' := [(h, oC 2 [.ref hh, .ref hm, vI (ms_w S), vI (ms_l S), vI (ms_s S), vI (ms_a S), vI (ms_t S), vI (ms_p S)]), (hh, aI (Y 0) 7 (ms_h S)), (hm, aI (Y 0) 420 (up (ms_m S) ((60 * c) + ms_h S c) x))]) C 2 rfl rfl (by omega) (by decide) rfl dX2_put_47 ?_
        refine j_aload_n (pc := 48) C 0 1 rfl rfl dX2_put_48 ?_
        refine j_get (pc := 49) C (Or.inl (List.mem_of_getElem? (i := 0) rfl)) rfl fX2_put_X2 0 (by decide) (List.mem_of_getElem? (i := 1) rfl) (Or.inl rfl) rfl dX2_put_49 ?_
        refine j_iload_n (pc := 52) C 1 2 rfl rfl dX2_put_52 ?_
        refine j_iload_n (pc := 53) C 3 0 rfl rfl dX2_put_53 ?_
        refine j_iconst (pc := 54) C dX2_put_54 ?_
        refine j_iadd (pc := 55) C dX2_put_55 ?_
        refine j_iast (pc := 56) (ws' := [(h, oC 2 [.ref hh, .ref hm, vI (ms_w S), vI (ms_l S), vI (ms_s S), vI (ms_a S), vI (ms_t S), vI (ms_p S)]), (hh, aI (Y 0) 7 (up (ms_h S) c (ms_h S c + 1))), (hm, aI (Y 0) 420 (up (ms_m S) ((60 * c) + ms_h S c) x))]) C 1 rfl rfl (by omega) (by decide) rfl dX2_put_56 ?_
        exact Rt _ _ _ _ _ (by decide) (by decide) (by rw [putS_not (by omega)]; first | done | rfl) dX2_put_57
      · skip
        refine j_aload_n (pc := 25) C 0 1 rfl rfl dX2_put_25 ?_
        refine j_dup (pc := 26) C rfl dX2_put_26 ?_
        refine j_get (pc := 27) C (Or.inl (List.mem_of_getElem? (i := 0) rfl)) rfl fX2_put_X2 7 (by decide) (List.mem_of_getElem? (i := 2) rfl) (Or.inl rfl) rfl dX2_put_27 ?_
        refine j_iconst (pc := 30) C dX2_put_30 ?_
        refine j_iadd (pc := 31) C dX2_put_31 ?_
        refine j_put (pc := 32) (ws' := [(h, oC 2 [.ref hh, .ref hm, vI (ms_w S), vI (ms_l S), vI (ms_s S), vI (ms_a S), vI (ms_t S), vI (ms_p S + 1)]), (hh, aI (Y 0) 7 (ms_h S)), (hm, aI (Y 0) 420 (ms_m S))]) C 0 rfl rfl fX2_put_X2 tyX2_ok nmX2 7 (by decide) (List.mem_of_getElem? (i := 2) rfl) (Or.inl rfl) rfl rfl rfl rfl (Nat.le_of_ble_eq_true rfl) rfl dX2_put_32 ?_
        exact Rt _ _ _ _ _ (by decide) (by decide) (by rw [putS_full (by omega)]; first | done | rfl) dX2_put_35
  · skip
    exact absurd hc h_4p4

theorem fX2_layNew_X2 : ∀ w ∈ u_ws RX2 TX2 8, w ∈ wsX2_layNew := j_words [14, 15, 16, 17, 18, 19, 20, 21] (by decide +kernel)
set_option maxHeartbeats 4000000 in
set_option maxRecDepth 100000 in
theorem c_layNew (l : Launch) (D : va_G) (Y : Nat → ClassId) (RO : va_W) (h : Nat) (hh : Nat) (hm : Nat) (S : MS) (c : Int) (n : Int)  (hS : okS S) (hc : 0 ≤ c ∧ c < 7) (hn : 0 ≤ n ∧ n ≤ 2147483646) : jMv l yX2_layNew wsX2_layNew { frames := 2, cells := 0, slots := 0, locals := 43 } D Y RO [.ref h, vI c, vI n] [(h, oC 2 [.ref hh, .ref hm, vI (ms_w S), vI (ms_l S), vI (ms_s S), vI (ms_a S), vI (ms_t S), vI (ms_p S)]), (hh, aI (Y 0) 7 (ms_h S)), (hm, aI (Y 0) 420 (ms_m S))] (fun w1 => w1 = [(h, oC 2 [.ref hh, .ref hm, vI (ms_w (layS c n S)), vI (ms_l (layS c n S)), vI (ms_s (layS c n S)), vI (ms_a (layS c n S)), vI (ms_t (layS c n S)), vI (ms_p (layS c n S))]), (hh, aI (Y 0) 7 (ms_h (layS c n S))), (hm, aI (Y 0) 420 (ms_m (layS c n S)))]) := by
  refine j_ofv RX2 rfl rfl rfl (Nat.le_of_ble_eq_true rfl) (fun X C Rt hI => ?_)
  refine j_iconst (pc := 0) C dX2_layNew_0 ?_
  refine j_istore_n (pc := 1) (lc' := [(3, vI 0), (0, .ref h), (1, vI c), (2, vI n)]) C 3 rfl (by decide) rfl dX2_layNew_1 ?_
  have hL2 : ∀ (N2 : Nat) (i : Int) (T : MS), ((n - i).toNat) < N2 → (0 ≤ i ∧ i ≤ n) → (T = putN c i S) → (okS T) → jW X 4 0 0 [(h, oC 2 [.ref hh, .ref hm, vI (ms_w T), vI (ms_l T), vI (ms_s T), vI (ms_a T), vI (ms_t T), vI (ms_p T)]), (hh, aI (Y 0) 7 (ms_h T)), (hm, aI (Y 0) 420 (ms_m T))] [(0, .ref h), (1, vI c), (2, vI n), (3, vI i)] 2 [] := by
    intro N2
    induction N2 with
    | zero => intro i T hm2 i2_0 i2_1 i2_2; omega
    | succ N2 ih2 =>
      intro i T hm2 i2_0 i2_1 i2_2
      refine j_iload_n (pc := 2) C 3 3 rfl rfl dX2_layNew_2 ?_
      refine j_iload_n (pc := 3) C 2 2 rfl rfl dX2_layNew_3 ?_
      refine j_icmp_ge (pc := 4) C 22 rfl (by omega) dX2_layNew_4 (fun h_1p4 => ?_) (fun h_1p4 => ?_)
      · skip
        refine j_aload_n (pc := 22) C 0 0 rfl rfl dX2_layNew_22 ?_
        refine j_dup (pc := 23) C rfl dX2_layNew_23 ?_
        refine j_get (pc := 24) C (Or.inl (List.mem_of_getElem? (i := 0) rfl)) rfl fX2_layNew_X2 5 (by decide) (List.mem_of_getElem? (i := 2) rfl) (Or.inl rfl) rfl dX2_layNew_24 ?_
        refine j_iload_n (pc := 27) C 2 2 rfl rfl dX2_layNew_27 ?_
        refine j_iadd (pc := 28) C dX2_layNew_28 ?_
        refine j_put (pc := 29) (ws' := [(h, oC 2 [.ref hh, .ref hm, vI (ms_w T), vI (ms_l T), vI (ms_s T), vI (ms_a T + n), vI (ms_t T), vI (ms_p T)]), (hh, aI (Y 0) 7 (ms_h T)), (hm, aI (Y 0) 420 (ms_m T))]) C 0 rfl rfl fX2_layNew_X2 tyX2_ok nmX2 5 (by decide) (List.mem_of_getElem? (i := 2) rfl) (Or.inl rfl) rfl rfl rfl rfl (Nat.le_of_ble_eq_true rfl) rfl dX2_layNew_29 ?_
        exact Rt _ _ _ _ _ (by decide) (by decide) (by rw [show n = i by omega]; unfold layS; rw [← i2_1]; first | done | rfl) dX2_layNew_32
      · skip
        refine j_aload_n (pc := 7) C 0 0 rfl rfl dX2_layNew_7 ?_
        refine j_iload_n (pc := 8) C 1 1 rfl rfl dX2_layNew_8 ?_
        refine j_aload_n (pc := 9) C 0 0 rfl rfl dX2_layNew_9 ?_
        refine j_get (pc := 10) C (Or.inl (List.mem_of_getElem? (i := 0) rfl)) rfl fX2_layNew_X2 2 (by decide) (List.mem_of_getElem? (i := 1) rfl) (Or.inl rfl) rfl dX2_layNew_10 ?_
        refine j_callVv (pc := 13) (As := [vI c, vI (ms_w T)]) (na := 2) (st := []) C [0, 1, 2] [] (wr := []) (fun l => c_put l D Y _ h hh hm T c (ms_w T) i2_2 hc) rfl rfl rfl rfl (by decide) rfl (Or.inl (List.mem_of_getElem? (i := 0) rfl)) rfl gX2_layNew_X2_put ⟨rfl, by decide +kernel⟩ (by decide) rfl rfl (Nat.le_of_ble_eq_true rfl) (by decide) dX2_layNew_13 (fun w_3 h_4 => ?_)
        subst h_4
        refine j_perm (ws' := [(h, oC 2 [.ref hh, .ref hm, vI (ms_w (putS c (ms_w T) T)), vI (ms_l (putS c (ms_w T) T)), vI (ms_s (putS c (ms_w T) T)), vI (ms_a (putS c (ms_w T) T)), vI (ms_t (putS c (ms_w T) T)), vI (ms_p (putS c (ms_w T) T))]), (hh, aI (Y 0) 7 (ms_h (putS c (ms_w T) T))), (hm, aI (Y 0) 420 (ms_m (putS c (ms_w T) T)))]) [0, 1, 2] rfl rfl ?_
        refine j_iinc (pc := 16) (lc' := [(3, vI (i + 1)), (0, .ref h), (1, vI c), (2, vI n)]) C 3 rfl (by decide) rfl dX2_layNew_16 ?_
        refine j_goto (pc := 19) C 2 rfl dX2_layNew_19 ?_
        refine j_locals (lc' := [(0, .ref h), (1, vI c), (2, vI n), (3, vI (i + 1))]) [1, 2, 3, 0] rfl ?_
        exact ih2 (i + 1) (putS c (ms_w T) T) (by omega) (by omega) (by rw [i2_1]; exact (putN_succ (by omega)).symm) (okS_put i2_2 hc ⟨i2_2.w, Int.le_refl _⟩)
  refine j_locals (lc' := [(0, .ref h), (1, vI c), (2, vI n), (3, vI 0)]) [1, 2, 3, 0] rfl ?_
  exact hL2 _ 0 S (Nat.lt_succ_self _) (by omega) rfl hS

theorem fX2_most_X2 : ∀ w ∈ u_ws RX2 TX2 8, w ∈ wsX2_most := j_words [2, 3, 4, 5, 6, 7, 8, 9] (by decide +kernel)
set_option maxHeartbeats 4000000 in
set_option maxRecDepth 100000 in
theorem c_most (l : Launch) (D : va_G) (Y : Nat → ClassId) (RO : va_W) (h : Nat) (hh : Nat) (hm : Nat) (S : MS) (r0 : (h, oC 2 [.ref hh, .ref hm, vI (ms_w S), vI (ms_l S), vI (ms_s S), vI (ms_a S), vI (ms_t S), vI (ms_p S)]) ∈ RO) (r1 : (hh, aI (Y 0) 7 (ms_h S)) ∈ RO) (hS : okS S) : jMi l yX2_most wsX2_most { frames := 0, cells := 0, slots := 0, locals := 0 } D Y RO [.ref h] [] (fun e w1 => e = mostI (ms_h S) ∧ w1 = []) := by
  refine j_ofi RX2 rfl rfl rfl (Nat.le_of_ble_eq_true rfl) (fun X C Rt => ?_)
  refine j_iconst (pc := 0) C dX2_most_0 ?_
  refine j_istore_n (pc := 1) (lc' := [(1, vI 0), (0, .ref h)]) C 1 rfl (by decide) rfl dX2_most_1 ?_
  refine j_iconst (pc := 2) C dX2_most_2 ?_
  refine j_istore_n (pc := 3) (lc' := [(2, vI 1), (1, vI 0), (0, .ref h)]) C 2 rfl (by decide) rfl dX2_most_3 ?_
  have hL4 : ∀ (N4 : Nat) (b : Int) (i : Int), ((7 - i).toNat) < N4 → (1 ≤ i ∧ i ≤ 7) → (0 ≤ b ∧ b < i) → (b = fo (mostF (ms_h S)) i 0) → jW X 3 0 0 [] [(0, .ref h), (1, vI b), (2, vI i)] 4 [] := by
    intro N4
    induction N4 with
    | zero => intro b i hm4 i4_0 i4_1 i4_2; omega
    | succ N4 ih4 =>
      intro b i hm4 i4_0 i4_1 i4_2
      refine j_iload_n (pc := 4) C 2 2 rfl rfl dX2_most_4 ?_
      refine j_bipush (pc := 5) (w := 7) C rfl dX2_most_5 ?_
      refine j_icmp_ge (pc := 7) C 33 rfl (by omega) dX2_most_7 (fun h_1p7 => ?_) (fun h_1p7 => ?_)
      · skip
        refine j_iload_n (pc := 33) C 1 1 rfl rfl dX2_most_33 ?_
        exact Rt _ _ _ _ _ _ (by decide) (by decide) ⟨by rw [i4_2, show i = 7 by omega]; rfl, rfl⟩ dX2_most_34
      · skip
        refine j_aload_n (pc := 10) C 0 0 rfl rfl dX2_most_10 ?_
        refine j_get (pc := 11) C (Or.inr r0) rfl fX2_most_X2 0 (by decide) (List.mem_of_getElem? (i := 1) rfl) (Or.inl rfl) rfl dX2_most_11 ?_
        refine j_iload_n (pc := 14) C 2 2 rfl rfl dX2_most_14 ?_
        refine j_iald (pc := 15) C (Or.inr r1) rfl (by omega) (by decide) dX2_most_15 ?_
        have f_2 := hS.1 i (by omega)
        refine j_aload_n (pc := 16) C 0 0 rfl rfl dX2_most_16 ?_
        refine j_get (pc := 17) C (Or.inr r0) rfl fX2_most_X2 0 (by decide) (List.mem_of_getElem? (i := 1) rfl) (Or.inl rfl) rfl dX2_most_17 ?_
        refine j_iload_n (pc := 20) C 1 1 rfl rfl dX2_most_20 ?_
        refine j_iald (pc := 21) C (Or.inr r1) rfl (by omega) (by decide) dX2_most_21 ?_
        have f_3 := hS.1 b (by omega)
        refine j_icmp_le (pc := 22) C 27 rfl (by omega) dX2_most_22 (fun h_4p22 => ?_) (fun h_4p22 => ?_)
        · skip
          refine j_iinc (pc := 27) (lc' := [(2, vI (i + 1)), (0, .ref h), (1, vI b)]) C 2 rfl (by decide) rfl dX2_most_27 ?_
          refine j_goto (pc := 30) C 4 rfl dX2_most_30 ?_
          refine j_locals (lc' := [(0, .ref h), (1, vI b), (2, vI (i + 1))]) [1, 2, 0] rfl ?_
          exact ih4 b (i + 1) (by omega) (by omega) (by omega) (by rw [fo_succ _ (by omega), ← i4_2]; unfold mostF; first | rw [if_pos (by omega)] | rw [if_neg (by omega)])
        · skip
          refine j_iload_n (pc := 25) C 2 2 rfl rfl dX2_most_25 ?_
          refine j_istore_n (pc := 26) (lc' := [(1, vI i), (0, .ref h), (2, vI i)]) C 1 rfl (by decide) rfl dX2_most_26 ?_
          refine j_iinc (pc := 27) (lc' := [(2, vI (i + 1)), (1, vI i), (0, .ref h)]) C 2 rfl (by decide) rfl dX2_most_27 ?_
          refine j_goto (pc := 30) C 4 rfl dX2_most_30 ?_
          refine j_locals (lc' := [(0, .ref h), (1, vI i), (2, vI (i + 1))]) [2, 1, 0] rfl ?_
          exact ih4 i (i + 1) (by omega) (by omega) (by omega) (by rw [fo_succ _ (by omega), ← i4_2]; unfold mostF; first | rw [if_pos (by omega)] | rw [if_neg (by omega)])
  refine j_locals (lc' := [(0, .ref h), (1, vI 0), (2, vI 1)]) [2, 1, 0] rfl ?_
  exact hL4 _ 0 1 (Nat.lt_succ_self _) (by omega) (by omega) (by show (0 : Int) = mostF (ms_h S) 0 0; unfold mostF; split <;> rfl)

theorem fX2_fewest_X2 : ∀ w ∈ u_ws RX2 TX2 8, w ∈ wsX2_fewest := j_words [2, 3, 4, 5, 6, 7, 8, 9] (by decide +kernel)
set_option maxHeartbeats 4000000 in
set_option maxRecDepth 100000 in
theorem c_fewest (l : Launch) (D : va_G) (Y : Nat → ClassId) (RO : va_W) (h : Nat) (hh : Nat) (hm : Nat) (S : MS) (r0 : (h, oC 2 [.ref hh, .ref hm, vI (ms_w S), vI (ms_l S), vI (ms_s S), vI (ms_a S), vI (ms_t S), vI (ms_p S)]) ∈ RO) (r1 : (hh, aI (Y 0) 7 (ms_h S)) ∈ RO) (hS : okS S) : jMi l yX2_fewest wsX2_fewest { frames := 0, cells := 0, slots := 0, locals := 0 } D Y RO [.ref h] [] (fun e w1 => e = leastI (ms_h S) ∧ w1 = []) := by
  refine j_ofi RX2 rfl rfl rfl (Nat.le_of_ble_eq_true rfl) (fun X C Rt => ?_)
  refine j_iconst (pc := 0) C dX2_fewest_0 ?_
  refine j_istore_n (pc := 1) (lc' := [(1, vI 0), (0, .ref h)]) C 1 rfl (by decide) rfl dX2_fewest_1 ?_
  refine j_iconst (pc := 2) C dX2_fewest_2 ?_
  refine j_istore_n (pc := 3) (lc' := [(2, vI 1), (1, vI 0), (0, .ref h)]) C 2 rfl (by decide) rfl dX2_fewest_3 ?_
  have hL4 : ∀ (N4 : Nat) (b : Int) (i : Int), ((7 - i).toNat) < N4 → (1 ≤ i ∧ i ≤ 7) → (0 ≤ b ∧ b < i) → (b = fo (leastF (ms_h S)) i 0) → jW X 3 0 0 [] [(0, .ref h), (1, vI b), (2, vI i)] 4 [] := by
    intro N4
    induction N4 with
    | zero => intro b i hm4 i4_0 i4_1 i4_2; omega
    | succ N4 ih4 =>
      intro b i hm4 i4_0 i4_1 i4_2
      refine j_iload_n (pc := 4) C 2 2 rfl rfl dX2_fewest_4 ?_
      refine j_bipush (pc := 5) (w := 7) C rfl dX2_fewest_5 ?_
      refine j_icmp_ge (pc := 7) C 33 rfl (by omega) dX2_fewest_7 (fun h_1p7 => ?_) (fun h_1p7 => ?_)
      · skip
        refine j_iload_n (pc := 33) C 1 1 rfl rfl dX2_fewest_33 ?_
        exact Rt _ _ _ _ _ _ (by decide) (by decide) ⟨by rw [i4_2, show i = 7 by omega]; rfl, rfl⟩ dX2_fewest_34
      · skip
        refine j_aload_n (pc := 10) C 0 0 rfl rfl dX2_fewest_10 ?_
        refine j_get (pc := 11) C (Or.inr r0) rfl fX2_fewest_X2 0 (by decide) (List.mem_of_getElem? (i := 1) rfl) (Or.inl rfl) rfl dX2_fewest_11 ?_
        refine j_iload_n (pc := 14) C 2 2 rfl rfl dX2_fewest_14 ?_
        refine j_iald (pc := 15) C (Or.inr r1) rfl (by omega) (by decide) dX2_fewest_15 ?_
        have f_2 := hS.1 i (by omega)
        refine j_aload_n (pc := 16) C 0 0 rfl rfl dX2_fewest_16 ?_
        refine j_get (pc := 17) C (Or.inr r0) rfl fX2_fewest_X2 0 (by decide) (List.mem_of_getElem? (i := 1) rfl) (Or.inl rfl) rfl dX2_fewest_17 ?_
        refine j_iload_n (pc := 20) C 1 1 rfl rfl dX2_fewest_20 ?_
        refine j_iald (pc := 21) C (Or.inr r1) rfl (by omega) (by decide) dX2_fewest_21 ?_
        have f_3 := hS.1 b (by omega)
        refine j_icmp_ge (pc := 22) C 27 rfl (by omega) dX2_fewest_22 (fun h_4p22 => ?_) (fun h_4p22 => ?_)
        · skip
          refine j_iinc (pc := 27) (lc' := [(2, vI (i + 1)), (0, .ref h), (1, vI b)]) C 2 rfl (by decide) rfl dX2_fewest_27 ?_
          refine j_goto (pc := 30) C 4 rfl dX2_fewest_30 ?_
          refine j_locals (lc' := [(0, .ref h), (1, vI b), (2, vI (i + 1))]) [1, 2, 0] rfl ?_
          exact ih4 b (i + 1) (by omega) (by omega) (by omega) (by rw [fo_succ _ (by omega), ← i4_2]; unfold leastF; first | rw [if_pos (by omega)] | rw [if_neg (by omega)])
        · skip
          refine j_iload_n (pc := 25) C 2 2 rfl rfl dX2_fewest_25 ?_
          refine j_istore_n (pc := 26) (lc' := [(1, vI i), (0, .ref h), (2, vI i)]) C 1 rfl (by decide) rfl dX2_fewest_26 ?_
          refine j_iinc (pc := 27) (lc' := [(2, vI (i + 1)), (1, vI i), (0, .ref h)]) C 2 rfl (by decide) rfl dX2_fewest_27 ?_
          refine j_goto (pc := 30) C 4 rfl dX2_fewest_30 ?_
          refine j_locals (lc' := [(0, .ref h), (1, vI i), (2, vI (i + 1))]) [2, 1, 0] rfl ?_
          exact ih4 i (i + 1) (by omega) (by omega) (by omega) (by rw [fo_succ _ (by omega), ← i4_2]; unfold leastF; first | rw [if_pos (by omega)] | rw [if_neg (by omega)])
  refine j_locals (lc' := [(0, .ref h), (1, vI 0), (2, vI 1)]) [2, 1, 0] rfl ?_
  exact hL4 _ 0 1 (Nat.lt_succ_self _) (by omega) (by omega) (by show (0 : Int) = leastF (ms_h S) 0 0; unfold leastF; split <;> rfl)

set_option maxHeartbeats 4000000 in
set_option maxRecDepth 100000 in
theorem c_X5_gift (l : Launch) (D : va_G) (Y : Nat → ClassId) (RO : va_W) (a : Nat)   : jMi l yX5_gift wsX5_gift { frames := 0, cells := 0, slots := 0, locals := 0 } D Y RO [.ref a] [] (fun e w1 => e = 1 ∧ w1 = []) := by
  refine j_ofi RX5 rfl rfl rfl (Nat.le_of_ble_eq_true rfl) (fun X C Rt => ?_)
  refine j_iconst (pc := 0) C dX5_gift_0 ?_
  exact Rt _ _ _ _ _ _ (by decide) (by decide) ⟨rfl, rfl⟩ dX5_gift_1

set_option maxHeartbeats 4000000 in
set_option maxRecDepth 100000 in
theorem c_X5_hidesOn (l : Launch) (D : va_G) (Y : Nat → ClassId) (RO : va_W) (a : Nat)   : jMi l yX5_hidesOn wsX5_hidesOn { frames := 0, cells := 0, slots := 0, locals := 0 } D Y RO [.ref a] [] (fun e w1 => e = (-1) ∧ w1 = []) := by
  refine j_ofi RX5 rfl rfl rfl (Nat.le_of_ble_eq_true rfl) (fun X C Rt => ?_)
  refine j_iconst (pc := 0) C dX5_hidesOn_0 ?_
  exact Rt _ _ _ _ _ _ (by decide) (by decide) ⟨rfl, rfl⟩ dX5_hidesOn_1

set_option maxHeartbeats 4000000 in
set_option maxRecDepth 100000 in
theorem c_X5_sinsAtMost (l : Launch) (D : va_G) (Y : Nat → ClassId) (RO : va_W) (a : Nat)   : jMi l yX5_sinsAtMost wsX5_sinsAtMost { frames := 0, cells := 0, slots := 0, locals := 0 } D Y RO [.ref a] [] (fun e w1 => e = 0 ∧ w1 = []) := by
  refine j_ofz RX5 rfl rfl rfl (Nat.le_of_ble_eq_true rfl) (fun X C Rt => ?_)
  refine j_iconst (pc := 0) C dX5_sinsAtMost_0 ?_
  exact Rt _ _ _ _ _ _ (by decide) (by decide) (by decide) ⟨rfl, rfl⟩ dX5_sinsAtMost_1

set_option maxHeartbeats 4000000 in
set_option maxRecDepth 100000 in
theorem c_X0_sinsAtMost (l : Launch) (D : va_G) (Y : Nat → ClassId) (RO : va_W) (a : Nat)   : jMi l yX0_sinsAtMost wsX0_sinsAtMost { frames := 0, cells := 0, slots := 0, locals := 0 } D Y RO [.ref a] [] (fun e w1 => e = 1 ∧ w1 = []) := by
  refine j_ofz RX0 rfl rfl rfl (Nat.le_of_ble_eq_true rfl) (fun X C Rt => ?_)
  refine j_iconst (pc := 0) C dX0_sinsAtMost_0 ?_
  exact Rt _ _ _ _ _ _ (by decide) (by decide) (by decide) ⟨rfl, rfl⟩ dX0_sinsAtMost_1

theorem fX6_gift_X0 : ∀ w ∈ u_ws RX0 TX0 4, w ∈ wsX6_gift := j_words [3, 4, 5, 6] (by decide +kernel)
theorem fX6_gift_X5 : ∀ w ∈ u_ws RX5 TX5 4, w ∈ wsX6_gift := j_words [7, 8, 9, 10] (by decide +kernel)
theorem fX6_gift_X6 : ∀ w ∈ u_ws RX6 TX6 4, w ∈ wsX6_gift := j_words [11, 12, 13, 14] (by decide +kernel)
theorem fX6_gift_X7 : ∀ w ∈ u_ws RX7 TX7 4, w ∈ wsX6_gift := j_words [15, 16, 17, 18] (by decide +kernel)
set_option maxHeartbeats 4000000 in
set_option maxRecDepth 100000 in
theorem c_X6_gift (l : Launch) (D : va_G) (Y : Nat → ClassId) (RO : va_W) (a : Nat) (P : PT) (hp : pC a P ∈ RO) (hP : okP P) : jMi l yX6_gift wsX6_gift { frames := 0, cells := 0, slots := 0, locals := 0 } D Y RO [.ref a] [] (fun e w1 => e = pn P ∧ w1 = []) := by
  refine j_ofi RX6 rfl rfl rfl (Nat.le_of_ble_eq_true rfl) (fun X C Rt => ?_)
  refine j_aload_n (pc := 0) C 0 0 rfl rfl dX6_gift_0 ?_
  refine j_getP (pc := 1) C (Or.inr hp) hP.1 fX6_gift_X5 fX6_gift_X6 fX6_gift_X7 fX6_gift_X0 0 (by decide) (List.mem_of_getElem? (i := 1) rfl) (Or.inr (List.mem_of_getElem? (i := 2) rfl)) rfl dX6_gift_1 ?_
  exact Rt _ _ _ _ _ _ (by decide) (by decide) ⟨rfl, rfl⟩ dX6_gift_4

theorem fX7_hidesOn_X0 : ∀ w ∈ u_ws RX0 TX0 4, w ∈ wsX7_hidesOn := j_words [3, 4, 5, 6] (by decide +kernel)
theorem fX7_hidesOn_X5 : ∀ w ∈ u_ws RX5 TX5 4, w ∈ wsX7_hidesOn := j_words [7, 8, 9, 10] (by decide +kernel)
theorem fX7_hidesOn_X6 : ∀ w ∈ u_ws RX6 TX6 4, w ∈ wsX7_hidesOn := j_words [11, 12, 13, 14] (by decide +kernel)
theorem fX7_hidesOn_X7 : ∀ w ∈ u_ws RX7 TX7 4, w ∈ wsX7_hidesOn := j_words [15, 16, 17, 18] (by decide +kernel)
set_option maxHeartbeats 4000000 in
set_option maxRecDepth 100000 in
theorem c_X7_hidesOn (l : Launch) (D : va_G) (Y : Nat → ClassId) (RO : va_W) (a : Nat) (P : PT) (hp : pC a P ∈ RO) (hP : okP P) : jMi l yX7_hidesOn wsX7_hidesOn { frames := 0, cells := 0, slots := 0, locals := 0 } D Y RO [.ref a] [] (fun e w1 => e = pn P ∧ w1 = []) := by
  refine j_ofi RX7 rfl rfl rfl (Nat.le_of_ble_eq_true rfl) (fun X C Rt => ?_)
  refine j_aload_n (pc := 0) C 0 0 rfl rfl dX7_hidesOn_0 ?_
  refine j_getP (pc := 1) C (Or.inr hp) hP.1 fX7_hidesOn_X5 fX7_hidesOn_X6 fX7_hidesOn_X7 fX7_hidesOn_X0 0 (by decide) (List.mem_of_getElem? (i := 1) rfl) (Or.inr (List.mem_of_getElem? (i := 2) rfl)) rfl dX7_hidesOn_1 ?_
  exact Rt _ _ _ _ _ _ (by decide) (by decide) ⟨rfl, rfl⟩ dX7_hidesOn_4

theorem fX1_told_X1 : ∀ w ∈ u_ws RX1 TX1 3, w ∈ wsX1_told := j_words [4, 5, 6] (by decide +kernel)
set_option maxHeartbeats 4000000 in
set_option maxRecDepth 100000 in
theorem c_ctold (l : Launch) (D : va_G) (Y : Nat → ClassId) (RO : va_W) (a : Nat) (Cu : CT) (what : Int) (hc : (a, oC 1 [vI (cw Cu), vI (cz Cu), vI (ce Cu)]) ∈ RO) (hw : -2147483648 ≤ what ∧ what ≤ 2147483647) : jMi l yX1_told wsX1_told { frames := 0, cells := 0, slots := 0, locals := 0 } D Y RO [.ref a, vI what] [] (fun e w1 => e = toldC Cu what ∧ w1 = []) := by
  refine j_ofi RX1 rfl rfl rfl (Nat.le_of_ble_eq_true rfl) (fun X C Rt => ?_)
  refine j_iload_n (pc := 0) C 1 1 rfl rfl dX1_told_0 ?_
  refine j_if_ne (pc := 1) C 9 rfl (by omega) dX1_told_1 (fun h_1p1 => ?_) (fun h_1p1 => ?_)
  · skip
    refine j_iload_n (pc := 9) C 1 1 rfl rfl dX1_told_9 ?_
    refine j_iconst (pc := 10) C dX1_told_10 ?_
    refine j_icmp_ne (pc := 11) C 21 rfl (by omega) dX1_told_11 (fun h_2p11 => ?_) (fun h_2p11 => ?_)
    · skip
      refine j_aload_n (pc := 21) C 0 0 rfl rfl dX1_told_21 ?_
      refine j_get (pc := 22) C (Or.inr hc) rfl fX1_told_X1 2 (by decide) (List.mem_of_getElem? (i := 3) rfl) (Or.inl rfl) rfl dX1_told_22 ?_
      exact Rt _ _ _ _ _ _ (by decide) (by decide) ⟨by unfold toldC; rw [if_neg (by omega)]; first | rw [if_pos (by omega)] | rw [if_neg (by omega)], rfl⟩ dX1_told_25
    · skip
      refine j_aload_n (pc := 14) C 0 0 rfl rfl dX1_told_14 ?_
      refine j_get (pc := 15) C (Or.inr hc) rfl fX1_told_X1 1 (by decide) (List.mem_of_getElem? (i := 2) rfl) (Or.inl rfl) rfl dX1_told_15 ?_
      refine j_goto (pc := 18) C 25 rfl dX1_told_18 ?_
      exact Rt _ _ _ _ _ _ (by decide) (by decide) ⟨by unfold toldC; rw [if_neg (by omega)]; first | rw [if_pos (by omega)] | rw [if_neg (by omega)], rfl⟩ dX1_told_25
  · skip
    refine j_aload_n (pc := 4) C 0 0 rfl rfl dX1_told_4 ?_
    refine j_get (pc := 5) C (Or.inr hc) rfl fX1_told_X1 0 (by decide) (List.mem_of_getElem? (i := 1) rfl) (Or.inl rfl) rfl dX1_told_5 ?_
    exact Rt _ _ _ _ _ _ (by decide) (by decide) ⟨by unfold toldC; rw [if_pos (by omega)], rfl⟩ dX1_told_8

theorem fX1_floodsIn_X1 : ∀ w ∈ u_ws RX1 TX1 3, w ∈ wsX1_floodsIn := j_words [2, 3, 4] (by decide +kernel)
set_option maxHeartbeats 4000000 in
set_option maxRecDepth 100000 in
theorem c_floodsIn (l : Launch) (D : va_G) (Y : Nat → ClassId) (RO : va_W) (a : Nat) (Cu : CT) (w : Int) (hc : (a, oC 1 [vI (cw Cu), vI (cz Cu), vI (ce Cu)]) ∈ RO) (hC : okC Cu) (hw : 0 ≤ w ∧ w ≤ 2147483646) : jMi l yX1_floodsIn wsX1_floodsIn { frames := 0, cells := 0, slots := 0, locals := 0 } D Y RO [.ref a, vI w] [] (fun e w1 => e = (if 0 < ce Cu ∧ w % ce Cu = 0 then 1 else 0) ∧ w1 = []) := by
  refine j_ofz RX1 rfl rfl rfl (Nat.le_of_ble_eq_true rfl) (fun X C Rt => ?_)
  have hC2 := hC.2.2
  refine j_aload_n (pc := 0) C 0 0 rfl rfl dX1_floodsIn_0 ?_
  refine j_get (pc := 1) C (Or.inr hc) rfl fX1_floodsIn_X1 2 (by decide) (List.mem_of_getElem? (i := 1) rfl) (Or.inl rfl) rfl dX1_floodsIn_1 ?_
  refine j_if_le (pc := 4) C 20 rfl (by omega) dX1_floodsIn_4 (fun h_1p4 => ?_) (fun h_1p4 => ?_)
  · skip
    refine j_iconst (pc := 20) C dX1_floodsIn_20 ?_
    exact Rt _ _ _ _ _ _ (by decide) (by decide) (by decide) ⟨by split <;> first | rfl | (exfalso; omega) | (exfalso; rename_i q; exact q ⟨by omega, by omega⟩) | (exfalso; rename_i q; have := q.2; omega), rfl⟩ dX1_floodsIn_21
  · skip
    refine j_iload_n (pc := 7) C 1 1 rfl rfl dX1_floodsIn_7 ?_
    refine j_aload_n (pc := 8) C 0 0 rfl rfl dX1_floodsIn_8 ?_
    refine j_get (pc := 9) C (Or.inr hc) rfl fX1_floodsIn_X1 2 (by decide) (List.mem_of_getElem? (i := 1) rfl) (Or.inl rfl) rfl dX1_floodsIn_9 ?_
    refine j_irem (pc := 12) C (by omega) dX1_floodsIn_12 ?_
    refine j_if_ne (pc := 13) C 20 rfl (by have := Int.emod_nonneg w (show ce Cu ≠ 0 by omega); have := Int.emod_lt_of_pos w (show 0 < ce Cu by omega); omega) dX1_floodsIn_13 (fun h_2p13 => ?_) (fun h_2p13 => ?_)
    · skip
      refine j_iconst (pc := 20) C dX1_floodsIn_20 ?_
      exact Rt _ _ _ _ _ _ (by decide) (by decide) (by decide) ⟨by split <;> first | rfl | (exfalso; omega) | (exfalso; rename_i q; exact q ⟨by omega, by omega⟩) | (exfalso; rename_i q; have := q.2; omega), rfl⟩ dX1_floodsIn_21
    · skip
      refine j_iconst (pc := 16) C dX1_floodsIn_16 ?_
      refine j_goto (pc := 17) C 21 rfl dX1_floodsIn_17 ?_
      exact Rt _ _ _ _ _ _ (by decide) (by decide) (by decide) ⟨by split <;> first | rfl | (exfalso; omega) | (exfalso; rename_i q; exact q ⟨by omega, by omega⟩) | (exfalso; rename_i q; have := q.2; omega), rfl⟩ dX1_floodsIn_21
