set_option maxHeartbeats 4000000 in
set_option maxRecDepth 100000 in
theorem m_within (l : Launch) (D : va_G) (Y : Nat → ClassId) (RO : va_W) (v : Int) (lo : Int) (hi : Int)  (h1 : -2147483648 ≤ v ∧ v ≤ 2147483647) (h2 : -2147483648 ≤ lo ∧ lo ≤ 2147483647) (h3 : -2147483648 ≤ hi ∧ hi ≤ 2147483647) : jMi l yX10_within wsX10_within { frames := 0, cells := 0, slots := 0, locals := 0 } D Y RO [vI v, vI lo, vI hi] [] (fun e w1 => e = (if lo ≤ v ∧ v ≤ hi then 1 else 0) ∧ w1 = []) := by
  refine j_ofz RX10 rfl rfl rfl (Nat.le_of_ble_eq_true rfl) (fun X C Rt => ?_)
  refine j_iload_n (pc := 0) C 0 0 rfl rfl dX10_within_0 ?_
  refine j_iload_n (pc := 1) C 1 1 rfl rfl dX10_within_1 ?_
  refine j_icmp_lt (pc := 2) C 14 rfl (by omega) dX10_within_2 (fun h_1p2 => ?_) (fun h_1p2 => ?_)
  · skip
    refine j_iconst (pc := 14) C dX10_within_14 ?_
    exact Rt _ _ _ _ _ _ (by decide) (by decide) (by decide) ⟨by split <;> omega, rfl⟩ dX10_within_15
  · skip
    refine j_iload_n (pc := 5) C 0 0 rfl rfl dX10_within_5 ?_
    refine j_iload_n (pc := 6) C 2 2 rfl rfl dX10_within_6 ?_
    refine j_icmp_gt (pc := 7) C 14 rfl (by omega) dX10_within_7 (fun h_2p7 => ?_) (fun h_2p7 => ?_)
    · skip
      refine j_iconst (pc := 14) C dX10_within_14 ?_
      exact Rt _ _ _ _ _ _ (by decide) (by decide) (by decide) ⟨by split <;> omega, rfl⟩ dX10_within_15
    · skip
      refine j_iconst (pc := 10) C dX10_within_10 ?_
      refine j_goto (pc := 11) C 15 rfl dX10_within_11 ?_
      exact Rt _ _ _ _ _ _ (by decide) (by decide) (by decide) ⟨by split <;> omega, rfl⟩ dX10_within_15

set_option maxHeartbeats 4000000 in
set_option maxRecDepth 100000 in
theorem m_isCairn (l : Launch) (D : va_G) (Y : Nat → ClassId) (RO : va_W) (c : Int)  (hc : -2147483648 ≤ c ∧ c ≤ 2147483647) : jMi l yX10_isCairn wsX10_isCairn { frames := 1, cells := 0, slots := 0, locals := 22 } D Y RO [vI c] [] (fun e w1 => e = (if 0 ≤ c ∧ c ≤ 6 then 1 else 0) ∧ w1 = []) := by
  refine j_ofz RX10 rfl rfl rfl (Nat.le_of_ble_eq_true rfl) (fun X C Rt => ?_)
  refine j_iload_n (pc := 0) C 0 0 rfl rfl dX10_isCairn_0 ?_
  refine j_iconst (pc := 1) C dX10_isCairn_1 ?_
  refine j_bipush (pc := 2) (w := 6) C rfl dX10_isCairn_2 ?_
  refine j_callSi (pc := 4) (As := [vI c, vI 0, vI 6]) (na := 3) (st := []) C [] [] (wr := []) (fun l => m_within l D Y _ c 0 6 (by first | assumption | omega) (by first | assumption | omega) (by first | assumption | omega)) rfl rfl rfl rfl (by decide) rfl gX10_isCairn_X10_within (by decide +kernel) (by decide) rfl rfl (Nat.le_of_ble_eq_true rfl) (by decide) dX10_isCairn_4 (fun e_1 w_2 h_3 => ?_)
  obtain ⟨rfl, rfl⟩ := h_3
  refine j_perm (ws' := []) [] rfl rfl ?_
  exact Rt _ _ _ _ _ _ (by decide) (by decide) (by split <;> simp) ⟨rfl, rfl⟩ dX10_isCairn_7

theorem fX10_put_X10 : ∀ w ∈ u_ws RX10 TX10 35, w ∈ wsX10_put := j_words [4, 5, 6, 7, 8, 9, 10, 11, 12, 13, 14, 15, 16, 17, 18, 19, 20, 21, 22, 23, 24, 25, 26, 27, 28, 29, 30, 31, 32, 33, 34, 35, 36, 37, 38] (by decide +kernel)
set_option maxHeartbeats 4000000 in
set_option maxRecDepth 100000 in
theorem m_put (l : Launch) (D : va_G) (Y : Nat → ClassId) (RO : va_W) (h : Nat) (r : Nat → Nat) (S : MS) (G : GS) (c : Int) (x : Int)  (hS : okS S) (hc : 0 ≤ c ∧ c < 7) : jMv l yX10_put wsX10_put { frames := 0, cells := 0, slots := 0, locals := 0 } D Y RO [.ref h, vI c, vI x] [(h, oC 9 [.ref (r 0), .ref (r 1), vI (ms_w S), vI (ms_l S), vL (ms_s S), vI (ms_a S), vI (ms_t S), vI (ms_p S), vI (g_np G), .ref (r 9), .ref (r 10), .ref (r 11), .ref (r 12), .ref (r 13), vI (g_nc G), .ref (r 15), .ref (r 16), .ref (r 17), vI (g_pl G), .ref (r 19), vI (g_ik G), vL (g_ks G), .ref (r 22), vL (g_ss G), .ref (r 24), vI (g_fa G), vI (g_iw G), vI (g_nw G), vI (g_ns G), vI (g_ne G), .ref (r 30), .ref (r 31), .ref (r 32), .ref (r 33), vL (g_h G)]), ((r 1), aI (Y 0) 7 (ms_h S)), ((r 0), aI (Y 0) 420 (ms_m S))] (fun w1 => w1 = [(h, oC 9 [.ref (r 0), .ref (r 1), vI (ms_w (putS c x S)), vI (ms_l (putS c x S)), vL (ms_s (putS c x S)), vI (ms_a (putS c x S)), vI (ms_t (putS c x S)), vI (ms_p (putS c x S)), vI (g_np G), .ref (r 9), .ref (r 10), .ref (r 11), .ref (r 12), .ref (r 13), vI (g_nc G), .ref (r 15), .ref (r 16), .ref (r 17), vI (g_pl G), .ref (r 19), vI (g_ik G), vL (g_ks G), .ref (r 22), vL (g_ss G), .ref (r 24), vI (g_fa G), vI (g_iw G), vI (g_nw G), vI (g_ns G), vI (g_ne G), .ref (r 30), .ref (r 31), .ref (r 32), .ref (r 33), vL (g_h G)]), ((r 1), aI (Y 0) 7 (ms_h (putS c x S))), ((r 0), aI (Y 0) 420 (ms_m (putS c x S)))]) := by
  refine j_ofv RX10 rfl rfl rfl (Nat.le_of_ble_eq_true rfl) (fun X C Rt hI => ?_)
  refine j_aload_n (pc := 0) C 0 0 rfl rfl dX10_put_0 ?_
  refine j_get (pc := 1) C (Or.inl (List.mem_of_getElem? (i := 0) rfl)) rfl fX10_put_X10 1 (by decide) (List.mem_of_getElem? (i := 1) rfl) (Or.inl rfl) rfl dX10_put_1 ?_
  refine j_iload_n (pc := 4) C 1 1 rfl rfl dX10_put_4 ?_
  refine j_iald (pc := 5) C (Or.inl (List.mem_of_getElem? (i := 1) rfl)) rfl (by omega) (by decide) dX10_put_5 ?_
  have f_1 := hS.1 c (by omega)
  refine j_bipush (pc := 6) (w := 60) C rfl dX10_put_6 ?_
  refine j_icmp_ne (pc := 8) C 22 rfl (by omega) dX10_put_8 (fun h_2p8 => ?_) (fun h_2p8 => ?_)
  · skip
    refine j_aload_n (pc := 22) C 0 0 rfl rfl dX10_put_22 ?_
    refine j_get (pc := 23) C (Or.inl (List.mem_of_getElem? (i := 0) rfl)) rfl fX10_put_X10 0 (by decide) (List.mem_of_getElem? (i := 3) rfl) (Or.inl rfl) rfl dX10_put_23 ?_
    refine j_bipush (pc := 26) (w := 60) C rfl dX10_put_26 ?_
    refine j_iload_n (pc := 28) C 1 1 rfl rfl dX10_put_28 ?_
    refine j_imul (pc := 29) C dX10_put_29 ?_
    refine j_aload_n (pc := 30) C 0 0 rfl rfl dX10_put_30 ?_
    refine j_get (pc := 31) C (Or.inl (List.mem_of_getElem? (i := 0) rfl)) rfl fX10_put_X10 1 (by decide) (List.mem_of_getElem? (i := 1) rfl) (Or.inl rfl) rfl dX10_put_31 ?_
    refine j_iload_n (pc := 34) C 1 1 rfl rfl dX10_put_34 ?_
    refine j_iald (pc := 35) C (Or.inl (List.mem_of_getElem? (i := 1) rfl)) rfl (by omega) (by decide) dX10_put_35 ?_
    have f_3 := hS.1 c (by omega)
    refine j_iadd (pc := 36) C dX10_put_36 ?_
    refine j_iload_n (pc := 37) C 2 2 rfl rfl dX10_put_37 ?_
    refine j_iast (pc := 38) (ws' := [(h, oC 9 [.ref (r 0), .ref (r 1), vI (ms_w S), vI (ms_l S), vL (ms_s S), vI (ms_a S), vI (ms_t S), vI (ms_p S), vI (g_np G), .ref (r 9), .ref (r 10), .ref (r 11), .ref (r 12), .ref (r 13), vI (g_nc G), .ref (r 15), .ref (r 16), .ref (r 17), vI (g_pl G), .ref (r 19), vI (g_ik G), vL (g_ks G), .ref (r 22), vL (g_ss G), .ref (r 24), vI (g_fa G), vI (g_iw G), vI (g_nw G), vI (g_ns G), vI (g_ne G), .ref (r 30), .ref (r 31), .ref (r 32), .ref (r 33), vL (g_h G)]), ((r 1), aI (Y 0) 7 (ms_h S)), ((r 0), aI (Y 0) 420 (up (ms_m S) ((60 * c) + ms_h S c) x))]) C 2 rfl rfl (by omega) (by decide) rfl dX10_put_38 ?_
    refine j_aload_n (pc := 39) C 0 0 rfl rfl dX10_put_39 ?_
    refine j_get (pc := 40) C (Or.inl (List.mem_of_getElem? (i := 0) rfl)) rfl fX10_put_X10 1 (by decide) (List.mem_of_getElem? (i := 1) rfl) (Or.inl rfl) rfl dX10_put_40 ?_
    refine j_iload_n (pc := 43) C 1 1 rfl rfl dX10_put_43 ?_
    refine j_dup2 (pc := 44) C rfl rfl dX10_put_44 ?_
    refine j_iald (pc := 45) C (Or.inl (List.mem_of_getElem? (i := 1) rfl)) rfl (by omega) (by decide) dX10_put_45 ?_
    have f_4 := hS.1 c (by omega)
    refine j_iconst (pc := 46) C dX10_put_46 ?_
    refine j_iadd (pc := 47) C dX10_put_47 ?_
    refine j_iast (pc := 48) (ws' := [(h, oC 9 [.ref (r 0), .ref (r 1), vI (ms_w S), vI (ms_l S), vL (ms_s S), vI (ms_a S), vI (ms_t S), vI (ms_p S), vI (g_np G), .ref (r 9), .ref (r 10), .ref (r 11), .ref (r 12), .ref (r 13), vI (g_nc G), .ref (r 15), .ref (r 16), .ref (r 17), vI (g_pl G), .ref (r 19), vI (g_ik G), vL (g_ks G), .ref (r 22), vL (g_ss G), .ref (r 24), vI (g_fa G), vI (g_iw G), vI (g_nw G), vI (g_ns G), vI (g_ne G), .ref (r 30), .ref (r 31), .ref (r 32), .ref (r 33), vL (g_h G)]), ((r 1), aI (Y 0) 7 (up (ms_h S) c (ms_h S c + 1))), ((r 0), aI (Y 0) 420 (up (ms_m S) ((60 * c) + ms_h S c) x))]) C 1 rfl rfl (by omega) (by decide) rfl dX10_put_48 ?_
    exact Rt _ _ _ _ _ (by decide) (by decide) (by rw [putS_not (by omega)]; first | done | rfl) dX10_put_49
  · skip
    refine j_aload_n (pc := 11) C 0 0 rfl rfl dX10_put_11 ?_
    refine j_dup (pc := 12) C rfl dX10_put_12 ?_
    refine j_get (pc := 13) C (Or.inl (List.mem_of_getElem? (i := 0) rfl)) rfl fX10_put_X10 7 (by decide) (List.mem_of_getElem? (i := 2) rfl) (Or.inl rfl) rfl dX10_put_13 ?_
    refine j_iconst (pc := 16) C dX10_put_16 ?_
    refine j_iadd (pc := 17) C dX10_put_17 ?_
    refine j_put (pc := 18) (ws' := [(h, oC 9 [.ref (r 0), .ref (r 1), vI (ms_w S), vI (ms_l S), vL (ms_s S), vI (ms_a S), vI (ms_t S), vI (ms_p S + 1), vI (g_np G), .ref (r 9), .ref (r 10), .ref (r 11), .ref (r 12), .ref (r 13), vI (g_nc G), .ref (r 15), .ref (r 16), .ref (r 17), vI (g_pl G), .ref (r 19), vI (g_ik G), vL (g_ks G), .ref (r 22), vL (g_ss G), .ref (r 24), vI (g_fa G), vI (g_iw G), vI (g_nw G), vI (g_ns G), vI (g_ne G), .ref (r 30), .ref (r 31), .ref (r 32), .ref (r 33), vL (g_h G)]), ((r 1), aI (Y 0) 7 (ms_h S)), ((r 0), aI (Y 0) 420 (ms_m S))]) C 0 rfl rfl fX10_put_X10 tyX10_ok nmX10 7 (by decide) (List.mem_of_getElem? (i := 2) rfl) (Or.inl rfl) rfl rfl rfl rfl (Nat.le_of_ble_eq_true rfl) rfl dX10_put_18 ?_
    exact Rt _ _ _ _ _ (by decide) (by decide) (by rw [putS_full (by omega)]; first | done | rfl) dX10_put_21

theorem fX10_layAll_X10 : ∀ w ∈ u_ws RX10 TX10 35, w ∈ wsX10_layAll := j_words [11, 12, 13, 14, 15, 16, 17, 18, 19, 20, 21, 22, 23, 24, 25, 26, 27, 28, 29, 30, 31, 32, 33, 34, 35, 36, 37, 38, 39, 40, 41, 42, 43, 44, 45] (by decide +kernel)
set_option maxHeartbeats 4000000 in
set_option maxRecDepth 100000 in
theorem m_layAll (l : Launch) (D : va_G) (Y : Nat → ClassId) (RO : va_W) (h : Nat) (r : Nat → Nat) (S : MS) (G : GS) (c : Int) (n : Int)  (hS : okS S) (hc : 0 ≤ c ∧ c < 7) (hn : 0 ≤ n ∧ n ≤ 2147483646) : jMv l yX10_layAll wsX10_layAll { frames := 1, cells := 0, slots := 0, locals := 22 } D Y RO [.ref h, vI c, vI n] [(h, oC 9 [.ref (r 0), .ref (r 1), vI (ms_w S), vI (ms_l S), vL (ms_s S), vI (ms_a S), vI (ms_t S), vI (ms_p S), vI (g_np G), .ref (r 9), .ref (r 10), .ref (r 11), .ref (r 12), .ref (r 13), vI (g_nc G), .ref (r 15), .ref (r 16), .ref (r 17), vI (g_pl G), .ref (r 19), vI (g_ik G), vL (g_ks G), .ref (r 22), vL (g_ss G), .ref (r 24), vI (g_fa G), vI (g_iw G), vI (g_nw G), vI (g_ns G), vI (g_ne G), .ref (r 30), .ref (r 31), .ref (r 32), .ref (r 33), vL (g_h G)]), ((r 1), aI (Y 0) 7 (ms_h S)), ((r 0), aI (Y 0) 420 (ms_m S))] (fun w1 => w1 = [(h, oC 9 [.ref (r 0), .ref (r 1), vI (ms_w (layS c n S)), vI (ms_l (layS c n S)), vL (ms_s (layS c n S)), vI (ms_a (layS c n S)), vI (ms_t (layS c n S)), vI (ms_p (layS c n S)), vI (g_np G), .ref (r 9), .ref (r 10), .ref (r 11), .ref (r 12), .ref (r 13), vI (g_nc G), .ref (r 15), .ref (r 16), .ref (r 17), vI (g_pl G), .ref (r 19), vI (g_ik G), vL (g_ks G), .ref (r 22), vL (g_ss G), .ref (r 24), vI (g_fa G), vI (g_iw G), vI (g_nw G), vI (g_ns G), vI (g_ne G), .ref (r 30), .ref (r 31), .ref (r 32), .ref (r 33), vL (g_h G)]), ((r 1), aI (Y 0) 7 (ms_h (layS c n S))), ((r 0), aI (Y 0) 420 (ms_m (layS c n S)))]) := by
  refine j_ofv RX10 rfl rfl rfl (Nat.le_of_ble_eq_true rfl) (fun X C Rt hI => ?_)
  refine j_aload_n (pc := 0) C 0 0 rfl rfl dX10_layAll_0 ?_
  refine j_dup (pc := 1) C rfl dX10_layAll_1 ?_
  refine j_get (pc := 2) C (Or.inl (List.mem_of_getElem? (i := 0) rfl)) rfl fX10_layAll_X10 5 (by decide) (List.mem_of_getElem? (i := 1) rfl) (Or.inl rfl) rfl dX10_layAll_2 ?_
  refine j_iload_n (pc := 5) C 2 2 rfl rfl dX10_layAll_5 ?_
  refine j_iadd (pc := 6) C dX10_layAll_6 ?_
  refine j_put (pc := 7) (ws' := [(h, oC 9 [.ref (r 0), .ref (r 1), vI (ms_w S), vI (ms_l S), vL (ms_s S), vI (ms_a S + n), vI (ms_t S), vI (ms_p S), vI (g_np G), .ref (r 9), .ref (r 10), .ref (r 11), .ref (r 12), .ref (r 13), vI (g_nc G), .ref (r 15), .ref (r 16), .ref (r 17), vI (g_pl G), .ref (r 19), vI (g_ik G), vL (g_ks G), .ref (r 22), vL (g_ss G), .ref (r 24), vI (g_fa G), vI (g_iw G), vI (g_nw G), vI (g_ns G), vI (g_ne G), .ref (r 30), .ref (r 31), .ref (r 32), .ref (r 33), vL (g_h G)]), ((r 1), aI (Y 0) 7 (ms_h S)), ((r 0), aI (Y 0) 420 (ms_m S))]) C 0 rfl rfl fX10_layAll_X10 tyX10_ok nmX10 5 (by decide) (List.mem_of_getElem? (i := 1) rfl) (Or.inl rfl) rfl rfl rfl rfl (Nat.le_of_ble_eq_true rfl) rfl dX10_layAll_7 ?_
  refine j_iconst (pc := 10) C dX10_layAll_10 ?_
  refine j_istore_n (pc := 11) (lc' := [(3, vI 0), (0, .ref h), (1, vI c), (2, vI n)]) C 3 rfl (by decide) rfl dX10_layAll_11 ?_
  have hL12 : ∀ (N12 : Nat) (i : Int) (T : MS), ((n - i).toNat) < N12 → (0 ≤ i ∧ i ≤ n) → (T = putN c i (setA S (ms_a S + n))) → (okS T) → jW X 4 0 0 [(h, oC 9 [.ref (r 0), .ref (r 1), vI (ms_w T), vI (ms_l T), vL (ms_s T), vI (ms_a T), vI (ms_t T), vI (ms_p T), vI (g_np G), .ref (r 9), .ref (r 10), .ref (r 11), .ref (r 12), .ref (r 13), vI (g_nc G), .ref (r 15), .ref (r 16), .ref (r 17), vI (g_pl G), .ref (r 19), vI (g_ik G), vL (g_ks G), .ref (r 22), vL (g_ss G), .ref (r 24), vI (g_fa G), vI (g_iw G), vI (g_nw G), vI (g_ns G), vI (g_ne G), .ref (r 30), .ref (r 31), .ref (r 32), .ref (r 33), vL (g_h G)]), ((r 1), aI (Y 0) 7 (ms_h T)), ((r 0), aI (Y 0) 420 (ms_m T))] [(0, .ref h), (1, vI c), (2, vI n), (3, vI i)] 12 [] := by
    intro N12
    induction N12 with
    | zero => intro i T hm12 i12_0 i12_1 i12_2; omega
    | succ N12 ih12 =>
      intro i T hm12 i12_0 i12_1 i12_2
      refine j_iload_n (pc := 12) C 3 3 rfl rfl dX10_layAll_12 ?_
      refine j_iload_n (pc := 13) C 2 2 rfl rfl dX10_layAll_13 ?_
      refine j_icmp_ge (pc := 14) C 32 rfl (by omega) dX10_layAll_14 (fun h_1p14 => ?_) (fun h_1p14 => ?_)
      · skip
        exact Rt _ _ _ _ _ (by decide) (by decide) (by rw [← layS_alt, show n = i by omega]; rw [show n = i by omega] at i12_1; rw [← i12_1]) dX10_layAll_32
      · skip
        refine j_aload_n (pc := 17) C 0 0 rfl rfl dX10_layAll_17 ?_
        refine j_iload_n (pc := 18) C 1 1 rfl rfl dX10_layAll_18 ?_
        refine j_aload_n (pc := 19) C 0 0 rfl rfl dX10_layAll_19 ?_
        refine j_get (pc := 20) C (Or.inl (List.mem_of_getElem? (i := 0) rfl)) rfl fX10_layAll_X10 2 (by decide) (List.mem_of_getElem? (i := 2) rfl) (Or.inl rfl) rfl dX10_layAll_20 ?_
        refine j_callVv (pc := 23) (As := [vI c, vI (ms_w T)]) (na := 2) (st := []) C [0, 1, 2] [] (wr := []) (fun l => m_put l D Y _ h r T G c (ms_w T) i12_2 hc) rfl rfl rfl rfl (by decide) rfl (Or.inl (List.mem_of_getElem? (i := 0) rfl)) rfl gX10_layAll_X10_put ⟨rfl, by decide +kernel⟩ (by decide) rfl rfl (Nat.le_of_ble_eq_true rfl) (by decide) dX10_layAll_23 (fun w_3 h_4 => ?_)
        subst h_4
        refine j_perm (ws' := [(h, oC 9 [.ref (r 0), .ref (r 1), vI (ms_w (putS c (ms_w T) T)), vI (ms_l (putS c (ms_w T) T)), vL (ms_s (putS c (ms_w T) T)), vI (ms_a (putS c (ms_w T) T)), vI (ms_t (putS c (ms_w T) T)), vI (ms_p (putS c (ms_w T) T)), vI (g_np G), .ref (r 9), .ref (r 10), .ref (r 11), .ref (r 12), .ref (r 13), vI (g_nc G), .ref (r 15), .ref (r 16), .ref (r 17), vI (g_pl G), .ref (r 19), vI (g_ik G), vL (g_ks G), .ref (r 22), vL (g_ss G), .ref (r 24), vI (g_fa G), vI (g_iw G), vI (g_nw G), vI (g_ns G), vI (g_ne G), .ref (r 30), .ref (r 31), .ref (r 32), .ref (r 33), vL (g_h G)]), ((r 1), aI (Y 0) 7 (ms_h (putS c (ms_w T) T))), ((r 0), aI (Y 0) 420 (ms_m (putS c (ms_w T) T)))]) [0, 1, 2] rfl rfl ?_
        refine j_iinc (pc := 26) (lc' := [(3, vI (i + 1)), (0, .ref h), (1, vI c), (2, vI n)]) C 3 rfl (by decide) rfl dX10_layAll_26 ?_
        refine j_goto (pc := 29) C 12 rfl dX10_layAll_29 ?_
        refine j_locals (lc' := [(0, .ref h), (1, vI c), (2, vI n), (3, vI (i + 1))]) [1, 2, 3, 0] rfl ?_
        exact ih12 (i + 1) (putS c (ms_w T) T) (by omega) (by omega) (by rw [i12_1]; exact (putN_succ (by omega)).symm) (okS_put i12_2 hc ⟨i12_2.w, Int.le_refl _⟩)
  refine j_locals (lc' := [(0, .ref h), (1, vI c), (2, vI n), (3, vI 0)]) [1, 2, 3, 0] rfl ?_
  exact hL12 _ 0 (ms_h S, ms_m S, ms_w S, ms_l S, ms_s S, (ms_a S + n), ms_t S, ms_p S) (Nat.lt_succ_self _) (by omega) rfl hS

theorem fX10_takeAll_X10 : ∀ w ∈ u_ws RX10 TX10 35, w ∈ wsX10_takeAll := j_words [3, 4, 5, 6, 7, 8, 9, 10, 11, 12, 13, 14, 15, 16, 17, 18, 19, 20, 21, 22, 23, 24, 25, 26, 27, 28, 29, 30, 31, 32, 33, 34, 35, 36, 37] (by decide +kernel)
set_option maxHeartbeats 4000000 in
set_option maxRecDepth 100000 in
theorem m_takeAll (l : Launch) (D : va_G) (Y : Nat → ClassId) (RO : va_W) (h : Nat) (r : Nat → Nat) (S : MS) (G : GS) (c : Int) (n : Int)  (hS : okS S) (hc : 0 ≤ c ∧ c < 7) (hn : 0 ≤ n ∧ n ≤ 2147483647) : jMv l yX10_takeAll wsX10_takeAll { frames := 0, cells := 0, slots := 0, locals := 0 } D Y RO [.ref h, vI c, vI n] [(h, oC 9 [.ref (r 0), .ref (r 1), vI (ms_w S), vI (ms_l S), vL (ms_s S), vI (ms_a S), vI (ms_t S), vI (ms_p S), vI (g_np G), .ref (r 9), .ref (r 10), .ref (r 11), .ref (r 12), .ref (r 13), vI (g_nc G), .ref (r 15), .ref (r 16), .ref (r 17), vI (g_pl G), .ref (r 19), vI (g_ik G), vL (g_ks G), .ref (r 22), vL (g_ss G), .ref (r 24), vI (g_fa G), vI (g_iw G), vI (g_nw G), vI (g_ns G), vI (g_ne G), .ref (r 30), .ref (r 31), .ref (r 32), .ref (r 33), vL (g_h G)]), ((r 1), aI (Y 0) 7 (ms_h S)), ((r 0), aI (Y 0) 420 (ms_m S))] (fun w1 => w1 = [(h, oC 9 [.ref (r 0), .ref (r 1), vI (ms_w (takeS c n S)), vI (ms_l (takeS c n S)), vL (ms_s (takeS c n S)), vI (ms_a (takeS c n S)), vI (ms_t (takeS c n S)), vI (ms_p (takeS c n S)), vI (g_np G), .ref (r 9), .ref (r 10), .ref (r 11), .ref (r 12), .ref (r 13), vI (g_nc G), .ref (r 15), .ref (r 16), .ref (r 17), vI (g_pl G), .ref (r 19), vI (g_ik G), vL (g_ks G), .ref (r 22), vL (g_ss G), .ref (r 24), vI (g_fa G), vI (g_iw G), vI (g_nw G), vI (g_ns G), vI (g_ne G), .ref (r 30), .ref (r 31), .ref (r 32), .ref (r 33), vL (g_h G)]), ((r 1), aI (Y 0) 7 (ms_h (takeS c n S))), ((r 0), aI (Y 0) 420 (ms_m (takeS c n S)))]) := by
  refine j_ofv RX10 rfl rfl rfl (Nat.le_of_ble_eq_true rfl) (fun X C Rt hI => ?_)
  refine j_iload_n (pc := 0) C 2 2 rfl rfl dX10_takeAll_0 ?_
  refine j_aload_n (pc := 1) C 0 0 rfl rfl dX10_takeAll_1 ?_
  refine j_get (pc := 2) C (Or.inl (List.mem_of_getElem? (i := 0) rfl)) rfl fX10_takeAll_X10 1 (by decide) (List.mem_of_getElem? (i := 1) rfl) (Or.inl rfl) rfl dX10_takeAll_2 ?_
  refine j_iload_n (pc := 5) C 1 1 rfl rfl dX10_takeAll_5 ?_
  refine j_iald (pc := 6) C (Or.inl (List.mem_of_getElem? (i := 1) rfl)) rfl (by omega) (by decide) dX10_takeAll_6 ?_
  have f_1 := hS.1 c (by omega)
  refine j_icmp_le (pc := 7) C 19 rfl (by omega) dX10_takeAll_7 (fun h_2p7 => ?_) (fun h_2p7 => ?_)
  · skip
    refine j_iload_n (pc := 19) C 2 2 rfl rfl dX10_takeAll_19 ?_
    refine j_istore_n (pc := 20) (lc' := [(3, vI n), (0, .ref h), (1, vI c), (2, vI n)]) C 3 rfl (by decide) rfl dX10_takeAll_20 ?_
    refine j_aload_n (pc := 21) C 0 1 rfl rfl dX10_takeAll_21 ?_
    refine j_get (pc := 22) C (Or.inl (List.mem_of_getElem? (i := 0) rfl)) rfl fX10_takeAll_X10 1 (by decide) (List.mem_of_getElem? (i := 1) rfl) (Or.inl rfl) rfl dX10_takeAll_22 ?_
    refine j_iload_n (pc := 25) C 1 2 rfl rfl dX10_takeAll_25 ?_
    refine j_dup2 (pc := 26) C rfl rfl dX10_takeAll_26 ?_
    refine j_iald (pc := 27) C (Or.inl (List.mem_of_getElem? (i := 1) rfl)) rfl (by omega) (by decide) dX10_takeAll_27 ?_
    have f_3 := hS.1 c (by omega)
    refine j_iload_n (pc := 28) C 3 0 rfl rfl dX10_takeAll_28 ?_
    refine j_isub (pc := 29) C dX10_takeAll_29 ?_
    refine j_iast (pc := 30) (ws' := [(h, oC 9 [.ref (r 0), .ref (r 1), vI (ms_w S), vI (ms_l S), vL (ms_s S), vI (ms_a S), vI (ms_t S), vI (ms_p S), vI (g_np G), .ref (r 9), .ref (r 10), .ref (r 11), .ref (r 12), .ref (r 13), vI (g_nc G), .ref (r 15), .ref (r 16), .ref (r 17), vI (g_pl G), .ref (r 19), vI (g_ik G), vL (g_ks G), .ref (r 22), vL (g_ss G), .ref (r 24), vI (g_fa G), vI (g_iw G), vI (g_nw G), vI (g_ns G), vI (g_ne G), .ref (r 30), .ref (r 31), .ref (r 32), .ref (r 33), vL (g_h G)]), ((r 1), aI (Y 0) 7 (up (ms_h S) c (ms_h S c - n))), ((r 0), aI (Y 0) 420 (ms_m S))]) C 1 rfl rfl (by omega) (by decide) rfl dX10_takeAll_30 ?_
    refine j_aload_n (pc := 31) C 0 1 rfl rfl dX10_takeAll_31 ?_
    refine j_dup (pc := 32) C rfl dX10_takeAll_32 ?_
    refine j_get (pc := 33) C (Or.inl (List.mem_of_getElem? (i := 0) rfl)) rfl fX10_takeAll_X10 6 (by decide) (List.mem_of_getElem? (i := 2) rfl) (Or.inl rfl) rfl dX10_takeAll_33 ?_
    refine j_iload_n (pc := 36) C 3 0 rfl rfl dX10_takeAll_36 ?_
    refine j_iadd (pc := 37) C dX10_takeAll_37 ?_
    refine j_put (pc := 38) (ws' := [(h, oC 9 [.ref (r 0), .ref (r 1), vI (ms_w S), vI (ms_l S), vL (ms_s S), vI (ms_a S), vI (ms_t S + n), vI (ms_p S), vI (g_np G), .ref (r 9), .ref (r 10), .ref (r 11), .ref (r 12), .ref (r 13), vI (g_nc G), .ref (r 15), .ref (r 16), .ref (r 17), vI (g_pl G), .ref (r 19), vI (g_ik G), vL (g_ks G), .ref (r 22), vL (g_ss G), .ref (r 24), vI (g_fa G), vI (g_iw G), vI (g_nw G), vI (g_ns G), vI (g_ne G), .ref (r 30), .ref (r 31), .ref (r 32), .ref (r 33), vL (g_h G)]), ((r 1), aI (Y 0) 7 (up (ms_h S) c (ms_h S c - n))), ((r 0), aI (Y 0) 420 (ms_m S))]) C 0 rfl rfl fX10_takeAll_X10 tyX10_ok nmX10 6 (by decide) (List.mem_of_getElem? (i := 2) rfl) (Or.inl rfl) rfl rfl rfl rfl (Nat.le_of_ble_eq_true rfl) rfl dX10_takeAll_38 ?_
    exact Rt _ _ _ _ _ (by decide) (by decide) (by unfold takeS offS; first | (rw [if_pos (by omega)]; first | done | rfl) | (rw [if_neg (by omega)]; first | done | rfl)) dX10_takeAll_41
  · skip
    refine j_aload_n (pc := 10) C 0 0 rfl rfl dX10_takeAll_10 ?_
    refine j_get (pc := 11) C (Or.inl (List.mem_of_getElem? (i := 0) rfl)) rfl fX10_takeAll_X10 1 (by decide) (List.mem_of_getElem? (i := 1) rfl) (Or.inl rfl) rfl dX10_takeAll_11 ?_
    refine j_iload_n (pc := 14) C 1 1 rfl rfl dX10_takeAll_14 ?_
    refine j_iald (pc := 15) C (Or.inl (List.mem_of_getElem? (i := 1) rfl)) rfl (by omega) (by decide) dX10_takeAll_15 ?_
    have f_4 := hS.1 c (by omega)
    refine j_goto (pc := 16) C 20 rfl dX10_takeAll_16 ?_
    refine j_istore_n (pc := 20) (lc' := [(3, vI (ms_h S c)), (0, .ref h), (1, vI c), (2, vI n)]) C 3 rfl (by decide) rfl dX10_takeAll_20 ?_
    refine j_aload_n (pc := 21) C 0 1 rfl rfl dX10_takeAll_21 ?_
    refine j_get (pc := 22) C (Or.inl (List.mem_of_getElem? (i := 0) rfl)) rfl fX10_takeAll_X10 1 (by decide) (List.mem_of_getElem? (i := 1) rfl) (Or.inl rfl) rfl dX10_takeAll_22 ?_
    refine j_iload_n (pc := 25) C 1 2 rfl rfl dX10_takeAll_25 ?_
    refine j_dup2 (pc := 26) C rfl rfl dX10_takeAll_26 ?_
    refine j_iald (pc := 27) C (Or.inl (List.mem_of_getElem? (i := 1) rfl)) rfl (by omega) (by decide) dX10_takeAll_27 ?_
    have f_5 := hS.1 c (by omega)
    refine j_iload_n (pc := 28) C 3 0 rfl rfl dX10_takeAll_28 ?_
    refine j_isub (pc := 29) C dX10_takeAll_29 ?_
    refine j_iast (pc := 30) (ws' := [(h, oC 9 [.ref (r 0), .ref (r 1), vI (ms_w S), vI (ms_l S), vL (ms_s S), vI (ms_a S), vI (ms_t S), vI (ms_p S), vI (g_np G), .ref (r 9), .ref (r 10), .ref (r 11), .ref (r 12), .ref (r 13), vI (g_nc G), .ref (r 15), .ref (r 16), .ref (r 17), vI (g_pl G), .ref (r 19), vI (g_ik G), vL (g_ks G), .ref (r 22), vL (g_ss G), .ref (r 24), vI (g_fa G), vI (g_iw G), vI (g_nw G), vI (g_ns G), vI (g_ne G), .ref (r 30), .ref (r 31), .ref (r 32), .ref (r 33), vL (g_h G)]), ((r 1), aI (Y 0) 7 (up (ms_h S) c (ms_h S c - ms_h S c))), ((r 0), aI (Y 0) 420 (ms_m S))]) C 1 rfl rfl (by omega) (by decide) rfl dX10_takeAll_30 ?_
    refine j_aload_n (pc := 31) C 0 1 rfl rfl dX10_takeAll_31 ?_
    refine j_dup (pc := 32) C rfl dX10_takeAll_32 ?_
    refine j_get (pc := 33) C (Or.inl (List.mem_of_getElem? (i := 0) rfl)) rfl fX10_takeAll_X10 6 (by decide) (List.mem_of_getElem? (i := 2) rfl) (Or.inl rfl) rfl dX10_takeAll_33 ?_
    refine j_iload_n (pc := 36) C 3 0 rfl rfl dX10_takeAll_36 ?_
    refine j_iadd (pc := 37) C dX10_takeAll_37 ?_
    refine j_put (pc := 38) (ws' := [(h, oC 9 [.ref (r 0), .ref (r 1), vI (ms_w S), vI (ms_l S), vL (ms_s S), vI (ms_a S), vI (ms_t S + ms_h S c), vI (ms_p S), vI (g_np G), .ref (r 9), .ref (r 10), .ref (r 11), .ref (r 12), .ref (r 13), vI (g_nc G), .ref (r 15), .ref (r 16), .ref (r 17), vI (g_pl G), .ref (r 19), vI (g_ik G), vL (g_ks G), .ref (r 22), vL (g_ss G), .ref (r 24), vI (g_fa G), vI (g_iw G), vI (g_nw G), vI (g_ns G), vI (g_ne G), .ref (r 30), .ref (r 31), .ref (r 32), .ref (r 33), vL (g_h G)]), ((r 1), aI (Y 0) 7 (up (ms_h S) c (ms_h S c - ms_h S c))), ((r 0), aI (Y 0) 420 (ms_m S))]) C 0 rfl rfl fX10_takeAll_X10 tyX10_ok nmX10 6 (by decide) (List.mem_of_getElem? (i := 2) rfl) (Or.inl rfl) rfl rfl rfl rfl (Nat.le_of_ble_eq_true rfl) rfl dX10_takeAll_38 ?_
    exact Rt _ _ _ _ _ (by decide) (by decide) (by unfold takeS offS; first | (rw [if_pos (by omega)]; first | done | rfl) | (rw [if_neg (by omega)]; first | done | rfl)) dX10_takeAll_41

theorem fX10_markOf_X10 : ∀ w ∈ u_ws RX10 TX10 35, w ∈ wsX10_markOf := j_words [3, 4, 5, 6, 7, 8, 9, 10, 11, 12, 13, 14, 15, 16, 17, 18, 19, 20, 21, 22, 23, 24, 25, 26, 27, 28, 29, 30, 31, 32, 33, 34, 35, 36, 37] (by decide +kernel)
set_option maxHeartbeats 4000000 in
set_option maxRecDepth 100000 in
theorem m_markOf (l : Launch) (D : va_G) (Y : Nat → ClassId) (RO : va_W) (h : Nat) (r : Nat → Nat) (S : MS) (G : GS) (c : Int) (d : Int) (r0 : (h, oC 9 [.ref (r 0), .ref (r 1), vI (ms_w S), vI (ms_l S), vL (ms_s S), vI (ms_a S), vI (ms_t S), vI (ms_p S), vI (g_np G), .ref (r 9), .ref (r 10), .ref (r 11), .ref (r 12), .ref (r 13), vI (g_nc G), .ref (r 15), .ref (r 16), .ref (r 17), vI (g_pl G), .ref (r 19), vI (g_ik G), vL (g_ks G), .ref (r 22), vL (g_ss G), .ref (r 24), vI (g_fa G), vI (g_iw G), vI (g_nw G), vI (g_ns G), vI (g_ne G), .ref (r 30), .ref (r 31), .ref (r 32), .ref (r 33), vL (g_h G)]) ∈ RO) (r1 : ((r 1), aI (Y 0) 7 (ms_h S)) ∈ RO) (r2 : ((r 0), aI (Y 0) 420 (ms_m S)) ∈ RO) (hS : okS S) (hc : 0 ≤ c ∧ c < 7) (hd : 0 ≤ d ∧ d ≤ 2147483000) : jMi l yX10_markOf wsX10_markOf { frames := 0, cells := 0, slots := 0, locals := 0 } D Y RO [.ref h, vI c, vI d] [] (fun e w1 => e = markS c d S ∧ w1 = []) := by
  refine j_ofi RX10 rfl rfl rfl (Nat.le_of_ble_eq_true rfl) (fun X C Rt => ?_)
  refine j_iload_n (pc := 0) C 2 2 rfl rfl dX10_markOf_0 ?_
  refine j_aload_n (pc := 1) C 0 0 rfl rfl dX10_markOf_1 ?_
  refine j_get (pc := 2) C (Or.inr r0) rfl fX10_markOf_X10 1 (by decide) (List.mem_of_getElem? (i := 1) rfl) (Or.inl rfl) rfl dX10_markOf_2 ?_
  refine j_iload_n (pc := 5) C 1 1 rfl rfl dX10_markOf_5 ?_
  refine j_iald (pc := 6) C (Or.inr r1) rfl (by omega) (by decide) dX10_markOf_6 ?_
  have f_1 := hS.1 c (by omega)
  refine j_icmp_ge (pc := 7) C 33 rfl (by omega) dX10_markOf_7 (fun h_2p7 => ?_) (fun h_2p7 => ?_)
  · skip
    refine j_iconst (pc := 33) C dX10_markOf_33 ?_
    exact Rt _ _ _ _ _ _ (by decide) (by decide) ⟨by unfold markS; first | (rw [if_neg (by omega)]) | (rw [if_pos (by omega)]; congr 1; omega), rfl⟩ dX10_markOf_34
  · skip
    refine j_aload_n (pc := 10) C 0 0 rfl rfl dX10_markOf_10 ?_
    refine j_get (pc := 11) C (Or.inr r0) rfl fX10_markOf_X10 0 (by decide) (List.mem_of_getElem? (i := 2) rfl) (Or.inl rfl) rfl dX10_markOf_11 ?_
    refine j_bipush (pc := 14) (w := 60) C rfl dX10_markOf_14 ?_
    refine j_iload_n (pc := 16) C 1 1 rfl rfl dX10_markOf_16 ?_
    refine j_imul (pc := 17) C dX10_markOf_17 ?_
    refine j_aload_n (pc := 18) C 0 0 rfl rfl dX10_markOf_18 ?_
    refine j_get (pc := 19) C (Or.inr r0) rfl fX10_markOf_X10 1 (by decide) (List.mem_of_getElem? (i := 1) rfl) (Or.inl rfl) rfl dX10_markOf_19 ?_
    refine j_iload_n (pc := 22) C 1 1 rfl rfl dX10_markOf_22 ?_
    refine j_iald (pc := 23) C (Or.inr r1) rfl (by omega) (by decide) dX10_markOf_23 ?_
    have f_3 := hS.1 c (by omega)
    refine j_iadd (pc := 24) C dX10_markOf_24 ?_
    refine j_iconst (pc := 25) C dX10_markOf_25 ?_
    refine j_isub (pc := 26) C dX10_markOf_26 ?_
    refine j_iload_n (pc := 27) C 2 2 rfl rfl dX10_markOf_27 ?_
    refine j_isub (pc := 28) C dX10_markOf_28 ?_
    refine j_iald (pc := 29) C (Or.inr r2) rfl (by omega) (by decide) dX10_markOf_29 ?_
    refine j_goto (pc := 30) C 34 rfl dX10_markOf_30 ?_
    exact Rt _ _ _ _ _ _ (by decide) (by decide) ⟨by unfold markS; first | (rw [if_neg (by omega)]) | (rw [if_pos (by omega)]; congr 1; omega), rfl⟩ dX10_markOf_34

theorem fX10_pebbles_X10 : ∀ w ∈ u_ws RX10 TX10 35, w ∈ wsX10_pebbles := j_words [2, 3, 4, 5, 6, 7, 8, 9, 10, 11, 12, 13, 14, 15, 16, 17, 18, 19, 20, 21, 22, 23, 24, 25, 26, 27, 28, 29, 30, 31, 32, 33, 34, 35, 36] (by decide +kernel)
set_option maxHeartbeats 4000000 in
set_option maxRecDepth 100000 in
theorem m_pebbles (l : Launch) (D : va_G) (Y : Nat → ClassId) (RO : va_W) (h : Nat) (r : Nat → Nat) (S : MS) (G : GS) (r0 : (h, oC 9 [.ref (r 0), .ref (r 1), vI (ms_w S), vI (ms_l S), vL (ms_s S), vI (ms_a S), vI (ms_t S), vI (ms_p S), vI (g_np G), .ref (r 9), .ref (r 10), .ref (r 11), .ref (r 12), .ref (r 13), vI (g_nc G), .ref (r 15), .ref (r 16), .ref (r 17), vI (g_pl G), .ref (r 19), vI (g_ik G), vL (g_ks G), .ref (r 22), vL (g_ss G), .ref (r 24), vI (g_fa G), vI (g_iw G), vI (g_nw G), vI (g_ns G), vI (g_ne G), .ref (r 30), .ref (r 31), .ref (r 32), .ref (r 33), vL (g_h G)]) ∈ RO) (r1 : ((r 1), aI (Y 0) 7 (ms_h S)) ∈ RO)  : jMi l yX10_pebbles wsX10_pebbles { frames := 0, cells := 0, slots := 0, locals := 0 } D Y RO [.ref h] [] (fun e w1 => e = sumI (ms_h S) 7 ∧ w1 = []) := by
  refine j_ofi RX10 rfl rfl rfl (Nat.le_of_ble_eq_true rfl) (fun X C Rt => ?_)
  refine j_iconst (pc := 0) C dX10_pebbles_0 ?_
  refine j_istore_n (pc := 1) (lc' := [(1, vI 0), (0, .ref h)]) C 1 rfl (by decide) rfl dX10_pebbles_1 ?_
  refine j_iconst (pc := 2) C dX10_pebbles_2 ?_
  refine j_istore_n (pc := 3) (lc' := [(2, vI 0), (1, vI 0), (0, .ref h)]) C 2 rfl (by decide) rfl dX10_pebbles_3 ?_
  have hL4 : ∀ (N4 : Nat) (b : Int) (i : Int), ((7 - i).toNat) < N4 → (0 ≤ i ∧ i ≤ 7) → (b = sumI (ms_h S) i) → jW X 3 0 0 [] [(0, .ref h), (1, vI b), (2, vI i)] 4 [] := by
    intro N4
    induction N4 with
    | zero => intro b i hm4 i4_0 i4_1; omega
    | succ N4 ih4 =>
      intro b i hm4 i4_0 i4_1
      refine j_iload_n (pc := 4) C 2 2 rfl rfl dX10_pebbles_4 ?_
      refine j_bipush (pc := 5) (w := 7) C rfl dX10_pebbles_5 ?_
      refine j_icmp_ge (pc := 7) C 25 rfl (by omega) dX10_pebbles_7 (fun h_1p7 => ?_) (fun h_1p7 => ?_)
      · skip
        refine j_iload_n (pc := 25) C 1 1 rfl rfl dX10_pebbles_25 ?_
        exact Rt _ _ _ _ _ _ (by decide) (by decide) ⟨by rw [i4_1, show i = 7 by omega], rfl⟩ dX10_pebbles_26
      · skip
        refine j_iload_n (pc := 10) C 1 1 rfl rfl dX10_pebbles_10 ?_
        refine j_aload_n (pc := 11) C 0 0 rfl rfl dX10_pebbles_11 ?_
        refine j_get (pc := 12) C (Or.inr r0) rfl fX10_pebbles_X10 1 (by decide) (List.mem_of_getElem? (i := 1) rfl) (Or.inl rfl) rfl dX10_pebbles_12 ?_
        refine j_iload_n (pc := 15) C 2 2 rfl rfl dX10_pebbles_15 ?_
        refine j_iald (pc := 16) C (Or.inr r1) rfl (by omega) (by decide) dX10_pebbles_16 ?_
        refine j_iadd (pc := 17) C dX10_pebbles_17 ?_
        refine j_istore_n (pc := 18) (lc' := [(1, vI (b + ms_h S i)), (0, .ref h), (2, vI i)]) C 1 rfl (by decide) rfl dX10_pebbles_18 ?_
        refine j_iinc (pc := 19) (lc' := [(2, vI (i + 1)), (1, vI (b + ms_h S i)), (0, .ref h)]) C 2 rfl (by decide) rfl dX10_pebbles_19 ?_
        refine j_goto (pc := 22) C 4 rfl dX10_pebbles_22 ?_
        refine j_locals (lc' := [(0, .ref h), (1, vI (b + ms_h S i)), (2, vI (i + 1))]) [2, 1, 0] rfl ?_
        exact ih4 (b + ms_h S i) (i + 1) (by omega) (by omega) (by unfold sumI; rw [fo_succ _ (by omega)]; unfold sumI at i4_1; rw [← i4_1]; rfl)
  refine j_locals (lc' := [(0, .ref h), (1, vI 0), (2, vI 0)]) [2, 1, 0] rfl ?_
  exact hL4 _ 0 0 (Nat.lt_succ_self _) (by omega) rfl

theorem fX10_draw_X10 : ∀ w ∈ u_ws RX10 TX10 35, w ∈ wsX10_draw := j_words [7, 8, 9, 10, 11, 12, 13, 14, 15, 16, 17, 18, 19, 20, 21, 22, 23, 24, 25, 26, 27, 28, 29, 30, 31, 32, 33, 34, 35, 36, 37, 38, 39, 40, 41] (by decide +kernel)
set_option maxHeartbeats 4000000 in
set_option maxRecDepth 100000 in
theorem m_draw (l : Launch) (D : va_G) (Y : Nat → ClassId) (RO : va_W) (h : Nat) (r : Nat → Nat) (S : MS) (G : GS)  (hS : okS S) : jMi l yX10_draw wsX10_draw { frames := 0, cells := 0, slots := 0, locals := 0 } D Y RO [.ref h] [(h, oC 9 [.ref (r 0), .ref (r 1), vI (ms_w S), vI (ms_l S), vL (ms_s S), vI (ms_a S), vI (ms_t S), vI (ms_p S), vI (g_np G), .ref (r 9), .ref (r 10), .ref (r 11), .ref (r 12), .ref (r 13), vI (g_nc G), .ref (r 15), .ref (r 16), .ref (r 17), vI (g_pl G), .ref (r 19), vI (g_ik G), vL (g_ks G), .ref (r 22), vL (g_ss G), .ref (r 24), vI (g_fa G), vI (g_iw G), vI (g_nw G), vI (g_ns G), vI (g_ne G), .ref (r 30), .ref (r 31), .ref (r 32), .ref (r 33), vL (g_h G)]), ((r 1), aI (Y 0) 7 (ms_h S)), ((r 0), aI (Y 0) 420 (ms_m S))] (fun e w1 => e = drawV (drawS S) ∧ w1 = [(h, oC 9 [.ref (r 0), .ref (r 1), vI (ms_w (drawS S)), vI (ms_l (drawS S)), vL (ms_s (drawS S)), vI (ms_a (drawS S)), vI (ms_t (drawS S)), vI (ms_p (drawS S)), vI (g_np G), .ref (r 9), .ref (r 10), .ref (r 11), .ref (r 12), .ref (r 13), vI (g_nc G), .ref (r 15), .ref (r 16), .ref (r 17), vI (g_pl G), .ref (r 19), vI (g_ik G), vL (g_ks G), .ref (r 22), vL (g_ss G), .ref (r 24), vI (g_fa G), vI (g_iw G), vI (g_nw G), vI (g_ns G), vI (g_ne G), .ref (r 30), .ref (r 31), .ref (r 32), .ref (r 33), vL (g_h G)]), ((r 1), aI (Y 0) 7 (ms_h (drawS S))), ((r 0), aI (Y 0) 420 (ms_m (drawS S)))]) := by
  refine j_ofi RX10 rfl rfl rfl (Nat.le_of_ble_eq_true rfl) (fun X C Rt => ?_)
  have hs := hS.2.2.2
  refine j_aload_n (pc := 0) C 0 0 rfl rfl dX10_draw_0 ?_
  refine j_ldc2 (pc := 1) (w := 1103515245) C (List.mem_of_getElem? (i := 1) rfl) dX10_draw_1 ?_
  refine j_aload_n (pc := 4) C 0 0 rfl rfl dX10_draw_4 ?_
  refine j_get (pc := 5) C (Or.inl (List.mem_of_getElem? (i := 0) rfl)) rfl fX10_draw_X10 4 (by decide) (List.mem_of_getElem? (i := 2) rfl) (Or.inl rfl) rfl dX10_draw_5 ?_
  refine j_lmul (pc := 8) C dX10_draw_8 ?_
  refine j_ldc2 (pc := 9) (w := 12345) C (List.mem_of_getElem? (i := 3) rfl) dX10_draw_9 ?_
  refine j_ladd (pc := 12) C dX10_draw_12 ?_
  refine j_ldc2 (pc := 13) (w := 2147483647) C (List.mem_of_getElem? (i := 4) rfl) dX10_draw_13 ?_
  refine j_land (pc := 16) C dX10_draw_16 ?_
  rw [land31]
  refine j_put (pc := 17) (ws' := [(h, oC 9 [.ref (r 0), .ref (r 1), vI (ms_w S), vI (ms_l S), vL ((1103515245 * ms_s S + 12345) % 2147483648), vI (ms_a S), vI (ms_t S), vI (ms_p S), vI (g_np G), .ref (r 9), .ref (r 10), .ref (r 11), .ref (r 12), .ref (r 13), vI (g_nc G), .ref (r 15), .ref (r 16), .ref (r 17), vI (g_pl G), .ref (r 19), vI (g_ik G), vL (g_ks G), .ref (r 22), vL (g_ss G), .ref (r 24), vI (g_fa G), vI (g_iw G), vI (g_nw G), vI (g_ns G), vI (g_ne G), .ref (r 30), .ref (r 31), .ref (r 32), .ref (r 33), vL (g_h G)]), ((r 1), aI (Y 0) 7 (ms_h S)), ((r 0), aI (Y 0) 420 (ms_m S))]) C 0 rfl rfl fX10_draw_X10 tyX10_ok nmX10 4 (by decide) (List.mem_of_getElem? (i := 2) rfl) (Or.inl rfl) rfl rfl rfl rfl (Nat.le_of_ble_eq_true rfl) rfl dX10_draw_17 ?_
  refine j_aload_n (pc := 20) C 0 0 rfl rfl dX10_draw_20 ?_
  refine j_get (pc := 21) C (Or.inl (List.mem_of_getElem? (i := 0) rfl)) rfl fX10_draw_X10 4 (by decide) (List.mem_of_getElem? (i := 2) rfl) (Or.inl rfl) rfl dX10_draw_21 ?_
  refine j_ldc2 (pc := 24) (w := 65536) C (List.mem_of_getElem? (i := 5) rfl) dX10_draw_24 ?_
  refine j_ldiv (pc := 27) C (by omega) dX10_draw_27 ?_
  refine j_ldc2 (pc := 28) (w := 10) C (List.mem_of_getElem? (i := 6) rfl) dX10_draw_28 ?_
  refine j_lrem (pc := 31) C (by omega) dX10_draw_31 ?_
  refine j_l2i (pc := 32) C dX10_draw_32 ?_
  exact Rt _ _ _ _ _ _ (by decide) (by decide) ⟨rfl, rfl⟩ dX10_draw_33

theorem fX10_withMost_X10 : ∀ w ∈ u_ws RX10 TX10 35, w ∈ wsX10_withMost := j_words [2, 3, 4, 5, 6, 7, 8, 9, 10, 11, 12, 13, 14, 15, 16, 17, 18, 19, 20, 21, 22, 23, 24, 25, 26, 27, 28, 29, 30, 31, 32, 33, 34, 35, 36] (by decide +kernel)
set_option maxHeartbeats 4000000 in
set_option maxRecDepth 100000 in
theorem m_withMost (l : Launch) (D : va_G) (Y : Nat → ClassId) (RO : va_W) (h : Nat) (r : Nat → Nat) (S : MS) (G : GS) (r0 : (h, oC 9 [.ref (r 0), .ref (r 1), vI (ms_w S), vI (ms_l S), vL (ms_s S), vI (ms_a S), vI (ms_t S), vI (ms_p S), vI (g_np G), .ref (r 9), .ref (r 10), .ref (r 11), .ref (r 12), .ref (r 13), vI (g_nc G), .ref (r 15), .ref (r 16), .ref (r 17), vI (g_pl G), .ref (r 19), vI (g_ik G), vL (g_ks G), .ref (r 22), vL (g_ss G), .ref (r 24), vI (g_fa G), vI (g_iw G), vI (g_nw G), vI (g_ns G), vI (g_ne G), .ref (r 30), .ref (r 31), .ref (r 32), .ref (r 33), vL (g_h G)]) ∈ RO) (r1 : ((r 1), aI (Y 0) 7 (ms_h S)) ∈ RO) (hS : okS S) : jMi l yX10_withMost wsX10_withMost { frames := 0, cells := 0, slots := 0, locals := 0 } D Y RO [.ref h] [] (fun e w1 => e = mostI (ms_h S) ∧ w1 = []) := by
  refine j_ofi RX10 rfl rfl rfl (Nat.le_of_ble_eq_true rfl) (fun X C Rt => ?_)
  refine j_iconst (pc := 0) C dX10_withMost_0 ?_
  refine j_istore_n (pc := 1) (lc' := [(1, vI 0), (0, .ref h)]) C 1 rfl (by decide) rfl dX10_withMost_1 ?_
  refine j_iconst (pc := 2) C dX10_withMost_2 ?_
  refine j_istore_n (pc := 3) (lc' := [(2, vI 1), (1, vI 0), (0, .ref h)]) C 2 rfl (by decide) rfl dX10_withMost_3 ?_
  have hL4 : ∀ (N4 : Nat) (b : Int) (i : Int), ((7 - i).toNat) < N4 → (1 ≤ i ∧ i ≤ 7) → (0 ≤ b ∧ b < i) → (b = fo (mostF (ms_h S)) i 0) → jW X 3 0 0 [] [(0, .ref h), (1, vI b), (2, vI i)] 4 [] := by
    intro N4
    induction N4 with
    | zero => intro b i hm4 i4_0 i4_1 i4_2; omega
    | succ N4 ih4 =>
      intro b i hm4 i4_0 i4_1 i4_2
      refine j_iload_n (pc := 4) C 2 2 rfl rfl dX10_withMost_4 ?_
      refine j_bipush (pc := 5) (w := 7) C rfl dX10_withMost_5 ?_
      refine j_icmp_ge (pc := 7) C 37 rfl (by omega) dX10_withMost_7 (fun h_1p7 => ?_) (fun h_1p7 => ?_)
      · skip
        refine j_iload_n (pc := 37) C 1 1 rfl rfl dX10_withMost_37 ?_
        exact Rt _ _ _ _ _ _ (by decide) (by decide) ⟨by rw [i4_2, show i = 7 by omega]; rfl, rfl⟩ dX10_withMost_38
      · skip
        refine j_aload_n (pc := 10) C 0 0 rfl rfl dX10_withMost_10 ?_
        refine j_get (pc := 11) C (Or.inr r0) rfl fX10_withMost_X10 1 (by decide) (List.mem_of_getElem? (i := 1) rfl) (Or.inl rfl) rfl dX10_withMost_11 ?_
        refine j_iload_n (pc := 14) C 2 2 rfl rfl dX10_withMost_14 ?_
        refine j_iald (pc := 15) C (Or.inr r1) rfl (by omega) (by decide) dX10_withMost_15 ?_
        have f_2 := hS.1 i (by omega)
        refine j_aload_n (pc := 16) C 0 0 rfl rfl dX10_withMost_16 ?_
        refine j_get (pc := 17) C (Or.inr r0) rfl fX10_withMost_X10 1 (by decide) (List.mem_of_getElem? (i := 1) rfl) (Or.inl rfl) rfl dX10_withMost_17 ?_
        refine j_iload_n (pc := 20) C 1 1 rfl rfl dX10_withMost_20 ?_
        refine j_iald (pc := 21) C (Or.inr r1) rfl (by omega) (by decide) dX10_withMost_21 ?_
        have f_3 := hS.1 b (by omega)
        refine j_icmp_le (pc := 22) C 29 rfl (by omega) dX10_withMost_22 (fun h_4p22 => ?_) (fun h_4p22 => ?_)
        · skip
          refine j_iload_n (pc := 29) C 1 1 rfl rfl dX10_withMost_29 ?_
          refine j_istore_n (pc := 30) (lc' := [(1, vI b), (0, .ref h), (2, vI i)]) C 1 rfl (by decide) rfl dX10_withMost_30 ?_
          refine j_iinc (pc := 31) (lc' := [(2, vI (i + 1)), (1, vI b), (0, .ref h)]) C 2 rfl (by decide) rfl dX10_withMost_31 ?_
          refine j_goto (pc := 34) C 4 rfl dX10_withMost_34 ?_
          refine j_locals (lc' := [(0, .ref h), (1, vI b), (2, vI (i + 1))]) [2, 1, 0] rfl ?_
          exact ih4 b (i + 1) (by omega) (by omega) (by omega) (by rw [fo_succ _ (by omega), ← i4_2]; unfold mostF; first | rw [if_pos (by omega)] | rw [if_neg (by omega)])
        · skip
          refine j_iload_n (pc := 25) C 2 2 rfl rfl dX10_withMost_25 ?_
          refine j_goto (pc := 26) C 30 rfl dX10_withMost_26 ?_
          refine j_istore_n (pc := 30) (lc' := [(1, vI i), (0, .ref h), (2, vI i)]) C 1 rfl (by decide) rfl dX10_withMost_30 ?_
          refine j_iinc (pc := 31) (lc' := [(2, vI (i + 1)), (1, vI i), (0, .ref h)]) C 2 rfl (by decide) rfl dX10_withMost_31 ?_
          refine j_goto (pc := 34) C 4 rfl dX10_withMost_34 ?_
          refine j_locals (lc' := [(0, .ref h), (1, vI i), (2, vI (i + 1))]) [2, 1, 0] rfl ?_
          exact ih4 i (i + 1) (by omega) (by omega) (by omega) (by rw [fo_succ _ (by omega), ← i4_2]; unfold mostF; first | rw [if_pos (by omega)] | rw [if_neg (by omega)])
  refine j_locals (lc' := [(0, .ref h), (1, vI 0), (2, vI 1)]) [2, 1, 0] rfl ?_
  exact hL4 _ 0 1 (Nat.lt_succ_self _) (by omega) (by omega) (by show (0 : Int) = mostF (ms_h S) 0 0; unfold mostF; split <;> rfl)

theorem fX10_withLeast_X10 : ∀ w ∈ u_ws RX10 TX10 35, w ∈ wsX10_withLeast := j_words [2, 3, 4, 5, 6, 7, 8, 9, 10, 11, 12, 13, 14, 15, 16, 17, 18, 19, 20, 21, 22, 23, 24, 25, 26, 27, 28, 29, 30, 31, 32, 33, 34, 35, 36] (by decide +kernel)
set_option maxHeartbeats 4000000 in
set_option maxRecDepth 100000 in
theorem m_withLeast (l : Launch) (D : va_G) (Y : Nat → ClassId) (RO : va_W) (h : Nat) (r : Nat → Nat) (S : MS) (G : GS) (r0 : (h, oC 9 [.ref (r 0), .ref (r 1), vI (ms_w S), vI (ms_l S), vL (ms_s S), vI (ms_a S), vI (ms_t S), vI (ms_p S), vI (g_np G), .ref (r 9), .ref (r 10), .ref (r 11), .ref (r 12), .ref (r 13), vI (g_nc G), .ref (r 15), .ref (r 16), .ref (r 17), vI (g_pl G), .ref (r 19), vI (g_ik G), vL (g_ks G), .ref (r 22), vL (g_ss G), .ref (r 24), vI (g_fa G), vI (g_iw G), vI (g_nw G), vI (g_ns G), vI (g_ne G), .ref (r 30), .ref (r 31), .ref (r 32), .ref (r 33), vL (g_h G)]) ∈ RO) (r1 : ((r 1), aI (Y 0) 7 (ms_h S)) ∈ RO) (hS : okS S) : jMi l yX10_withLeast wsX10_withLeast { frames := 0, cells := 0, slots := 0, locals := 0 } D Y RO [.ref h] [] (fun e w1 => e = leastI (ms_h S) ∧ w1 = []) := by
  refine j_ofi RX10 rfl rfl rfl (Nat.le_of_ble_eq_true rfl) (fun X C Rt => ?_)
  refine j_iconst (pc := 0) C dX10_withLeast_0 ?_
  refine j_istore_n (pc := 1) (lc' := [(1, vI 0), (0, .ref h)]) C 1 rfl (by decide) rfl dX10_withLeast_1 ?_
  refine j_iconst (pc := 2) C dX10_withLeast_2 ?_
  refine j_istore_n (pc := 3) (lc' := [(2, vI 1), (1, vI 0), (0, .ref h)]) C 2 rfl (by decide) rfl dX10_withLeast_3 ?_
  have hL4 : ∀ (N4 : Nat) (b : Int) (i : Int), ((7 - i).toNat) < N4 → (1 ≤ i ∧ i ≤ 7) → (0 ≤ b ∧ b < i) → (b = fo (leastF (ms_h S)) i 0) → jW X 3 0 0 [] [(0, .ref h), (1, vI b), (2, vI i)] 4 [] := by
    intro N4
    induction N4 with
    | zero => intro b i hm4 i4_0 i4_1 i4_2; omega
    | succ N4 ih4 =>
      intro b i hm4 i4_0 i4_1 i4_2
      refine j_iload_n (pc := 4) C 2 2 rfl rfl dX10_withLeast_4 ?_
      refine j_bipush (pc := 5) (w := 7) C rfl dX10_withLeast_5 ?_
      refine j_icmp_ge (pc := 7) C 37 rfl (by omega) dX10_withLeast_7 (fun h_1p7 => ?_) (fun h_1p7 => ?_)
      · skip
        refine j_iload_n (pc := 37) C 1 1 rfl rfl dX10_withLeast_37 ?_
        exact Rt _ _ _ _ _ _ (by decide) (by decide) ⟨by rw [i4_2, show i = 7 by omega]; rfl, rfl⟩ dX10_withLeast_38
      · skip
        refine j_aload_n (pc := 10) C 0 0 rfl rfl dX10_withLeast_10 ?_
        refine j_get (pc := 11) C (Or.inr r0) rfl fX10_withLeast_X10 1 (by decide) (List.mem_of_getElem? (i := 1) rfl) (Or.inl rfl) rfl dX10_withLeast_11 ?_
        refine j_iload_n (pc := 14) C 2 2 rfl rfl dX10_withLeast_14 ?_
        refine j_iald (pc := 15) C (Or.inr r1) rfl (by omega) (by decide) dX10_withLeast_15 ?_
        have f_2 := hS.1 i (by omega)
        refine j_aload_n (pc := 16) C 0 0 rfl rfl dX10_withLeast_16 ?_
        refine j_get (pc := 17) C (Or.inr r0) rfl fX10_withLeast_X10 1 (by decide) (List.mem_of_getElem? (i := 1) rfl) (Or.inl rfl) rfl dX10_withLeast_17 ?_
        refine j_iload_n (pc := 20) C 1 1 rfl rfl dX10_withLeast_20 ?_
        refine j_iald (pc := 21) C (Or.inr r1) rfl (by omega) (by decide) dX10_withLeast_21 ?_
        have f_3 := hS.1 b (by omega)
        refine j_icmp_ge (pc := 22) C 29 rfl (by omega) dX10_withLeast_22 (fun h_4p22 => ?_) (fun h_4p22 => ?_)
        · skip
          refine j_iload_n (pc := 29) C 1 1 rfl rfl dX10_withLeast_29 ?_
          refine j_istore_n (pc := 30) (lc' := [(1, vI b), (0, .ref h), (2, vI i)]) C 1 rfl (by decide) rfl dX10_withLeast_30 ?_
          refine j_iinc (pc := 31) (lc' := [(2, vI (i + 1)), (1, vI b), (0, .ref h)]) C 2 rfl (by decide) rfl dX10_withLeast_31 ?_
          refine j_goto (pc := 34) C 4 rfl dX10_withLeast_34 ?_
          refine j_locals (lc' := [(0, .ref h), (1, vI b), (2, vI (i + 1))]) [2, 1, 0] rfl ?_
          exact ih4 b (i + 1) (by omega) (by omega) (by omega) (by rw [fo_succ _ (by omega), ← i4_2]; unfold leastF; first | rw [if_pos (by omega)] | rw [if_neg (by omega)])
        · skip
          refine j_iload_n (pc := 25) C 2 2 rfl rfl dX10_withLeast_25 ?_
          refine j_goto (pc := 26) C 30 rfl dX10_withLeast_26 ?_
          refine j_istore_n (pc := 30) (lc' := [(1, vI i), (0, .ref h), (2, vI i)]) C 1 rfl (by decide) rfl dX10_withLeast_30 ?_
          refine j_iinc (pc := 31) (lc' := [(2, vI (i + 1)), (1, vI i), (0, .ref h)]) C 2 rfl (by decide) rfl dX10_withLeast_31 ?_
          refine j_goto (pc := 34) C 4 rfl dX10_withLeast_34 ?_
          refine j_locals (lc' := [(0, .ref h), (1, vI i), (2, vI (i + 1))]) [2, 1, 0] rfl ?_
          exact ih4 i (i + 1) (by omega) (by omega) (by omega) (by rw [fo_succ _ (by omega), ← i4_2]; unfold leastF; first | rw [if_pos (by omega)] | rw [if_neg (by omega)])
  refine j_locals (lc' := [(0, .ref h), (1, vI 0), (2, vI 1)]) [2, 1, 0] rfl ?_
  exact hL4 _ 0 1 (Nat.lt_succ_self _) (by omega) (by omega) (by show (0 : Int) = leastF (ms_h S) 0 0; unfold leastF; split <;> rfl)

theorem fX10_cairnBy_X10 : ∀ w ∈ u_ws RX10 TX10 35, w ∈ wsX10_cairnBy := j_words [12, 13, 14, 15, 16, 17, 18, 19, 20, 21, 22, 23, 24, 25, 26, 27, 28, 29, 30, 31, 32, 33, 34, 35, 36, 37, 38, 39, 40, 41, 42, 43, 44, 45, 46] (by decide +kernel)
set_option maxHeartbeats 4000000 in
set_option maxRecDepth 100000 in
theorem m_cairnBy (l : Launch) (D : va_G) (Y : Nat → ClassId) (RO : va_W) (h : Nat) (r : Nat → Nat) (S : MS) (G : GS) (q : Int) (num : Int) (r0 : (h, oC 9 [.ref (r 0), .ref (r 1), vI (ms_w S), vI (ms_l S), vL (ms_s S), vI (ms_a S), vI (ms_t S), vI (ms_p S), vI (g_np G), .ref (r 9), .ref (r 10), .ref (r 11), .ref (r 12), .ref (r 13), vI (g_nc G), .ref (r 15), .ref (r 16), .ref (r 17), vI (g_pl G), .ref (r 19), vI (g_ik G), vL (g_ks G), .ref (r 22), vL (g_ss G), .ref (r 24), vI (g_fa G), vI (g_iw G), vI (g_nw G), vI (g_ns G), vI (g_ne G), .ref (r 30), .ref (r 31), .ref (r 32), .ref (r 33), vL (g_h G)]) ∈ RO) (r1 : ((r 1), aI (Y 0) 7 (ms_h S)) ∈ RO) (hS : okS S) (hr : okR q) : jMi l yX10_cairnBy wsX10_cairnBy { frames := 1, cells := 0, slots := 0, locals := 22 } D Y RO [.ref h, vI q, vI num] [] (fun e w1 => e = ruleS q num S ∧ w1 = []) := by
  refine j_ofi RX10 rfl rfl rfl (Nat.le_of_ble_eq_true rfl) (fun X C Rt => ?_)
  have hl := hS.2.2.1
  unfold okR at hr
  refine j_iload_n (pc := 0) C 1 1 rfl rfl dX10_cairnBy_0 ?_
  rcases (show q = 7 ∨ q = 8 ∨ q = 9 ∨ (q < 7 ∨ 9 < q) by omega) with h_1p1 | h_1p1 | h_1p1 | h_1p1
  · refine j_tableC (pc := 1) C 7 28 h_1p1 (by decide) rfl rfl dX10_cairnBy_1 ?_
    refine j_aload_n (pc := 28) C 0 0 rfl rfl dX10_cairnBy_28 ?_
    refine j_callVi (pc := 29) (As := []) (na := 0) (st := []) C [] [] (wr := []) (fun l => m_withMost l D Y _ h r S G (List.mem_append_right _ r0) (List.mem_append_right _ r1) (by first | assumption | omega)) rfl rfl rfl rfl (by decide) rfl (Or.inr (List.mem_append_right _ r0)) rfl gX10_cairnBy_X10_withMost ⟨rfl, by decide +kernel⟩ (by decide) rfl rfl (Nat.le_of_ble_eq_true rfl) (by decide) dX10_cairnBy_29 (fun e_2 w_3 h_4 => ?_)
    obtain ⟨rfl, rfl⟩ := h_4
    refine j_perm (ws' := []) [] rfl rfl ?_
    exact Rt _ _ _ _ _ _ (by decide) (by decide) ⟨by unfold ruleS; rw [if_pos (by omega)], rfl⟩ dX10_cairnBy_32
  · refine j_tableC (pc := 1) C 8 33 h_1p1 (by decide) rfl rfl dX10_cairnBy_1 ?_
    refine j_aload_n (pc := 33) C 0 0 rfl rfl dX10_cairnBy_33 ?_
    refine j_callVi (pc := 34) (As := []) (na := 0) (st := []) C [] [] (wr := []) (fun l => m_withLeast l D Y _ h r S G (List.mem_append_right _ r0) (List.mem_append_right _ r1) (by first | assumption | omega)) rfl rfl rfl rfl (by decide) rfl (Or.inr (List.mem_append_right _ r0)) rfl gX10_cairnBy_X10_withLeast ⟨rfl, by decide +kernel⟩ (by decide) rfl rfl (Nat.le_of_ble_eq_true rfl) (by decide) dX10_cairnBy_34 (fun e_5 w_6 h_7 => ?_)
    obtain ⟨rfl, rfl⟩ := h_7
    refine j_perm (ws' := []) [] rfl rfl ?_
    exact Rt _ _ _ _ _ _ (by decide) (by decide) ⟨by unfold ruleS; rw [if_neg (by omega), if_pos (by omega)], rfl⟩ dX10_cairnBy_37
  · refine j_tableC (pc := 1) C 9 38 h_1p1 (by decide) rfl rfl dX10_cairnBy_1 ?_
    refine j_iload_n (pc := 38) C 2 2 rfl rfl dX10_cairnBy_38 ?_
    exact Rt _ _ _ _ _ _ (by decide) (by decide) ⟨by unfold ruleS; rw [if_neg (by omega), if_neg (by omega), if_pos (by omega)], rfl⟩ dX10_cairnBy_39
  · refine j_tableD (pc := 1) C 40 (by omega) h_1p1 rfl dX10_cairnBy_1 ?_
    refine j_iload_n (pc := 40) C 1 1 rfl rfl dX10_cairnBy_40 ?_
    refine j_bipush (pc := 41) (w := 7) C rfl dX10_cairnBy_41 ?_
    refine j_icmp_ge (pc := 43) C 50 rfl (by omega) dX10_cairnBy_43 (fun h_8p43 => ?_) (fun h_8p43 => ?_)
    · skip
      refine j_aload_n (pc := 50) C 0 0 rfl rfl dX10_cairnBy_50 ?_
      refine j_get (pc := 51) C (Or.inr r0) rfl fX10_cairnBy_X10 3 (by decide) (List.mem_of_getElem? (i := 1) rfl) (Or.inl rfl) rfl dX10_cairnBy_51 ?_
      refine j_iconst (pc := 54) C dX10_cairnBy_54 ?_
      refine j_iadd (pc := 55) C dX10_cairnBy_55 ?_
      refine j_bipush (pc := 56) (w := 7) C rfl dX10_cairnBy_56 ?_
      refine j_irem (pc := 58) C (by omega) dX10_cairnBy_58 ?_
      exact Rt _ _ _ _ _ _ (by decide) (by decide) ⟨by unfold ruleS; first | rw [if_neg (by omega), if_neg (by omega), if_neg (by omega), if_pos (by omega)] | rw [if_neg (by omega), if_neg (by omega), if_neg (by omega), if_neg (by omega)], rfl⟩ dX10_cairnBy_59
    · skip
      refine j_iload_n (pc := 46) C 1 1 rfl rfl dX10_cairnBy_46 ?_
      refine j_goto (pc := 47) C 59 rfl dX10_cairnBy_47 ?_
      exact Rt _ _ _ _ _ _ (by decide) (by decide) ⟨by unfold ruleS; first | rw [if_neg (by omega), if_neg (by omega), if_neg (by omega), if_pos (by omega)] | rw [if_neg (by omega), if_neg (by omega), if_neg (by omega), if_neg (by omega)], rfl⟩ dX10_cairnBy_59

theorem fX10_gift_X10 : ∀ w ∈ u_ws RX10 TX10 35, w ∈ wsX10_gift := j_words [3, 4, 5, 6, 7, 8, 9, 10, 11, 12, 13, 14, 15, 16, 17, 18, 19, 20, 21, 22, 23, 24, 25, 26, 27, 28, 29, 30, 31, 32, 33, 34, 35, 36, 37] (by decide +kernel)
set_option maxHeartbeats 4000000 in
set_option maxRecDepth 100000 in
theorem m_gift (l : Launch) (D : va_G) (Y : Nat → ClassId) (RO : va_W) (h : Nat) (r : Nat → Nat) (S : MS) (G : GS) (ps : Int → PT) (p : Int) (r0 : (h, oC 9 [.ref (r 0), .ref (r 1), vI (ms_w S), vI (ms_l S), vL (ms_s S), vI (ms_a S), vI (ms_t S), vI (ms_p S), vI (g_np G), .ref (r 9), .ref (r 10), .ref (r 11), .ref (r 12), .ref (r 13), vI (g_nc G), .ref (r 15), .ref (r 16), .ref (r 17), vI (g_pl G), .ref (r 19), vI (g_ik G), vL (g_ks G), .ref (r 22), vL (g_ss G), .ref (r 24), vI (g_fa G), vI (g_iw G), vI (g_nw G), vI (g_ns G), vI (g_ne G), .ref (r 30), .ref (r 31), .ref (r 32), .ref (r 33), vL (g_h G)]) ∈ RO) (k0 : ((r 9), aI (Y 0) 6 (kof ps)) ∈ RO) (k1 : ((r 10), aI (Y 0) 6 (nof ps)) ∈ RO) (hp : 0 ≤ p ∧ p < 6) (hP : okP (ps p)) : jMi l yX10_gift wsX10_gift { frames := 0, cells := 0, slots := 0, locals := 0 } D Y RO [.ref h, vI p] [] (fun e w1 => e = giftP (ps p) ∧ w1 = []) := by
  refine j_ofi RX10 rfl rfl rfl (Nat.le_of_ble_eq_true rfl) (fun X C Rt => ?_)
  have hPk := hP.1
  refine j_aload_n (pc := 0) C 0 0 rfl rfl dX10_gift_0 ?_
  refine j_get (pc := 1) C (Or.inr r0) rfl fX10_gift_X10 9 (by decide) (List.mem_of_getElem? (i := 1) rfl) (Or.inl rfl) rfl dX10_gift_1 ?_
  refine j_iload_n (pc := 4) C 1 1 rfl rfl dX10_gift_4 ?_
  refine j_iald (pc := 5) C (Or.inr k0) rfl (by omega) (by decide) dX10_gift_5 ?_
  refine j_st (st' := [vI (pk (ps p))]) rfl rfl rfl ?_
  refine j_iconst (pc := 6) C dX10_gift_6 ?_
  refine j_icmp_ne (pc := 7) C 19 rfl (by omega) dX10_gift_7 (fun h_1p7 => ?_) (fun h_1p7 => ?_)
  · skip
    refine j_iconst (pc := 19) C dX10_gift_19 ?_
    exact Rt _ _ _ _ _ _ (by decide) (by decide) ⟨by unfold giftP; first | rw [if_pos (by omega)] | rw [if_neg (by omega)], rfl⟩ dX10_gift_20
  · skip
    refine j_aload_n (pc := 10) C 0 0 rfl rfl dX10_gift_10 ?_
    refine j_get (pc := 11) C (Or.inr r0) rfl fX10_gift_X10 10 (by decide) (List.mem_of_getElem? (i := 2) rfl) (Or.inl rfl) rfl dX10_gift_11 ?_
    refine j_iload_n (pc := 14) C 1 1 rfl rfl dX10_gift_14 ?_
    refine j_iald (pc := 15) C (Or.inr k1) rfl (by omega) (by decide) dX10_gift_15 ?_
    refine j_st (st' := [vI (pn (ps p))]) rfl rfl rfl ?_
    refine j_goto (pc := 16) C 20 rfl dX10_gift_16 ?_
    exact Rt _ _ _ _ _ _ (by decide) (by decide) ⟨by unfold giftP; first | rw [if_pos (by omega)] | rw [if_neg (by omega)], rfl⟩ dX10_gift_20

theorem fX10_doWish_X10 : ∀ w ∈ u_ws RX10 TX10 35, w ∈ wsX10_doWish := j_words [35, 36, 37, 38, 39, 40, 41, 42, 43, 44, 45, 46, 47, 48, 49, 50, 51, 52, 53, 54, 55, 56, 57, 58, 59, 60, 61, 62, 63, 64, 65, 66, 67, 68, 69] (by decide +kernel)
set_option maxHeartbeats 4000000 in
set_option maxRecDepth 100000 in
theorem m_doWish (l : Launch) (D : va_G) (Y : Nat → ClassId) (RO : va_W) (h : Nat) (r : Nat → Nat) (S : MS) (G : GS) (cs : Int → CT) (ps : Int → PT) (cu : Int) (p : Int) (k0 : ((r 9), aI (Y 0) 6 (kof ps)) ∈ RO) (k1 : ((r 10), aI (Y 0) 6 (nof ps)) ∈ RO) (q0 : ((r 15), aI (Y 0) 4 (cwof cs)) ∈ RO) (q1 : ((r 16), aI (Y 0) 4 (czof cs)) ∈ RO) (q2 : ((r 17), aI (Y 0) 4 (ceof cs)) ∈ RO) (hS : okS S) (hc : 0 ≤ cu ∧ cu < 4) (hC : okC (cs cu)) (hp : 0 ≤ p ∧ p < 6) (hP : okP (ps p)) (hw : ms_w S ≤ 2147483000) : jMv l yX10_doWish wsX10_doWish { frames := 2, cells := 0, slots := 0, locals := 45 } D Y RO [.ref h, vI cu, vI p] [(h, oC 9 [.ref (r 0), .ref (r 1), vI (ms_w S), vI (ms_l S), vL (ms_s S), vI (ms_a S), vI (ms_t S), vI (ms_p S), vI (g_np G), .ref (r 9), .ref (r 10), .ref (r 11), .ref (r 12), .ref (r 13), vI (g_nc G), .ref (r 15), .ref (r 16), .ref (r 17), vI (g_pl G), .ref (r 19), vI (g_ik G), vL (g_ks G), .ref (r 22), vL (g_ss G), .ref (r 24), vI (g_fa G), vI (g_iw G), vI (g_nw G), vI (g_ns G), vI (g_ne G), .ref (r 30), .ref (r 31), .ref (r 32), .ref (r 33), vL (g_h G)]), ((r 1), aI (Y 0) 7 (ms_h S)), ((r 0), aI (Y 0) 420 (ms_m S))] (fun w1 => w1 = [(h, oC 9 [.ref (r 0), .ref (r 1), vI (ms_w (wishS (cs cu) (ps p) p S)), vI (ms_l (wishS (cs cu) (ps p) p S)), vL (ms_s (wishS (cs cu) (ps p) p S)), vI (ms_a (wishS (cs cu) (ps p) p S)), vI (ms_t (wishS (cs cu) (ps p) p S)), vI (ms_p (wishS (cs cu) (ps p) p S)), vI (g_np G), .ref (r 9), .ref (r 10), .ref (r 11), .ref (r 12), .ref (r 13), vI (g_nc G), .ref (r 15), .ref (r 16), .ref (r 17), vI (g_pl G), .ref (r 19), vI (g_ik G), vL (g_ks G), .ref (r 22), vL (g_ss G), .ref (r 24), vI (g_fa G), vI (g_iw G), vI (g_nw G), vI (g_ns G), vI (g_ne G), .ref (r 30), .ref (r 31), .ref (r 32), .ref (r 33), vL (g_h G)]), ((r 1), aI (Y 0) 7 (ms_h (wishS (cs cu) (ps p) p S))), ((r 0), aI (Y 0) 420 (ms_m (wishS (cs cu) (ps p) p S)))]) := by
  refine j_ofv RX10 rfl rfl rfl (Nat.le_of_ble_eq_true rfl) (fun X C Rt hI => ?_)
  have hr1 := ruleS_in (num := p) hC.1 (by omega) hS
  have hg := giftP_in hP
  refine j_aload_n (pc := 0) C 0 0 rfl rfl dX10_doWish_0 ?_
  refine j_aload_n (pc := 1) C 0 0 rfl rfl dX10_doWish_1 ?_
  refine j_get (pc := 2) C (Or.inl (List.mem_of_getElem? (i := 0) rfl)) rfl fX10_doWish_X10 15 (by decide) (List.mem_of_getElem? (i := 1) rfl) (Or.inl rfl) rfl dX10_doWish_2 ?_
  refine j_iload_n (pc := 5) C 1 1 rfl rfl dX10_doWish_5 ?_
  refine j_iald (pc := 6) C (Or.inr q0) rfl (by omega) (by decide) dX10_doWish_6 ?_
  refine j_st (st' := [vI (cw (cs cu)), .ref h]) rfl rfl rfl ?_
  refine j_iload_n (pc := 7) C 2 2 rfl rfl dX10_doWish_7 ?_
  refine j_callVi (pc := 8) (As := [vI (cw (cs cu)), vI p]) (na := 2) (st := []) C [] [0, 1, 2] (wr := [(h, oC 9 [.ref (r 0), .ref (r 1), vI (ms_w S), vI (ms_l S), vL (ms_s S), vI (ms_a S), vI (ms_t S), vI (ms_p S), vI (g_np G), .ref (r 9), .ref (r 10), .ref (r 11), .ref (r 12), .ref (r 13), vI (g_nc G), .ref (r 15), .ref (r 16), .ref (r 17), vI (g_pl G), .ref (r 19), vI (g_ik G), vL (g_ks G), .ref (r 22), vL (g_ss G), .ref (r 24), vI (g_fa G), vI (g_iw G), vI (g_nw G), vI (g_ns G), vI (g_ne G), .ref (r 30), .ref (r 31), .ref (r 32), .ref (r 33), vL (g_h G)]), ((r 1), aI (Y 0) 7 (ms_h S)), ((r 0), aI (Y 0) 420 (ms_m S))]) (fun l => m_cairnBy l D Y _ h r S G (cw (cs cu)) p (List.mem_append_left _ (List.mem_of_getElem? (i := 0) rfl)) (List.mem_append_left _ (List.mem_of_getElem? (i := 1) rfl)) (by first | assumption | omega) hC.1) rfl rfl rfl rfl (by decide) rfl (Or.inr (List.mem_append_left _ (List.mem_of_getElem? (i := 0) rfl))) rfl gX10_doWish_X10_cairnBy ⟨rfl, by decide +kernel⟩ (by decide) rfl rfl (Nat.le_of_ble_eq_true rfl) (by decide) dX10_doWish_8 (fun e_1 w_2 h_3 => ?_)
  obtain ⟨rfl, rfl⟩ := h_3
  refine j_perm (ws' := [(h, oC 9 [.ref (r 0), .ref (r 1), vI (ms_w S), vI (ms_l S), vL (ms_s S), vI (ms_a S), vI (ms_t S), vI (ms_p S), vI (g_np G), .ref (r 9), .ref (r 10), .ref (r 11), .ref (r 12), .ref (r 13), vI (g_nc G), .ref (r 15), .ref (r 16), .ref (r 17), vI (g_pl G), .ref (r 19), vI (g_ik G), vL (g_ks G), .ref (r 22), vL (g_ss G), .ref (r 24), vI (g_fa G), vI (g_iw G), vI (g_nw G), vI (g_ns G), vI (g_ne G), .ref (r 30), .ref (r 31), .ref (r 32), .ref (r 33), vL (g_h G)]), ((r 1), aI (Y 0) 7 (ms_h S)), ((r 0), aI (Y 0) 420 (ms_m S))]) [0, 1, 2] rfl rfl ?_
  refine j_istore_n (pc := 11) (lc' := [(3, vI (ruleS (cw (cs cu)) p S)), (0, .ref h), (1, vI cu), (2, vI p)]) C 3 rfl (by decide) rfl dX10_doWish_11 ?_
  refine j_aload_n (pc := 12) C 0 1 rfl rfl dX10_doWish_12 ?_
  refine j_iload_n (pc := 13) C 3 0 rfl rfl dX10_doWish_13 ?_
  refine j_aload_n (pc := 14) C 0 1 rfl rfl dX10_doWish_14 ?_
  refine j_iload_n (pc := 15) C 2 3 rfl rfl dX10_doWish_15 ?_
  refine j_callVi (pc := 16) (As := [vI p]) (na := 1) (st := [vI (ruleS (cw (cs cu)) p S), .ref h]) C [] [0, 1, 2] (wr := [(h, oC 9 [.ref (r 0), .ref (r 1), vI (ms_w S), vI (ms_l S), vL (ms_s S), vI (ms_a S), vI (ms_t S), vI (ms_p S), vI (g_np G), .ref (r 9), .ref (r 10), .ref (r 11), .ref (r 12), .ref (r 13), vI (g_nc G), .ref (r 15), .ref (r 16), .ref (r 17), vI (g_pl G), .ref (r 19), vI (g_ik G), vL (g_ks G), .ref (r 22), vL (g_ss G), .ref (r 24), vI (g_fa G), vI (g_iw G), vI (g_nw G), vI (g_ns G), vI (g_ne G), .ref (r 30), .ref (r 31), .ref (r 32), .ref (r 33), vL (g_h G)]), ((r 1), aI (Y 0) 7 (ms_h S)), ((r 0), aI (Y 0) 420 (ms_m S))]) (fun l => m_gift l D Y _ h r S G ps p (List.mem_append_left _ (List.mem_of_getElem? (i := 0) rfl)) (List.mem_append_right _ k0) (List.mem_append_right _ k1) (by first | assumption | omega) (by first | assumption | omega)) rfl rfl rfl rfl (by decide) rfl (Or.inr (List.mem_append_left _ (List.mem_of_getElem? (i := 0) rfl))) rfl gX10_doWish_X10_gift ⟨rfl, by decide +kernel⟩ (by decide) rfl rfl (Nat.le_of_ble_eq_true rfl) (by decide) dX10_doWish_16 (fun e_4 w_5 h_6 => ?_)
  obtain ⟨rfl, rfl⟩ := h_6
  refine j_perm (ws' := [(h, oC 9 [.ref (r 0), .ref (r 1), vI (ms_w S), vI (ms_l S), vL (ms_s S), vI (ms_a S), vI (ms_t S), vI (ms_p S), vI (g_np G), .ref (r 9), .ref (r 10), .ref (r 11), .ref (r 12), .ref (r 13), vI (g_nc G), .ref (r 15), .ref (r 16), .ref (r 17), vI (g_pl G), .ref (r 19), vI (g_ik G), vL (g_ks G), .ref (r 22), vL (g_ss G), .ref (r 24), vI (g_fa G), vI (g_iw G), vI (g_nw G), vI (g_ns G), vI (g_ne G), .ref (r 30), .ref (r 31), .ref (r 32), .ref (r 33), vL (g_h G)]), ((r 1), aI (Y 0) 7 (ms_h S)), ((r 0), aI (Y 0) 420 (ms_m S))]) [0, 1, 2] rfl rfl ?_
  refine j_callVv (pc := 19) (As := [vI (ruleS (cw (cs cu)) p S), vI (giftP (ps p))]) (na := 2) (st := []) C [0, 1, 2] [] (wr := []) (fun l => m_layAll l D Y _ h r S G (ruleS (cw (cs cu)) p S) (giftP (ps p)) hS hr1 (by first | assumption | omega)) rfl rfl rfl rfl (by decide) rfl (Or.inl (List.mem_of_getElem? (i := 0) rfl)) rfl gX10_doWish_X10_layAll ⟨rfl, by decide +kernel⟩ (by decide) rfl rfl (Nat.le_of_ble_eq_true rfl) (by decide) dX10_doWish_19 (fun w_8 h_9 => ?_)
  subst h_9
  refine j_perm (ws' := [(h, oC 9 [.ref (r 0), .ref (r 1), vI (ms_w (layS (ruleS (cw (cs cu)) p S) (giftP (ps p)) S)), vI (ms_l (layS (ruleS (cw (cs cu)) p S) (giftP (ps p)) S)), vL (ms_s (layS (ruleS (cw (cs cu)) p S) (giftP (ps p)) S)), vI (ms_a (layS (ruleS (cw (cs cu)) p S) (giftP (ps p)) S)), vI (ms_t (layS (ruleS (cw (cs cu)) p S) (giftP (ps p)) S)), vI (ms_p (layS (ruleS (cw (cs cu)) p S) (giftP (ps p)) S)), vI (g_np G), .ref (r 9), .ref (r 10), .ref (r 11), .ref (r 12), .ref (r 13), vI (g_nc G), .ref (r 15), .ref (r 16), .ref (r 17), vI (g_pl G), .ref (r 19), vI (g_ik G), vL (g_ks G), .ref (r 22), vL (g_ss G), .ref (r 24), vI (g_fa G), vI (g_iw G), vI (g_nw G), vI (g_ns G), vI (g_ne G), .ref (r 30), .ref (r 31), .ref (r 32), .ref (r 33), vL (g_h G)]), ((r 1), aI (Y 0) 7 (ms_h (layS (ruleS (cw (cs cu)) p S) (giftP (ps p)) S))), ((r 0), aI (Y 0) 420 (ms_m (layS (ruleS (cw (cs cu)) p S) (giftP (ps p)) S)))]) [0, 1, 2] rfl rfl ?_
  refine j_aload_n (pc := 22) C 0 1 rfl rfl dX10_doWish_22 ?_
  refine j_iload_n (pc := 23) C 3 0 rfl rfl dX10_doWish_23 ?_
  refine j_put (pc := 24) (ws' := [(h, oC 9 [.ref (r 0), .ref (r 1), vI (ms_w (layS (ruleS (cw (cs cu)) p S) (giftP (ps p)) S)), vI (ruleS (cw (cs cu)) p S), vL (ms_s (layS (ruleS (cw (cs cu)) p S) (giftP (ps p)) S)), vI (ms_a (layS (ruleS (cw (cs cu)) p S) (giftP (ps p)) S)), vI (ms_t (layS (ruleS (cw (cs cu)) p S) (giftP (ps p)) S)), vI (ms_p (layS (ruleS (cw (cs cu)) p S) (giftP (ps p)) S)), vI (g_np G), .ref (r 9), .ref (r 10), .ref (r 11), .ref (r 12), .ref (r 13), vI (g_nc G), .ref (r 15), .ref (r 16), .ref (r 17), vI (g_pl G), .ref (r 19), vI (g_ik G), vL (g_ks G), .ref (r 22), vL (g_ss G), .ref (r 24), vI (g_fa G), vI (g_iw G), vI (g_nw G), vI (g_ns G), vI (g_ne G), .ref (r 30), .ref (r 31), .ref (r 32), .ref (r 33), vL (g_h G)]), ((r 1), aI (Y 0) 7 (ms_h (layS (ruleS (cw (cs cu)) p S) (giftP (ps p)) S))), ((r 0), aI (Y 0) 420 (ms_m (layS (ruleS (cw (cs cu)) p S) (giftP (ps p)) S)))]) C 0 rfl rfl fX10_doWish_X10 tyX10_ok nmX10 3 (by decide) (List.mem_of_getElem? (i := 2) rfl) (Or.inl rfl) rfl rfl rfl rfl (Nat.le_of_ble_eq_true rfl) rfl dX10_doWish_24 ?_
  exact Rt _ _ _ _ _ (by decide) (by decide) rfl dX10_doWish_27

theorem fX10_doSin_X10 : ∀ w ∈ u_ws RX10 TX10 35, w ∈ wsX10_doSin := j_words [34, 35, 36, 37, 38, 39, 40, 41, 42, 43, 44, 45, 46, 47, 48, 49, 50, 51, 52, 53, 54, 55, 56, 57, 58, 59, 60, 61, 62, 63, 64, 65, 66, 67, 68] (by decide +kernel)
set_option maxHeartbeats 4000000 in
set_option maxRecDepth 100000 in
theorem m_doSin (l : Launch) (D : va_G) (Y : Nat → ClassId) (RO : va_W) (h : Nat) (r : Nat → Nat) (S : MS) (G : GS) (cs : Int → CT) (ps : Int → PT) (cu : Int) (p : Int) (k0 : ((r 9), aI (Y 0) 6 (kof ps)) ∈ RO) (k1 : ((r 10), aI (Y 0) 6 (nof ps)) ∈ RO) (q0 : ((r 15), aI (Y 0) 4 (cwof cs)) ∈ RO) (q1 : ((r 16), aI (Y 0) 4 (czof cs)) ∈ RO) (q2 : ((r 17), aI (Y 0) 4 (ceof cs)) ∈ RO) (hS : okS S) (hc : 0 ≤ cu ∧ cu < 4) (hC : okC (cs cu)) (hp : 0 ≤ p ∧ p < 6) (hP : okP (ps p)) (hw : ms_w S ≤ 2147483000) : jMv l yX10_doSin wsX10_doSin { frames := 2, cells := 0, slots := 0, locals := 44 } D Y RO [.ref h, vI cu, vI p] [(h, oC 9 [.ref (r 0), .ref (r 1), vI (ms_w S), vI (ms_l S), vL (ms_s S), vI (ms_a S), vI (ms_t S), vI (ms_p S), vI (g_np G), .ref (r 9), .ref (r 10), .ref (r 11), .ref (r 12), .ref (r 13), vI (g_nc G), .ref (r 15), .ref (r 16), .ref (r 17), vI (g_pl G), .ref (r 19), vI (g_ik G), vL (g_ks G), .ref (r 22), vL (g_ss G), .ref (r 24), vI (g_fa G), vI (g_iw G), vI (g_nw G), vI (g_ns G), vI (g_ne G), .ref (r 30), .ref (r 31), .ref (r 32), .ref (r 33), vL (g_h G)]), ((r 1), aI (Y 0) 7 (ms_h S)), ((r 0), aI (Y 0) 420 (ms_m S))] (fun w1 => w1 = [(h, oC 9 [.ref (r 0), .ref (r 1), vI (ms_w (sinS (cs cu) (ps p) p S)), vI (ms_l (sinS (cs cu) (ps p) p S)), vL (ms_s (sinS (cs cu) (ps p) p S)), vI (ms_a (sinS (cs cu) (ps p) p S)), vI (ms_t (sinS (cs cu) (ps p) p S)), vI (ms_p (sinS (cs cu) (ps p) p S)), vI (g_np G), .ref (r 9), .ref (r 10), .ref (r 11), .ref (r 12), .ref (r 13), vI (g_nc G), .ref (r 15), .ref (r 16), .ref (r 17), vI (g_pl G), .ref (r 19), vI (g_ik G), vL (g_ks G), .ref (r 22), vL (g_ss G), .ref (r 24), vI (g_fa G), vI (g_iw G), vI (g_nw G), vI (g_ns G), vI (g_ne G), .ref (r 30), .ref (r 31), .ref (r 32), .ref (r 33), vL (g_h G)]), ((r 1), aI (Y 0) 7 (ms_h (sinS (cs cu) (ps p) p S))), ((r 0), aI (Y 0) 420 (ms_m (sinS (cs cu) (ps p) p S)))]) := by
  refine j_ofv RX10 rfl rfl rfl (Nat.le_of_ble_eq_true rfl) (fun X C Rt hI => ?_)
  have hPk := hP.1
  have hPn := hP.2.2.2.1
  have hm := mostI_in (ms_h S)
  have hr := ruleS_in (num := p) hC.2.1 (by omega) hS
  have hf := fromS_in (num := p) (P := ps p) hS hC (by omega)
  refine j_aload_n (pc := 0) C 0 0 rfl rfl dX10_doSin_0 ?_
  refine j_get (pc := 1) C (Or.inl (List.mem_of_getElem? (i := 0) rfl)) rfl fX10_doSin_X10 9 (by decide) (List.mem_of_getElem? (i := 1) rfl) (Or.inl rfl) rfl dX10_doSin_1 ?_
  refine j_iload_n (pc := 4) C 2 2 rfl rfl dX10_doSin_4 ?_
  refine j_iald (pc := 5) C (Or.inr k0) rfl (by omega) (by decide) dX10_doSin_5 ?_
  refine j_st (st' := [vI (pk (ps p))]) rfl rfl rfl ?_
  refine j_iconst (pc := 6) C dX10_doSin_6 ?_
  refine j_icmp_ne (pc := 7) C 17 rfl (by omega) dX10_doSin_7 (fun h_1p7 => ?_) (fun h_1p7 => ?_)
  · skip
    refine j_aload_n (pc := 17) C 0 0 rfl rfl dX10_doSin_17 ?_
    refine j_aload_n (pc := 18) C 0 0 rfl rfl dX10_doSin_18 ?_
    refine j_get (pc := 19) C (Or.inl (List.mem_of_getElem? (i := 0) rfl)) rfl fX10_doSin_X10 16 (by decide) (List.mem_of_getElem? (i := 2) rfl) (Or.inl rfl) rfl dX10_doSin_19 ?_
    refine j_iload_n (pc := 22) C 1 1 rfl rfl dX10_doSin_22 ?_
    refine j_iald (pc := 23) C (Or.inr q1) rfl (by omega) (by decide) dX10_doSin_23 ?_
    refine j_st (st' := [vI (cz (cs cu)), .ref h]) rfl rfl rfl ?_
    refine j_iload_n (pc := 24) C 2 2 rfl rfl dX10_doSin_24 ?_
    refine j_callVi (pc := 25) (As := [vI (cz (cs cu)), vI p]) (na := 2) (st := []) C [] [0, 1, 2] (wr := [(h, oC 9 [.ref (r 0), .ref (r 1), vI (ms_w S), vI (ms_l S), vL (ms_s S), vI (ms_a S), vI (ms_t S), vI (ms_p S), vI (g_np G), .ref (r 9), .ref (r 10), .ref (r 11), .ref (r 12), .ref (r 13), vI (g_nc G), .ref (r 15), .ref (r 16), .ref (r 17), vI (g_pl G), .ref (r 19), vI (g_ik G), vL (g_ks G), .ref (r 22), vL (g_ss G), .ref (r 24), vI (g_fa G), vI (g_iw G), vI (g_nw G), vI (g_ns G), vI (g_ne G), .ref (r 30), .ref (r 31), .ref (r 32), .ref (r 33), vL (g_h G)]), ((r 1), aI (Y 0) 7 (ms_h S)), ((r 0), aI (Y 0) 420 (ms_m S))]) (fun l => m_cairnBy l D Y _ h r S G (cz (cs cu)) p (List.mem_append_left _ (List.mem_of_getElem? (i := 0) rfl)) (List.mem_append_left _ (List.mem_of_getElem? (i := 1) rfl)) (by first | assumption | omega) hC.2.1) rfl rfl rfl rfl (by decide) rfl (Or.inr (List.mem_append_left _ (List.mem_of_getElem? (i := 0) rfl))) rfl gX10_doSin_X10_cairnBy ⟨rfl, by decide +kernel⟩ (by decide) rfl rfl (Nat.le_of_ble_eq_true rfl) (by decide) dX10_doSin_25 (fun e_2 w_3 h_4 => ?_)
    obtain ⟨rfl, rfl⟩ := h_4
    refine j_perm (ws' := [(h, oC 9 [.ref (r 0), .ref (r 1), vI (ms_w S), vI (ms_l S), vL (ms_s S), vI (ms_a S), vI (ms_t S), vI (ms_p S), vI (g_np G), .ref (r 9), .ref (r 10), .ref (r 11), .ref (r 12), .ref (r 13), vI (g_nc G), .ref (r 15), .ref (r 16), .ref (r 17), vI (g_pl G), .ref (r 19), vI (g_ik G), vL (g_ks G), .ref (r 22), vL (g_ss G), .ref (r 24), vI (g_fa G), vI (g_iw G), vI (g_nw G), vI (g_ns G), vI (g_ne G), .ref (r 30), .ref (r 31), .ref (r 32), .ref (r 33), vL (g_h G)]), ((r 1), aI (Y 0) 7 (ms_h S)), ((r 0), aI (Y 0) 420 (ms_m S))]) [0, 1, 2] rfl rfl ?_
    have ef : ruleS (cz (cs cu)) p S = fromS (cs cu) (ps p) p S := by unfold fromS; first | rw [if_pos (by omega)] | rw [if_neg (by omega)]
    rw [ef]
    generalize hcf : fromS (cs cu) (ps p) p S = cf at hf ⊢
    have hh := hS.1 cf hf
    refine j_istore_n (pc := 28) (lc' := [(3, vI cf), (0, .ref h), (1, vI cu), (2, vI p)]) C 3 rfl (by decide) rfl dX10_doSin_28 ?_
    refine j_aload_n (pc := 29) C 0 1 rfl rfl dX10_doSin_29 ?_
    refine j_iload_n (pc := 30) C 3 0 rfl rfl dX10_doSin_30 ?_
    refine j_put (pc := 31) (ws' := [(h, oC 9 [.ref (r 0), .ref (r 1), vI (ms_w S), vI cf, vL (ms_s S), vI (ms_a S), vI (ms_t S), vI (ms_p S), vI (g_np G), .ref (r 9), .ref (r 10), .ref (r 11), .ref (r 12), .ref (r 13), vI (g_nc G), .ref (r 15), .ref (r 16), .ref (r 17), vI (g_pl G), .ref (r 19), vI (g_ik G), vL (g_ks G), .ref (r 22), vL (g_ss G), .ref (r 24), vI (g_fa G), vI (g_iw G), vI (g_nw G), vI (g_ns G), vI (g_ne G), .ref (r 30), .ref (r 31), .ref (r 32), .ref (r 33), vL (g_h G)]), ((r 1), aI (Y 0) 7 (ms_h S)), ((r 0), aI (Y 0) 420 (ms_m S))]) C 0 rfl rfl fX10_doSin_X10 tyX10_ok nmX10 3 (by decide) (List.mem_of_getElem? (i := 3) rfl) (Or.inl rfl) rfl rfl rfl rfl (Nat.le_of_ble_eq_true rfl) rfl dX10_doSin_31 ?_
    refine j_aload_n (pc := 34) C 0 1 rfl rfl dX10_doSin_34 ?_
    refine j_get (pc := 35) C (Or.inl (List.mem_of_getElem? (i := 0) rfl)) rfl fX10_doSin_X10 1 (by decide) (List.mem_of_getElem? (i := 4) rfl) (Or.inl rfl) rfl dX10_doSin_35 ?_
    refine j_iload_n (pc := 38) C 3 0 rfl rfl dX10_doSin_38 ?_
    refine j_iald (pc := 39) C (Or.inl (List.mem_of_getElem? (i := 1) rfl)) rfl (by omega) (by decide) dX10_doSin_39 ?_
    have f_5 := hS.1 cf (by omega)
    refine j_if_ne (pc := 40) C 44 rfl (by omega) dX10_doSin_40 (fun h_6p40 => ?_) (fun h_6p40 => ?_)
    · skip
      have hnz : ¬ ms_h S cf = 0 := by assumption
      refine j_aload_n (pc := 44) C 0 1 rfl rfl dX10_doSin_44 ?_
      refine j_get (pc := 45) C (Or.inl (List.mem_of_getElem? (i := 0) rfl)) rfl fX10_doSin_X10 9 (by decide) (List.mem_of_getElem? (i := 1) rfl) (Or.inl rfl) rfl dX10_doSin_45 ?_
      refine j_iload_n (pc := 48) C 2 3 rfl rfl dX10_doSin_48 ?_
      refine j_iald (pc := 49) C (Or.inr k0) rfl (by omega) (by decide) dX10_doSin_49 ?_
      refine j_st (st' := [vI (pk (ps p))]) rfl rfl rfl ?_
      refine j_iconst (pc := 50) C dX10_doSin_50 ?_
      refine j_icmp_eq (pc := 51) C 64 rfl (by omega) dX10_doSin_51 (fun h_7p51 => ?_) (fun h_7p51 => ?_)
      · skip
        refine j_aload_n (pc := 64) C 0 1 rfl rfl dX10_doSin_64 ?_
        refine j_iload_n (pc := 65) C 3 0 rfl rfl dX10_doSin_65 ?_
        refine j_iconst (pc := 66) C dX10_doSin_66 ?_
        refine j_callVi (pc := 67) (As := [vI cf, vI 0]) (na := 2) (st := []) C [] [0, 1, 2] (wr := [(h, oC 9 [.ref (r 0), .ref (r 1), vI (ms_w S), vI cf, vL (ms_s S), vI (ms_a S), vI (ms_t S), vI (ms_p S), vI (g_np G), .ref (r 9), .ref (r 10), .ref (r 11), .ref (r 12), .ref (r 13), vI (g_nc G), .ref (r 15), .ref (r 16), .ref (r 17), vI (g_pl G), .ref (r 19), vI (g_ik G), vL (g_ks G), .ref (r 22), vL (g_ss G), .ref (r 24), vI (g_fa G), vI (g_iw G), vI (g_nw G), vI (g_ns G), vI (g_ne G), .ref (r 30), .ref (r 31), .ref (r 32), .ref (r 33), vL (g_h G)]), ((r 1), aI (Y 0) 7 (ms_h S)), ((r 0), aI (Y 0) 420 (ms_m S))]) (fun l => m_markOf l D Y _ h r (ms_h S, ms_m S, ms_w S, cf, ms_s S, ms_a S, ms_t S, ms_p S) G cf 0 (List.mem_append_left _ (List.mem_of_getElem? (i := 0) rfl)) (List.mem_append_left _ (List.mem_of_getElem? (i := 1) rfl)) (List.mem_append_left _ (List.mem_of_getElem? (i := 2) rfl)) (okS_L hS hf) hf (by first | assumption | omega)) rfl rfl rfl rfl (by decide) rfl (Or.inr (List.mem_append_left _ (List.mem_of_getElem? (i := 0) rfl))) rfl gX10_doSin_X10_markOf ⟨rfl, by decide +kernel⟩ (by decide) rfl rfl (Nat.le_of_ble_eq_true rfl) (by decide) dX10_doSin_67 (fun e_8 w_9 h_10 => ?_)
        obtain ⟨rfl, rfl⟩ := h_10
        refine j_perm (ws' := [(h, oC 9 [.ref (r 0), .ref (r 1), vI (ms_w S), vI cf, vL (ms_s S), vI (ms_a S), vI (ms_t S), vI (ms_p S), vI (g_np G), .ref (r 9), .ref (r 10), .ref (r 11), .ref (r 12), .ref (r 13), vI (g_nc G), .ref (r 15), .ref (r 16), .ref (r 17), vI (g_pl G), .ref (r 19), vI (g_ik G), vL (g_ks G), .ref (r 22), vL (g_ss G), .ref (r 24), vI (g_fa G), vI (g_iw G), vI (g_nw G), vI (g_ns G), vI (g_ne G), .ref (r 30), .ref (r 31), .ref (r 32), .ref (r 33), vL (g_h G)]), ((r 1), aI (Y 0) 7 (ms_h S)), ((r 0), aI (Y 0) 420 (ms_m S))]) [0, 1, 2] rfl rfl ?_
        refine j_istore (pc := 70) (lc' := [(4, vI (markS cf 0 (ms_h S, ms_m S, ms_w S, cf, ms_s S, ms_a S, ms_t S, ms_p S))), (3, vI cf), (0, .ref h), (1, vI cu), (2, vI p)]) C (by decide) rfl dX10_doSin_70 ?_
        refine j_aload_n (pc := 72) C 0 2 rfl rfl dX10_doSin_72 ?_
        refine j_get (pc := 73) C (Or.inl (List.mem_of_getElem? (i := 0) rfl)) rfl fX10_doSin_X10 1 (by decide) (List.mem_of_getElem? (i := 4) rfl) (Or.inl rfl) rfl dX10_doSin_73 ?_
        refine j_iload_n (pc := 76) C 3 1 rfl rfl dX10_doSin_76 ?_
        refine j_dup2 (pc := 77) C rfl rfl dX10_doSin_77 ?_
        refine j_iald (pc := 78) C (Or.inl (List.mem_of_getElem? (i := 1) rfl)) rfl (by omega) (by decide) dX10_doSin_78 ?_
        have f_11 := hS.1 cf (by omega)
        refine j_iconst (pc := 79) C dX10_doSin_79 ?_
        refine j_isub (pc := 80) C dX10_doSin_80 ?_
        refine j_iast (pc := 81) (ws' := [(h, oC 9 [.ref (r 0), .ref (r 1), vI (ms_w S), vI cf, vL (ms_s S), vI (ms_a S), vI (ms_t S), vI (ms_p S), vI (g_np G), .ref (r 9), .ref (r 10), .ref (r 11), .ref (r 12), .ref (r 13), vI (g_nc G), .ref (r 15), .ref (r 16), .ref (r 17), vI (g_pl G), .ref (r 19), vI (g_ik G), vL (g_ks G), .ref (r 22), vL (g_ss G), .ref (r 24), vI (g_fa G), vI (g_iw G), vI (g_nw G), vI (g_ns G), vI (g_ne G), .ref (r 30), .ref (r 31), .ref (r 32), .ref (r 33), vL (g_h G)]), ((r 1), aI (Y 0) 7 (up (ms_h S) cf (ms_h S cf - 1))), ((r 0), aI (Y 0) 420 (ms_m S))]) C 1 rfl rfl (by omega) (by decide) rfl dX10_doSin_81 ?_
        refine j_aload_n (pc := 82) C 0 2 rfl rfl dX10_doSin_82 ?_
        refine j_aload_n (pc := 83) C 0 2 rfl rfl dX10_doSin_83 ?_
        refine j_get (pc := 84) C (Or.inl (List.mem_of_getElem? (i := 0) rfl)) rfl fX10_doSin_X10 10 (by decide) (List.mem_of_getElem? (i := 5) rfl) (Or.inl rfl) rfl dX10_doSin_84 ?_
        refine j_iload_n (pc := 87) C 2 4 rfl rfl dX10_doSin_87 ?_
        refine j_iald (pc := 88) C (Or.inr k1) rfl (by omega) (by decide) dX10_doSin_88 ?_
        refine j_st (st' := [vI (pn (ps p)), .ref h]) rfl rfl rfl ?_
        refine j_iload (pc := 89) C 0 rfl dX10_doSin_89 ?_
        refine j_callVv (pc := 91) (As := [vI (pn (ps p)), vI (markS cf 0 (ms_h S, ms_m S, ms_w S, cf, ms_s S, ms_a S, ms_t S, ms_p S))]) (na := 2) (st := []) C [0, 1, 2] [] (wr := []) (fun l => m_put l D Y _ h r (up (ms_h S) cf (ms_h S cf - 1), ms_m S, ms_w S, cf, ms_s S, ms_a S, ms_t S, ms_p S) G (pn (ps p)) (markS cf 0 (ms_h S, ms_m S, ms_w S, cf, ms_s S, ms_a S, ms_t S, ms_p S)) (okS_H (S := setL S cf) (okS_L hS hf) hf hnz) (hPn (by omega))) rfl rfl rfl rfl (by decide) rfl (Or.inl (List.mem_of_getElem? (i := 0) rfl)) rfl gX10_doSin_X10_put ⟨rfl, by decide +kernel⟩ (by decide) rfl rfl (Nat.le_of_ble_eq_true rfl) (by decide) dX10_doSin_91 (fun w_13 h_14 => ?_)
        subst h_14
        refine j_perm (ws' := [(h, oC 9 [.ref (r 0), .ref (r 1), vI (ms_w (putS (pn (ps p)) (markS cf 0 (ms_h S, ms_m S, ms_w S, cf, ms_s S, ms_a S, ms_t S, ms_p S)) (up (ms_h S) cf (ms_h S cf - 1), ms_m S, ms_w S, cf, ms_s S, ms_a S, ms_t S, ms_p S))), vI (ms_l (putS (pn (ps p)) (markS cf 0 (ms_h S, ms_m S, ms_w S, cf, ms_s S, ms_a S, ms_t S, ms_p S)) (up (ms_h S) cf (ms_h S cf - 1), ms_m S, ms_w S, cf, ms_s S, ms_a S, ms_t S, ms_p S))), vL (ms_s (putS (pn (ps p)) (markS cf 0 (ms_h S, ms_m S, ms_w S, cf, ms_s S, ms_a S, ms_t S, ms_p S)) (up (ms_h S) cf (ms_h S cf - 1), ms_m S, ms_w S, cf, ms_s S, ms_a S, ms_t S, ms_p S))), vI (ms_a (putS (pn (ps p)) (markS cf 0 (ms_h S, ms_m S, ms_w S, cf, ms_s S, ms_a S, ms_t S, ms_p S)) (up (ms_h S) cf (ms_h S cf - 1), ms_m S, ms_w S, cf, ms_s S, ms_a S, ms_t S, ms_p S))), vI (ms_t (putS (pn (ps p)) (markS cf 0 (ms_h S, ms_m S, ms_w S, cf, ms_s S, ms_a S, ms_t S, ms_p S)) (up (ms_h S) cf (ms_h S cf - 1), ms_m S, ms_w S, cf, ms_s S, ms_a S, ms_t S, ms_p S))), vI (ms_p (putS (pn (ps p)) (markS cf 0 (ms_h S, ms_m S, ms_w S, cf, ms_s S, ms_a S, ms_t S, ms_p S)) (up (ms_h S) cf (ms_h S cf - 1), ms_m S, ms_w S, cf, ms_s S, ms_a S, ms_t S, ms_p S))), vI (g_np G), .ref (r 9), .ref (r 10), .ref (r 11), .ref (r 12), .ref (r 13), vI (g_nc G), .ref (r 15), .ref (r 16), .ref (r 17), vI (g_pl G), .ref (r 19), vI (g_ik G), vL (g_ks G), .ref (r 22), vL (g_ss G), .ref (r 24), vI (g_fa G), vI (g_iw G), vI (g_nw G), vI (g_ns G), vI (g_ne G), .ref (r 30), .ref (r 31), .ref (r 32), .ref (r 33), vL (g_h G)]), ((r 1), aI (Y 0) 7 (ms_h (putS (pn (ps p)) (markS cf 0 (ms_h S, ms_m S, ms_w S, cf, ms_s S, ms_a S, ms_t S, ms_p S)) (up (ms_h S) cf (ms_h S cf - 1), ms_m S, ms_w S, cf, ms_s S, ms_a S, ms_t S, ms_p S)))), ((r 0), aI (Y 0) 420 (ms_m (putS (pn (ps p)) (markS cf 0 (ms_h S, ms_m S, ms_w S, cf, ms_s S, ms_a S, ms_t S, ms_p S)) (up (ms_h S) cf (ms_h S cf - 1), ms_m S, ms_w S, cf, ms_s S, ms_a S, ms_t S, ms_p S))))]) [0, 1, 2] rfl rfl ?_
        refine j_goto (pc := 94) C 103 rfl dX10_doSin_94 ?_
        have hpn := hPn (by omega)
        have eh : hideP (ps p) = pn (ps p) := by unfold hideP; rw [if_pos (by omega)]
        have es : sinS (cs cu) (ps p) p S = putS (pn (ps p)) (markS cf 0 (setL S cf)) (setH (setL S cf) (up (ms_h S) cf (ms_h S cf - 1))) := by unfold sinS; rw [hcf, eh]; unfold stealS; rw [if_neg (by omega), if_neg hnz]; exact (putS_setL _ _ _ _).symm
        exact Rt _ _ _ _ _ (by decide) (by decide) (by rw [es]; first | done | rfl) dX10_doSin_103
      · skip
        refine j_aload_n (pc := 54) C 0 1 rfl rfl dX10_doSin_54 ?_
        refine j_get (pc := 55) C (Or.inl (List.mem_of_getElem? (i := 0) rfl)) rfl fX10_doSin_X10 9 (by decide) (List.mem_of_getElem? (i := 1) rfl) (Or.inl rfl) rfl dX10_doSin_55 ?_
        refine j_iload_n (pc := 58) C 2 3 rfl rfl dX10_doSin_58 ?_
        refine j_iald (pc := 59) C (Or.inr k0) rfl (by omega) (by decide) dX10_doSin_59 ?_
        refine j_st (st' := [vI (pk (ps p))]) rfl rfl rfl ?_
        refine j_iconst (pc := 60) C dX10_doSin_60 ?_
        refine j_icmp_ne (pc := 61) C 97 rfl (by omega) dX10_doSin_61 (fun h_15p61 => ?_) (fun h_15p61 => ?_)
        · skip
          refine j_aload_n (pc := 97) C 0 1 rfl rfl dX10_doSin_97 ?_
          refine j_iload_n (pc := 98) C 3 0 rfl rfl dX10_doSin_98 ?_
          refine j_iconst (pc := 99) C dX10_doSin_99 ?_
          refine j_callVv (pc := 100) (As := [vI cf, vI 1]) (na := 2) (st := []) C [0, 1, 2] [] (wr := []) (fun l => m_takeAll l D Y _ h r (ms_h S, ms_m S, ms_w S, cf, ms_s S, ms_a S, ms_t S, ms_p S) G cf 1 (okS_L hS hf) hf (by first | assumption | omega)) rfl rfl rfl rfl (by decide) rfl (Or.inl (List.mem_of_getElem? (i := 0) rfl)) rfl gX10_doSin_X10_takeAll ⟨rfl, by decide +kernel⟩ (by decide) rfl rfl (Nat.le_of_ble_eq_true rfl) (by decide) dX10_doSin_100 (fun w_17 h_18 => ?_)
          subst h_18
          refine j_perm (ws' := [(h, oC 9 [.ref (r 0), .ref (r 1), vI (ms_w (takeS cf 1 (ms_h S, ms_m S, ms_w S, cf, ms_s S, ms_a S, ms_t S, ms_p S))), vI (ms_l (takeS cf 1 (ms_h S, ms_m S, ms_w S, cf, ms_s S, ms_a S, ms_t S, ms_p S))), vL (ms_s (takeS cf 1 (ms_h S, ms_m S, ms_w S, cf, ms_s S, ms_a S, ms_t S, ms_p S))), vI (ms_a (takeS cf 1 (ms_h S, ms_m S, ms_w S, cf, ms_s S, ms_a S, ms_t S, ms_p S))), vI (ms_t (takeS cf 1 (ms_h S, ms_m S, ms_w S, cf, ms_s S, ms_a S, ms_t S, ms_p S))), vI (ms_p (takeS cf 1 (ms_h S, ms_m S, ms_w S, cf, ms_s S, ms_a S, ms_t S, ms_p S))), vI (g_np G), .ref (r 9), .ref (r 10), .ref (r 11), .ref (r 12), .ref (r 13), vI (g_nc G), .ref (r 15), .ref (r 16), .ref (r 17), vI (g_pl G), .ref (r 19), vI (g_ik G), vL (g_ks G), .ref (r 22), vL (g_ss G), .ref (r 24), vI (g_fa G), vI (g_iw G), vI (g_nw G), vI (g_ns G), vI (g_ne G), .ref (r 30), .ref (r 31), .ref (r 32), .ref (r 33), vL (g_h G)]), ((r 1), aI (Y 0) 7 (ms_h (takeS cf 1 (ms_h S, ms_m S, ms_w S, cf, ms_s S, ms_a S, ms_t S, ms_p S)))), ((r 0), aI (Y 0) 420 (ms_m (takeS cf 1 (ms_h S, ms_m S, ms_w S, cf, ms_s S, ms_a S, ms_t S, ms_p S))))]) [0, 1, 2] rfl rfl ?_
          have eh : hideP (ps p) = -1 := by unfold hideP; rw [if_neg (by omega)]
          have es : sinS (cs cu) (ps p) p S = takeS cf 1 (setL S cf) := by unfold sinS; rw [hcf, eh]; unfold stealS; rw [if_pos rfl]; rfl
          exact Rt _ _ _ _ _ (by decide) (by decide) (by rw [es]; first | done | rfl) dX10_doSin_103
        · skip
          refine j_aload_n (pc := 64) C 0 1 rfl rfl dX10_doSin_64 ?_
          refine j_iload_n (pc := 65) C 3 0 rfl rfl dX10_doSin_65 ?_
          refine j_iconst (pc := 66) C dX10_doSin_66 ?_
          refine j_callVi (pc := 67) (As := [vI cf, vI 0]) (na := 2) (st := []) C [] [0, 1, 2] (wr := [(h, oC 9 [.ref (r 0), .ref (r 1), vI (ms_w S), vI cf, vL (ms_s S), vI (ms_a S), vI (ms_t S), vI (ms_p S), vI (g_np G), .ref (r 9), .ref (r 10), .ref (r 11), .ref (r 12), .ref (r 13), vI (g_nc G), .ref (r 15), .ref (r 16), .ref (r 17), vI (g_pl G), .ref (r 19), vI (g_ik G), vL (g_ks G), .ref (r 22), vL (g_ss G), .ref (r 24), vI (g_fa G), vI (g_iw G), vI (g_nw G), vI (g_ns G), vI (g_ne G), .ref (r 30), .ref (r 31), .ref (r 32), .ref (r 33), vL (g_h G)]), ((r 1), aI (Y 0) 7 (ms_h S)), ((r 0), aI (Y 0) 420 (ms_m S))]) (fun l => m_markOf l D Y _ h r (ms_h S, ms_m S, ms_w S, cf, ms_s S, ms_a S, ms_t S, ms_p S) G cf 0 (List.mem_append_left _ (List.mem_of_getElem? (i := 0) rfl)) (List.mem_append_left _ (List.mem_of_getElem? (i := 1) rfl)) (List.mem_append_left _ (List.mem_of_getElem? (i := 2) rfl)) (okS_L hS hf) hf (by first | assumption | omega)) rfl rfl rfl rfl (by decide) rfl (Or.inr (List.mem_append_left _ (List.mem_of_getElem? (i := 0) rfl))) rfl gX10_doSin_X10_markOf ⟨rfl, by decide +kernel⟩ (by decide) rfl rfl (Nat.le_of_ble_eq_true rfl) (by decide) dX10_doSin_67 (fun e_19 w_20 h_21 => ?_)
          obtain ⟨rfl, rfl⟩ := h_21
          refine j_perm (ws' := [(h, oC 9 [.ref (r 0), .ref (r 1), vI (ms_w S), vI cf, vL (ms_s S), vI (ms_a S), vI (ms_t S), vI (ms_p S), vI (g_np G), .ref (r 9), .ref (r 10), .ref (r 11), .ref (r 12), .ref (r 13), vI (g_nc G), .ref (r 15), .ref (r 16), .ref (r 17), vI (g_pl G), .ref (r 19), vI (g_ik G), vL (g_ks G), .ref (r 22), vL (g_ss G), .ref (r 24), vI (g_fa G), vI (g_iw G), vI (g_nw G), vI (g_ns G), vI (g_ne G), .ref (r 30), .ref (r 31), .ref (r 32), .ref (r 33), vL (g_h G)]), ((r 1), aI (Y 0) 7 (ms_h S)), ((r 0), aI (Y 0) 420 (ms_m S))]) [0, 1, 2] rfl rfl ?_
          refine j_istore (pc := 70) (lc' := [(4, vI (markS cf 0 (ms_h S, ms_m S, ms_w S, cf, ms_s S, ms_a S, ms_t S, ms_p S))), (3, vI cf), (0, .ref h), (1, vI cu), (2, vI p)]) C (by decide) rfl dX10_doSin_70 ?_
          refine j_aload_n (pc := 72) C 0 2 rfl rfl dX10_doSin_72 ?_
          refine j_get (pc := 73) C (Or.inl (List.mem_of_getElem? (i := 0) rfl)) rfl fX10_doSin_X10 1 (by decide) (List.mem_of_getElem? (i := 4) rfl) (Or.inl rfl) rfl dX10_doSin_73 ?_
          refine j_iload_n (pc := 76) C 3 1 rfl rfl dX10_doSin_76 ?_
          refine j_dup2 (pc := 77) C rfl rfl dX10_doSin_77 ?_
          refine j_iald (pc := 78) C (Or.inl (List.mem_of_getElem? (i := 1) rfl)) rfl (by omega) (by decide) dX10_doSin_78 ?_
          have f_22 := hS.1 cf (by omega)
          refine j_iconst (pc := 79) C dX10_doSin_79 ?_
          refine j_isub (pc := 80) C dX10_doSin_80 ?_
          refine j_iast (pc := 81) (ws' := [(h, oC 9 [.ref (r 0), .ref (r 1), vI (ms_w S), vI cf, vL (ms_s S), vI (ms_a S), vI (ms_t S), vI (ms_p S), vI (g_np G), .ref (r 9), .ref (r 10), .ref (r 11), .ref (r 12), .ref (r 13), vI (g_nc G), .ref (r 15), .ref (r 16), .ref (r 17), vI (g_pl G), .ref (r 19), vI (g_ik G), vL (g_ks G), .ref (r 22), vL (g_ss G), .ref (r 24), vI (g_fa G), vI (g_iw G), vI (g_nw G), vI (g_ns G), vI (g_ne G), .ref (r 30), .ref (r 31), .ref (r 32), .ref (r 33), vL (g_h G)]), ((r 1), aI (Y 0) 7 (up (ms_h S) cf (ms_h S cf - 1))), ((r 0), aI (Y 0) 420 (ms_m S))]) C 1 rfl rfl (by omega) (by decide) rfl dX10_doSin_81 ?_
          refine j_aload_n (pc := 82) C 0 2 rfl rfl dX10_doSin_82 ?_
          refine j_aload_n (pc := 83) C 0 2 rfl rfl dX10_doSin_83 ?_
          refine j_get (pc := 84) C (Or.inl (List.mem_of_getElem? (i := 0) rfl)) rfl fX10_doSin_X10 10 (by decide) (List.mem_of_getElem? (i := 5) rfl) (Or.inl rfl) rfl dX10_doSin_84 ?_
          refine j_iload_n (pc := 87) C 2 4 rfl rfl dX10_doSin_87 ?_
          refine j_iald (pc := 88) C (Or.inr k1) rfl (by omega) (by decide) dX10_doSin_88 ?_
          refine j_st (st' := [vI (pn (ps p)), .ref h]) rfl rfl rfl ?_
          refine j_iload (pc := 89) C 0 rfl dX10_doSin_89 ?_
          refine j_callVv (pc := 91) (As := [vI (pn (ps p)), vI (markS cf 0 (ms_h S, ms_m S, ms_w S, cf, ms_s S, ms_a S, ms_t S, ms_p S))]) (na := 2) (st := []) C [0, 1, 2] [] (wr := []) (fun l => m_put l D Y _ h r (up (ms_h S) cf (ms_h S cf - 1), ms_m S, ms_w S, cf, ms_s S, ms_a S, ms_t S, ms_p S) G (pn (ps p)) (markS cf 0 (ms_h S, ms_m S, ms_w S, cf, ms_s S, ms_a S, ms_t S, ms_p S)) (okS_H (S := setL S cf) (okS_L hS hf) hf hnz) (hPn (by omega))) rfl rfl rfl rfl (by decide) rfl (Or.inl (List.mem_of_getElem? (i := 0) rfl)) rfl gX10_doSin_X10_put ⟨rfl, by decide +kernel⟩ (by decide) rfl rfl (Nat.le_of_ble_eq_true rfl) (by decide) dX10_doSin_91 (fun w_24 h_25 => ?_)
          subst h_25
          refine j_perm (ws' := [(h, oC 9 [.ref (r 0), .ref (r 1), vI (ms_w (putS (pn (ps p)) (markS cf 0 (ms_h S, ms_m S, ms_w S, cf, ms_s S, ms_a S, ms_t S, ms_p S)) (up (ms_h S) cf (ms_h S cf - 1), ms_m S, ms_w S, cf, ms_s S, ms_a S, ms_t S, ms_p S))), vI (ms_l (putS (pn (ps p)) (markS cf 0 (ms_h S, ms_m S, ms_w S, cf, ms_s S, ms_a S, ms_t S, ms_p S)) (up (ms_h S) cf (ms_h S cf - 1), ms_m S, ms_w S, cf, ms_s S, ms_a S, ms_t S, ms_p S))), vL (ms_s (putS (pn (ps p)) (markS cf 0 (ms_h S, ms_m S, ms_w S, cf, ms_s S, ms_a S, ms_t S, ms_p S)) (up (ms_h S) cf (ms_h S cf - 1), ms_m S, ms_w S, cf, ms_s S, ms_a S, ms_t S, ms_p S))), vI (ms_a (putS (pn (ps p)) (markS cf 0 (ms_h S, ms_m S, ms_w S, cf, ms_s S, ms_a S, ms_t S, ms_p S)) (up (ms_h S) cf (ms_h S cf - 1), ms_m S, ms_w S, cf, ms_s S, ms_a S, ms_t S, ms_p S))), vI (ms_t (putS (pn (ps p)) (markS cf 0 (ms_h S, ms_m S, ms_w S, cf, ms_s S, ms_a S, ms_t S, ms_p S)) (up (ms_h S) cf (ms_h S cf - 1), ms_m S, ms_w S, cf, ms_s S, ms_a S, ms_t S, ms_p S))), vI (ms_p (putS (pn (ps p)) (markS cf 0 (ms_h S, ms_m S, ms_w S, cf, ms_s S, ms_a S, ms_t S, ms_p S)) (up (ms_h S) cf (ms_h S cf - 1), ms_m S, ms_w S, cf, ms_s S, ms_a S, ms_t S, ms_p S))), vI (g_np G), .ref (r 9), .ref (r 10), .ref (r 11), .ref (r 12), .ref (r 13), vI (g_nc G), .ref (r 15), .ref (r 16), .ref (r 17), vI (g_pl G), .ref (r 19), vI (g_ik G), vL (g_ks G), .ref (r 22), vL (g_ss G), .ref (r 24), vI (g_fa G), vI (g_iw G), vI (g_nw G), vI (g_ns G), vI (g_ne G), .ref (r 30), .ref (r 31), .ref (r 32), .ref (r 33), vL (g_h G)]), ((r 1), aI (Y 0) 7 (ms_h (putS (pn (ps p)) (markS cf 0 (ms_h S, ms_m S, ms_w S, cf, ms_s S, ms_a S, ms_t S, ms_p S)) (up (ms_h S) cf (ms_h S cf - 1), ms_m S, ms_w S, cf, ms_s S, ms_a S, ms_t S, ms_p S)))), ((r 0), aI (Y 0) 420 (ms_m (putS (pn (ps p)) (markS cf 0 (ms_h S, ms_m S, ms_w S, cf, ms_s S, ms_a S, ms_t S, ms_p S)) (up (ms_h S) cf (ms_h S cf - 1), ms_m S, ms_w S, cf, ms_s S, ms_a S, ms_t S, ms_p S))))]) [0, 1, 2] rfl rfl ?_
          refine j_goto (pc := 94) C 103 rfl dX10_doSin_94 ?_
          have hpn := hPn (by omega)
          have eh : hideP (ps p) = pn (ps p) := by unfold hideP; rw [if_pos (by omega)]
          have es : sinS (cs cu) (ps p) p S = putS (pn (ps p)) (markS cf 0 (setL S cf)) (setH (setL S cf) (up (ms_h S) cf (ms_h S cf - 1))) := by unfold sinS; rw [hcf, eh]; unfold stealS; rw [if_neg (by omega), if_neg hnz]; exact (putS_setL _ _ _ _).symm
          exact Rt _ _ _ _ _ (by decide) (by decide) (by rw [es]; first | done | rfl) dX10_doSin_103
    · skip
      have e0 : ms_h S cf = 0 := by assumption
      have es : sinS (cs cu) (ps p) p S = setL S cf := by unfold sinS; rw [hcf, stealS_zero e0]
      exact Rt _ _ _ _ _ (by decide) (by decide) (by rw [es]; first | done | rfl) dX10_doSin_43
  · skip
    refine j_aload_n (pc := 10) C 0 0 rfl rfl dX10_doSin_10 ?_
    refine j_callVi (pc := 11) (As := []) (na := 0) (st := []) C [] [0, 1, 2] (wr := [(h, oC 9 [.ref (r 0), .ref (r 1), vI (ms_w S), vI (ms_l S), vL (ms_s S), vI (ms_a S), vI (ms_t S), vI (ms_p S), vI (g_np G), .ref (r 9), .ref (r 10), .ref (r 11), .ref (r 12), .ref (r 13), vI (g_nc G), .ref (r 15), .ref (r 16), .ref (r 17), vI (g_pl G), .ref (r 19), vI (g_ik G), vL (g_ks G), .ref (r 22), vL (g_ss G), .ref (r 24), vI (g_fa G), vI (g_iw G), vI (g_nw G), vI (g_ns G), vI (g_ne G), .ref (r 30), .ref (r 31), .ref (r 32), .ref (r 33), vL (g_h G)]), ((r 1), aI (Y 0) 7 (ms_h S)), ((r 0), aI (Y 0) 420 (ms_m S))]) (fun l => m_withMost l D Y _ h r S G (List.mem_append_left _ (List.mem_of_getElem? (i := 0) rfl)) (List.mem_append_left _ (List.mem_of_getElem? (i := 1) rfl)) (by first | assumption | omega)) rfl rfl rfl rfl (by decide) rfl (Or.inr (List.mem_append_left _ (List.mem_of_getElem? (i := 0) rfl))) rfl gX10_doSin_X10_withMost ⟨rfl, by decide +kernel⟩ (by decide) rfl rfl (Nat.le_of_ble_eq_true rfl) (by decide) dX10_doSin_11 (fun e_26 w_27 h_28 => ?_)
    obtain ⟨rfl, rfl⟩ := h_28
    refine j_perm (ws' := [(h, oC 9 [.ref (r 0), .ref (r 1), vI (ms_w S), vI (ms_l S), vL (ms_s S), vI (ms_a S), vI (ms_t S), vI (ms_p S), vI (g_np G), .ref (r 9), .ref (r 10), .ref (r 11), .ref (r 12), .ref (r 13), vI (g_nc G), .ref (r 15), .ref (r 16), .ref (r 17), vI (g_pl G), .ref (r 19), vI (g_ik G), vL (g_ks G), .ref (r 22), vL (g_ss G), .ref (r 24), vI (g_fa G), vI (g_iw G), vI (g_nw G), vI (g_ns G), vI (g_ne G), .ref (r 30), .ref (r 31), .ref (r 32), .ref (r 33), vL (g_h G)]), ((r 1), aI (Y 0) 7 (ms_h S)), ((r 0), aI (Y 0) 420 (ms_m S))]) [0, 1, 2] rfl rfl ?_
    refine j_goto (pc := 14) C 28 rfl dX10_doSin_14 ?_
    have ef : mostI (ms_h S) = fromS (cs cu) (ps p) p S := by unfold fromS; first | rw [if_pos (by omega)] | rw [if_neg (by omega)]
    rw [ef]
    generalize hcf : fromS (cs cu) (ps p) p S = cf at hf ⊢
    have hh := hS.1 cf hf
    refine j_istore_n (pc := 28) (lc' := [(3, vI cf), (0, .ref h), (1, vI cu), (2, vI p)]) C 3 rfl (by decide) rfl dX10_doSin_28 ?_
    refine j_aload_n (pc := 29) C 0 1 rfl rfl dX10_doSin_29 ?_
    refine j_iload_n (pc := 30) C 3 0 rfl rfl dX10_doSin_30 ?_
    refine j_put (pc := 31) (ws' := [(h, oC 9 [.ref (r 0), .ref (r 1), vI (ms_w S), vI cf, vL (ms_s S), vI (ms_a S), vI (ms_t S), vI (ms_p S), vI (g_np G), .ref (r 9), .ref (r 10), .ref (r 11), .ref (r 12), .ref (r 13), vI (g_nc G), .ref (r 15), .ref (r 16), .ref (r 17), vI (g_pl G), .ref (r 19), vI (g_ik G), vL (g_ks G), .ref (r 22), vL (g_ss G), .ref (r 24), vI (g_fa G), vI (g_iw G), vI (g_nw G), vI (g_ns G), vI (g_ne G), .ref (r 30), .ref (r 31), .ref (r 32), .ref (r 33), vL (g_h G)]), ((r 1), aI (Y 0) 7 (ms_h S)), ((r 0), aI (Y 0) 420 (ms_m S))]) C 0 rfl rfl fX10_doSin_X10 tyX10_ok nmX10 3 (by decide) (List.mem_of_getElem? (i := 3) rfl) (Or.inl rfl) rfl rfl rfl rfl (Nat.le_of_ble_eq_true rfl) rfl dX10_doSin_31 ?_
    refine j_aload_n (pc := 34) C 0 1 rfl rfl dX10_doSin_34 ?_
    refine j_get (pc := 35) C (Or.inl (List.mem_of_getElem? (i := 0) rfl)) rfl fX10_doSin_X10 1 (by decide) (List.mem_of_getElem? (i := 4) rfl) (Or.inl rfl) rfl dX10_doSin_35 ?_
    refine j_iload_n (pc := 38) C 3 0 rfl rfl dX10_doSin_38 ?_
    refine j_iald (pc := 39) C (Or.inl (List.mem_of_getElem? (i := 1) rfl)) rfl (by omega) (by decide) dX10_doSin_39 ?_
    have f_29 := hS.1 cf (by omega)
    refine j_if_ne (pc := 40) C 44 rfl (by omega) dX10_doSin_40 (fun h_30p40 => ?_) (fun h_30p40 => ?_)
    · skip
      have hnz : ¬ ms_h S cf = 0 := by assumption
      refine j_aload_n (pc := 44) C 0 1 rfl rfl dX10_doSin_44 ?_
      refine j_get (pc := 45) C (Or.inl (List.mem_of_getElem? (i := 0) rfl)) rfl fX10_doSin_X10 9 (by decide) (List.mem_of_getElem? (i := 1) rfl) (Or.inl rfl) rfl dX10_doSin_45 ?_
      refine j_iload_n (pc := 48) C 2 3 rfl rfl dX10_doSin_48 ?_
      refine j_iald (pc := 49) C (Or.inr k0) rfl (by omega) (by decide) dX10_doSin_49 ?_
      refine j_st (st' := [vI (pk (ps p))]) rfl rfl rfl ?_
      refine j_iconst (pc := 50) C dX10_doSin_50 ?_
      refine j_icmp_eq (pc := 51) C 64 rfl (by omega) dX10_doSin_51 (fun h_31p51 => ?_) (fun h_31p51 => ?_)
      · skip
        refine j_aload_n (pc := 64) C 0 1 rfl rfl dX10_doSin_64 ?_
        refine j_iload_n (pc := 65) C 3 0 rfl rfl dX10_doSin_65 ?_
        refine j_iconst (pc := 66) C dX10_doSin_66 ?_
        refine j_callVi (pc := 67) (As := [vI cf, vI 0]) (na := 2) (st := []) C [] [0, 1, 2] (wr := [(h, oC 9 [.ref (r 0), .ref (r 1), vI (ms_w S), vI cf, vL (ms_s S), vI (ms_a S), vI (ms_t S), vI (ms_p S), vI (g_np G), .ref (r 9), .ref (r 10), .ref (r 11), .ref (r 12), .ref (r 13), vI (g_nc G), .ref (r 15), .ref (r 16), .ref (r 17), vI (g_pl G), .ref (r 19), vI (g_ik G), vL (g_ks G), .ref (r 22), vL (g_ss G), .ref (r 24), vI (g_fa G), vI (g_iw G), vI (g_nw G), vI (g_ns G), vI (g_ne G), .ref (r 30), .ref (r 31), .ref (r 32), .ref (r 33), vL (g_h G)]), ((r 1), aI (Y 0) 7 (ms_h S)), ((r 0), aI (Y 0) 420 (ms_m S))]) (fun l => m_markOf l D Y _ h r (ms_h S, ms_m S, ms_w S, cf, ms_s S, ms_a S, ms_t S, ms_p S) G cf 0 (List.mem_append_left _ (List.mem_of_getElem? (i := 0) rfl)) (List.mem_append_left _ (List.mem_of_getElem? (i := 1) rfl)) (List.mem_append_left _ (List.mem_of_getElem? (i := 2) rfl)) (okS_L hS hf) hf (by first | assumption | omega)) rfl rfl rfl rfl (by decide) rfl (Or.inr (List.mem_append_left _ (List.mem_of_getElem? (i := 0) rfl))) rfl gX10_doSin_X10_markOf ⟨rfl, by decide +kernel⟩ (by decide) rfl rfl (Nat.le_of_ble_eq_true rfl) (by decide) dX10_doSin_67 (fun e_32 w_33 h_34 => ?_)
        obtain ⟨rfl, rfl⟩ := h_34
        refine j_perm (ws' := [(h, oC 9 [.ref (r 0), .ref (r 1), vI (ms_w S), vI cf, vL (ms_s S), vI (ms_a S), vI (ms_t S), vI (ms_p S), vI (g_np G), .ref (r 9), .ref (r 10), .ref (r 11), .ref (r 12), .ref (r 13), vI (g_nc G), .ref (r 15), .ref (r 16), .ref (r 17), vI (g_pl G), .ref (r 19), vI (g_ik G), vL (g_ks G), .ref (r 22), vL (g_ss G), .ref (r 24), vI (g_fa G), vI (g_iw G), vI (g_nw G), vI (g_ns G), vI (g_ne G), .ref (r 30), .ref (r 31), .ref (r 32), .ref (r 33), vL (g_h G)]), ((r 1), aI (Y 0) 7 (ms_h S)), ((r 0), aI (Y 0) 420 (ms_m S))]) [0, 1, 2] rfl rfl ?_
        refine j_istore (pc := 70) (lc' := [(4, vI (markS cf 0 (ms_h S, ms_m S, ms_w S, cf, ms_s S, ms_a S, ms_t S, ms_p S))), (3, vI cf), (0, .ref h), (1, vI cu), (2, vI p)]) C (by decide) rfl dX10_doSin_70 ?_
        refine j_aload_n (pc := 72) C 0 2 rfl rfl dX10_doSin_72 ?_
        refine j_get (pc := 73) C (Or.inl (List.mem_of_getElem? (i := 0) rfl)) rfl fX10_doSin_X10 1 (by decide) (List.mem_of_getElem? (i := 4) rfl) (Or.inl rfl) rfl dX10_doSin_73 ?_
        refine j_iload_n (pc := 76) C 3 1 rfl rfl dX10_doSin_76 ?_
        refine j_dup2 (pc := 77) C rfl rfl dX10_doSin_77 ?_
        refine j_iald (pc := 78) C (Or.inl (List.mem_of_getElem? (i := 1) rfl)) rfl (by omega) (by decide) dX10_doSin_78 ?_
        have f_35 := hS.1 cf (by omega)
        refine j_iconst (pc := 79) C dX10_doSin_79 ?_
        refine j_isub (pc := 80) C dX10_doSin_80 ?_
        refine j_iast (pc := 81) (ws' := [(h, oC 9 [.ref (r 0), .ref (r 1), vI (ms_w S), vI cf, vL (ms_s S), vI (ms_a S), vI (ms_t S), vI (ms_p S), vI (g_np G), .ref (r 9), .ref (r 10), .ref (r 11), .ref (r 12), .ref (r 13), vI (g_nc G), .ref (r 15), .ref (r 16), .ref (r 17), vI (g_pl G), .ref (r 19), vI (g_ik G), vL (g_ks G), .ref (r 22), vL (g_ss G), .ref (r 24), vI (g_fa G), vI (g_iw G), vI (g_nw G), vI (g_ns G), vI (g_ne G), .ref (r 30), .ref (r 31), .ref (r 32), .ref (r 33), vL (g_h G)]), ((r 1), aI (Y 0) 7 (up (ms_h S) cf (ms_h S cf - 1))), ((r 0), aI (Y 0) 420 (ms_m S))]) C 1 rfl rfl (by omega) (by decide) rfl dX10_doSin_81 ?_
        refine j_aload_n (pc := 82) C 0 2 rfl rfl dX10_doSin_82 ?_
        refine j_aload_n (pc := 83) C 0 2 rfl rfl dX10_doSin_83 ?_
        refine j_get (pc := 84) C (Or.inl (List.mem_of_getElem? (i := 0) rfl)) rfl fX10_doSin_X10 10 (by decide) (List.mem_of_getElem? (i := 5) rfl) (Or.inl rfl) rfl dX10_doSin_84 ?_
        refine j_iload_n (pc := 87) C 2 4 rfl rfl dX10_doSin_87 ?_
        refine j_iald (pc := 88) C (Or.inr k1) rfl (by omega) (by decide) dX10_doSin_88 ?_
        refine j_st (st' := [vI (pn (ps p)), .ref h]) rfl rfl rfl ?_
        refine j_iload (pc := 89) C 0 rfl dX10_doSin_89 ?_
        refine j_callVv (pc := 91) (As := [vI (pn (ps p)), vI (markS cf 0 (ms_h S, ms_m S, ms_w S, cf, ms_s S, ms_a S, ms_t S, ms_p S))]) (na := 2) (st := []) C [0, 1, 2] [] (wr := []) (fun l => m_put l D Y _ h r (up (ms_h S) cf (ms_h S cf - 1), ms_m S, ms_w S, cf, ms_s S, ms_a S, ms_t S, ms_p S) G (pn (ps p)) (markS cf 0 (ms_h S, ms_m S, ms_w S, cf, ms_s S, ms_a S, ms_t S, ms_p S)) (okS_H (S := setL S cf) (okS_L hS hf) hf hnz) (hPn (by omega))) rfl rfl rfl rfl (by decide) rfl (Or.inl (List.mem_of_getElem? (i := 0) rfl)) rfl gX10_doSin_X10_put ⟨rfl, by decide +kernel⟩ (by decide) rfl rfl (Nat.le_of_ble_eq_true rfl) (by decide) dX10_doSin_91 (fun w_37 h_38 => ?_)
        subst h_38
        refine j_perm (ws' := [(h, oC 9 [.ref (r 0), .ref (r 1), vI (ms_w (putS (pn (ps p)) (markS cf 0 (ms_h S, ms_m S, ms_w S, cf, ms_s S, ms_a S, ms_t S, ms_p S)) (up (ms_h S) cf (ms_h S cf - 1), ms_m S, ms_w S, cf, ms_s S, ms_a S, ms_t S, ms_p S))), vI (ms_l (putS (pn (ps p)) (markS cf 0 (ms_h S, ms_m S, ms_w S, cf, ms_s S, ms_a S, ms_t S, ms_p S)) (up (ms_h S) cf (ms_h S cf - 1), ms_m S, ms_w S, cf, ms_s S, ms_a S, ms_t S, ms_p S))), vL (ms_s (putS (pn (ps p)) (markS cf 0 (ms_h S, ms_m S, ms_w S, cf, ms_s S, ms_a S, ms_t S, ms_p S)) (up (ms_h S) cf (ms_h S cf - 1), ms_m S, ms_w S, cf, ms_s S, ms_a S, ms_t S, ms_p S))), vI (ms_a (putS (pn (ps p)) (markS cf 0 (ms_h S, ms_m S, ms_w S, cf, ms_s S, ms_a S, ms_t S, ms_p S)) (up (ms_h S) cf (ms_h S cf - 1), ms_m S, ms_w S, cf, ms_s S, ms_a S, ms_t S, ms_p S))), vI (ms_t (putS (pn (ps p)) (markS cf 0 (ms_h S, ms_m S, ms_w S, cf, ms_s S, ms_a S, ms_t S, ms_p S)) (up (ms_h S) cf (ms_h S cf - 1), ms_m S, ms_w S, cf, ms_s S, ms_a S, ms_t S, ms_p S))), vI (ms_p (putS (pn (ps p)) (markS cf 0 (ms_h S, ms_m S, ms_w S, cf, ms_s S, ms_a S, ms_t S, ms_p S)) (up (ms_h S) cf (ms_h S cf - 1), ms_m S, ms_w S, cf, ms_s S, ms_a S, ms_t S, ms_p S))), vI (g_np G), .ref (r 9), .ref (r 10), .ref (r 11), .ref (r 12), .ref (r 13), vI (g_nc G), .ref (r 15), .ref (r 16), .ref (r 17), vI (g_pl G), .ref (r 19), vI (g_ik G), vL (g_ks G), .ref (r 22), vL (g_ss G), .ref (r 24), vI (g_fa G), vI (g_iw G), vI (g_nw G), vI (g_ns G), vI (g_ne G), .ref (r 30), .ref (r 31), .ref (r 32), .ref (r 33), vL (g_h G)]), ((r 1), aI (Y 0) 7 (ms_h (putS (pn (ps p)) (markS cf 0 (ms_h S, ms_m S, ms_w S, cf, ms_s S, ms_a S, ms_t S, ms_p S)) (up (ms_h S) cf (ms_h S cf - 1), ms_m S, ms_w S, cf, ms_s S, ms_a S, ms_t S, ms_p S)))), ((r 0), aI (Y 0) 420 (ms_m (putS (pn (ps p)) (markS cf 0 (ms_h S, ms_m S, ms_w S, cf, ms_s S, ms_a S, ms_t S, ms_p S)) (up (ms_h S) cf (ms_h S cf - 1), ms_m S, ms_w S, cf, ms_s S, ms_a S, ms_t S, ms_p S))))]) [0, 1, 2] rfl rfl ?_
        refine j_goto (pc := 94) C 103 rfl dX10_doSin_94 ?_
        have hpn := hPn (by omega)
        have eh : hideP (ps p) = pn (ps p) := by unfold hideP; rw [if_pos (by omega)]
        have es : sinS (cs cu) (ps p) p S = putS (pn (ps p)) (markS cf 0 (setL S cf)) (setH (setL S cf) (up (ms_h S) cf (ms_h S cf - 1))) := by unfold sinS; rw [hcf, eh]; unfold stealS; rw [if_neg (by omega), if_neg hnz]; exact (putS_setL _ _ _ _).symm
        exact Rt _ _ _ _ _ (by decide) (by decide) (by rw [es]; first | done | rfl) dX10_doSin_103
      · skip
        refine j_aload_n (pc := 54) C 0 1 rfl rfl dX10_doSin_54 ?_
        refine j_get (pc := 55) C (Or.inl (List.mem_of_getElem? (i := 0) rfl)) rfl fX10_doSin_X10 9 (by decide) (List.mem_of_getElem? (i := 1) rfl) (Or.inl rfl) rfl dX10_doSin_55 ?_
        refine j_iload_n (pc := 58) C 2 3 rfl rfl dX10_doSin_58 ?_
        refine j_iald (pc := 59) C (Or.inr k0) rfl (by omega) (by decide) dX10_doSin_59 ?_
        refine j_st (st' := [vI (pk (ps p))]) rfl rfl rfl ?_
        refine j_iconst (pc := 60) C dX10_doSin_60 ?_
        refine j_icmp_ne (pc := 61) C 97 rfl (by omega) dX10_doSin_61 (fun h_39p61 => ?_) (fun h_39p61 => ?_)
        · skip
          refine j_aload_n (pc := 97) C 0 1 rfl rfl dX10_doSin_97 ?_
          refine j_iload_n (pc := 98) C 3 0 rfl rfl dX10_doSin_98 ?_
          refine j_iconst (pc := 99) C dX10_doSin_99 ?_
          refine j_callVv (pc := 100) (As := [vI cf, vI 1]) (na := 2) (st := []) C [0, 1, 2] [] (wr := []) (fun l => m_takeAll l D Y _ h r (ms_h S, ms_m S, ms_w S, cf, ms_s S, ms_a S, ms_t S, ms_p S) G cf 1 (okS_L hS hf) hf (by first | assumption | omega)) rfl rfl rfl rfl (by decide) rfl (Or.inl (List.mem_of_getElem? (i := 0) rfl)) rfl gX10_doSin_X10_takeAll ⟨rfl, by decide +kernel⟩ (by decide) rfl rfl (Nat.le_of_ble_eq_true rfl) (by decide) dX10_doSin_100 (fun w_41 h_42 => ?_)
          subst h_42
          refine j_perm (ws' := [(h, oC 9 [.ref (r 0), .ref (r 1), vI (ms_w (takeS cf 1 (ms_h S, ms_m S, ms_w S, cf, ms_s S, ms_a S, ms_t S, ms_p S))), vI (ms_l (takeS cf 1 (ms_h S, ms_m S, ms_w S, cf, ms_s S, ms_a S, ms_t S, ms_p S))), vL (ms_s (takeS cf 1 (ms_h S, ms_m S, ms_w S, cf, ms_s S, ms_a S, ms_t S, ms_p S))), vI (ms_a (takeS cf 1 (ms_h S, ms_m S, ms_w S, cf, ms_s S, ms_a S, ms_t S, ms_p S))), vI (ms_t (takeS cf 1 (ms_h S, ms_m S, ms_w S, cf, ms_s S, ms_a S, ms_t S, ms_p S))), vI (ms_p (takeS cf 1 (ms_h S, ms_m S, ms_w S, cf, ms_s S, ms_a S, ms_t S, ms_p S))), vI (g_np G), .ref (r 9), .ref (r 10), .ref (r 11), .ref (r 12), .ref (r 13), vI (g_nc G), .ref (r 15), .ref (r 16), .ref (r 17), vI (g_pl G), .ref (r 19), vI (g_ik G), vL (g_ks G), .ref (r 22), vL (g_ss G), .ref (r 24), vI (g_fa G), vI (g_iw G), vI (g_nw G), vI (g_ns G), vI (g_ne G), .ref (r 30), .ref (r 31), .ref (r 32), .ref (r 33), vL (g_h G)]), ((r 1), aI (Y 0) 7 (ms_h (takeS cf 1 (ms_h S, ms_m S, ms_w S, cf, ms_s S, ms_a S, ms_t S, ms_p S)))), ((r 0), aI (Y 0) 420 (ms_m (takeS cf 1 (ms_h S, ms_m S, ms_w S, cf, ms_s S, ms_a S, ms_t S, ms_p S))))]) [0, 1, 2] rfl rfl ?_
          have eh : hideP (ps p) = -1 := by unfold hideP; rw [if_neg (by omega)]
          have es : sinS (cs cu) (ps p) p S = takeS cf 1 (setL S cf) := by unfold sinS; rw [hcf, eh]; unfold stealS; rw [if_pos rfl]; rfl
          exact Rt _ _ _ _ _ (by decide) (by decide) (by rw [es]; first | done | rfl) dX10_doSin_103
        · skip
          refine j_aload_n (pc := 64) C 0 1 rfl rfl dX10_doSin_64 ?_
          refine j_iload_n (pc := 65) C 3 0 rfl rfl dX10_doSin_65 ?_
          refine j_iconst (pc := 66) C dX10_doSin_66 ?_
          refine j_callVi (pc := 67) (As := [vI cf, vI 0]) (na := 2) (st := []) C [] [0, 1, 2] (wr := [(h, oC 9 [.ref (r 0), .ref (r 1), vI (ms_w S), vI cf, vL (ms_s S), vI (ms_a S), vI (ms_t S), vI (ms_p S), vI (g_np G), .ref (r 9), .ref (r 10), .ref (r 11), .ref (r 12), .ref (r 13), vI (g_nc G), .ref (r 15), .ref (r 16), .ref (r 17), vI (g_pl G), .ref (r 19), vI (g_ik G), vL (g_ks G), .ref (r 22), vL (g_ss G), .ref (r 24), vI (g_fa G), vI (g_iw G), vI (g_nw G), vI (g_ns G), vI (g_ne G), .ref (r 30), .ref (r 31), .ref (r 32), .ref (r 33), vL (g_h G)]), ((r 1), aI (Y 0) 7 (ms_h S)), ((r 0), aI (Y 0) 420 (ms_m S))]) (fun l => m_markOf l D Y _ h r (ms_h S, ms_m S, ms_w S, cf, ms_s S, ms_a S, ms_t S, ms_p S) G cf 0 (List.mem_append_left _ (List.mem_of_getElem? (i := 0) rfl)) (List.mem_append_left _ (List.mem_of_getElem? (i := 1) rfl)) (List.mem_append_left _ (List.mem_of_getElem? (i := 2) rfl)) (okS_L hS hf) hf (by first | assumption | omega)) rfl rfl rfl rfl (by decide) rfl (Or.inr (List.mem_append_left _ (List.mem_of_getElem? (i := 0) rfl))) rfl gX10_doSin_X10_markOf ⟨rfl, by decide +kernel⟩ (by decide) rfl rfl (Nat.le_of_ble_eq_true rfl) (by decide) dX10_doSin_67 (fun e_43 w_44 h_45 => ?_)
          obtain ⟨rfl, rfl⟩ := h_45
          refine j_perm (ws' := [(h, oC 9 [.ref (r 0), .ref (r 1), vI (ms_w S), vI cf, vL (ms_s S), vI (ms_a S), vI (ms_t S), vI (ms_p S), vI (g_np G), .ref (r 9), .ref (r 10), .ref (r 11), .ref (r 12), .ref (r 13), vI (g_nc G), .ref (r 15), .ref (r 16), .ref (r 17), vI (g_pl G), .ref (r 19), vI (g_ik G), vL (g_ks G), .ref (r 22), vL (g_ss G), .ref (r 24), vI (g_fa G), vI (g_iw G), vI (g_nw G), vI (g_ns G), vI (g_ne G), .ref (r 30), .ref (r 31), .ref (r 32), .ref (r 33), vL (g_h G)]), ((r 1), aI (Y 0) 7 (ms_h S)), ((r 0), aI (Y 0) 420 (ms_m S))]) [0, 1, 2] rfl rfl ?_
          refine j_istore (pc := 70) (lc' := [(4, vI (markS cf 0 (ms_h S, ms_m S, ms_w S, cf, ms_s S, ms_a S, ms_t S, ms_p S))), (3, vI cf), (0, .ref h), (1, vI cu), (2, vI p)]) C (by decide) rfl dX10_doSin_70 ?_
          refine j_aload_n (pc := 72) C 0 2 rfl rfl dX10_doSin_72 ?_
          refine j_get (pc := 73) C (Or.inl (List.mem_of_getElem? (i := 0) rfl)) rfl fX10_doSin_X10 1 (by decide) (List.mem_of_getElem? (i := 4) rfl) (Or.inl rfl) rfl dX10_doSin_73 ?_
          refine j_iload_n (pc := 76) C 3 1 rfl rfl dX10_doSin_76 ?_
          refine j_dup2 (pc := 77) C rfl rfl dX10_doSin_77 ?_
          refine j_iald (pc := 78) C (Or.inl (List.mem_of_getElem? (i := 1) rfl)) rfl (by omega) (by decide) dX10_doSin_78 ?_
          have f_46 := hS.1 cf (by omega)
          refine j_iconst (pc := 79) C dX10_doSin_79 ?_
          refine j_isub (pc := 80) C dX10_doSin_80 ?_
          refine j_iast (pc := 81) (ws' := [(h, oC 9 [.ref (r 0), .ref (r 1), vI (ms_w S), vI cf, vL (ms_s S), vI (ms_a S), vI (ms_t S), vI (ms_p S), vI (g_np G), .ref (r 9), .ref (r 10), .ref (r 11), .ref (r 12), .ref (r 13), vI (g_nc G), .ref (r 15), .ref (r 16), .ref (r 17), vI (g_pl G), .ref (r 19), vI (g_ik G), vL (g_ks G), .ref (r 22), vL (g_ss G), .ref (r 24), vI (g_fa G), vI (g_iw G), vI (g_nw G), vI (g_ns G), vI (g_ne G), .ref (r 30), .ref (r 31), .ref (r 32), .ref (r 33), vL (g_h G)]), ((r 1), aI (Y 0) 7 (up (ms_h S) cf (ms_h S cf - 1))), ((r 0), aI (Y 0) 420 (ms_m S))]) C 1 rfl rfl (by omega) (by decide) rfl dX10_doSin_81 ?_
          refine j_aload_n (pc := 82) C 0 2 rfl rfl dX10_doSin_82 ?_
          refine j_aload_n (pc := 83) C 0 2 rfl rfl dX10_doSin_83 ?_
          refine j_get (pc := 84) C (Or.inl (List.mem_of_getElem? (i := 0) rfl)) rfl fX10_doSin_X10 10 (by decide) (List.mem_of_getElem? (i := 5) rfl) (Or.inl rfl) rfl dX10_doSin_84 ?_
          refine j_iload_n (pc := 87) C 2 4 rfl rfl dX10_doSin_87 ?_
          refine j_iald (pc := 88) C (Or.inr k1) rfl (by omega) (by decide) dX10_doSin_88 ?_
          refine j_st (st' := [vI (pn (ps p)), .ref h]) rfl rfl rfl ?_
          refine j_iload (pc := 89) C 0 rfl dX10_doSin_89 ?_
          refine j_callVv (pc := 91) (As := [vI (pn (ps p)), vI (markS cf 0 (ms_h S, ms_m S, ms_w S, cf, ms_s S, ms_a S, ms_t S, ms_p S))]) (na := 2) (st := []) C [0, 1, 2] [] (wr := []) (fun l => m_put l D Y _ h r (up (ms_h S) cf (ms_h S cf - 1), ms_m S, ms_w S, cf, ms_s S, ms_a S, ms_t S, ms_p S) G (pn (ps p)) (markS cf 0 (ms_h S, ms_m S, ms_w S, cf, ms_s S, ms_a S, ms_t S, ms_p S)) (okS_H (S := setL S cf) (okS_L hS hf) hf hnz) (hPn (by omega))) rfl rfl rfl rfl (by decide) rfl (Or.inl (List.mem_of_getElem? (i := 0) rfl)) rfl gX10_doSin_X10_put ⟨rfl, by decide +kernel⟩ (by decide) rfl rfl (Nat.le_of_ble_eq_true rfl) (by decide) dX10_doSin_91 (fun w_48 h_49 => ?_)
          subst h_49
          refine j_perm (ws' := [(h, oC 9 [.ref (r 0), .ref (r 1), vI (ms_w (putS (pn (ps p)) (markS cf 0 (ms_h S, ms_m S, ms_w S, cf, ms_s S, ms_a S, ms_t S, ms_p S)) (up (ms_h S) cf (ms_h S cf - 1), ms_m S, ms_w S, cf, ms_s S, ms_a S, ms_t S, ms_p S))), vI (ms_l (putS (pn (ps p)) (markS cf 0 (ms_h S, ms_m S, ms_w S, cf, ms_s S, ms_a S, ms_t S, ms_p S)) (up (ms_h S) cf (ms_h S cf - 1), ms_m S, ms_w S, cf, ms_s S, ms_a S, ms_t S, ms_p S))), vL (ms_s (putS (pn (ps p)) (markS cf 0 (ms_h S, ms_m S, ms_w S, cf, ms_s S, ms_a S, ms_t S, ms_p S)) (up (ms_h S) cf (ms_h S cf - 1), ms_m S, ms_w S, cf, ms_s S, ms_a S, ms_t S, ms_p S))), vI (ms_a (putS (pn (ps p)) (markS cf 0 (ms_h S, ms_m S, ms_w S, cf, ms_s S, ms_a S, ms_t S, ms_p S)) (up (ms_h S) cf (ms_h S cf - 1), ms_m S, ms_w S, cf, ms_s S, ms_a S, ms_t S, ms_p S))), vI (ms_t (putS (pn (ps p)) (markS cf 0 (ms_h S, ms_m S, ms_w S, cf, ms_s S, ms_a S, ms_t S, ms_p S)) (up (ms_h S) cf (ms_h S cf - 1), ms_m S, ms_w S, cf, ms_s S, ms_a S, ms_t S, ms_p S))), vI (ms_p (putS (pn (ps p)) (markS cf 0 (ms_h S, ms_m S, ms_w S, cf, ms_s S, ms_a S, ms_t S, ms_p S)) (up (ms_h S) cf (ms_h S cf - 1), ms_m S, ms_w S, cf, ms_s S, ms_a S, ms_t S, ms_p S))), vI (g_np G), .ref (r 9), .ref (r 10), .ref (r 11), .ref (r 12), .ref (r 13), vI (g_nc G), .ref (r 15), .ref (r 16), .ref (r 17), vI (g_pl G), .ref (r 19), vI (g_ik G), vL (g_ks G), .ref (r 22), vL (g_ss G), .ref (r 24), vI (g_fa G), vI (g_iw G), vI (g_nw G), vI (g_ns G), vI (g_ne G), .ref (r 30), .ref (r 31), .ref (r 32), .ref (r 33), vL (g_h G)]), ((r 1), aI (Y 0) 7 (ms_h (putS (pn (ps p)) (markS cf 0 (ms_h S, ms_m S, ms_w S, cf, ms_s S, ms_a S, ms_t S, ms_p S)) (up (ms_h S) cf (ms_h S cf - 1), ms_m S, ms_w S, cf, ms_s S, ms_a S, ms_t S, ms_p S)))), ((r 0), aI (Y 0) 420 (ms_m (putS (pn (ps p)) (markS cf 0 (ms_h S, ms_m S, ms_w S, cf, ms_s S, ms_a S, ms_t S, ms_p S)) (up (ms_h S) cf (ms_h S cf - 1), ms_m S, ms_w S, cf, ms_s S, ms_a S, ms_t S, ms_p S))))]) [0, 1, 2] rfl rfl ?_
          refine j_goto (pc := 94) C 103 rfl dX10_doSin_94 ?_
          have hpn := hPn (by omega)
          have eh : hideP (ps p) = pn (ps p) := by unfold hideP; rw [if_pos (by omega)]
          have es : sinS (cs cu) (ps p) p S = putS (pn (ps p)) (markS cf 0 (setL S cf)) (setH (setL S cf) (up (ms_h S) cf (ms_h S cf - 1))) := by unfold sinS; rw [hcf, eh]; unfold stealS; rw [if_neg (by omega), if_neg hnz]; exact (putS_setL _ _ _ _).symm
          exact Rt _ _ _ _ _ (by decide) (by decide) (by rw [es]; first | done | rfl) dX10_doSin_103
    · skip
      have e0 : ms_h S cf = 0 := by assumption
      have es : sinS (cs cu) (ps p) p S = setL S cf := by unfold sinS; rw [hcf, stealS_zero e0]
      exact Rt _ _ _ _ _ (by decide) (by decide) (by rw [es]; first | done | rfl) dX10_doSin_43

theorem fX10_goWeek_X10 : ∀ w ∈ u_ws RX10 TX10 35, w ∈ wsX10_goWeek := j_words [68, 69, 70, 71, 72, 73, 74, 75, 76, 77, 78, 79, 80, 81, 82, 83, 84, 85, 86, 87, 88, 89, 90, 91, 92, 93, 94, 95, 96, 97, 98, 99, 100, 101, 102] (by decide +kernel)
set_option maxHeartbeats 4000000 in
set_option maxRecDepth 100000 in
theorem m_goWeek (l : Launch) (D : va_G) (Y : Nat → ClassId) (RO : va_W) (h : Nat) (r : Nat → Nat) (S : MS) (G : GS) (cs : Int → CT) (ps : Int → PT) (cu : Int) (k0 : ((r 9), aI (Y 0) 6 (kof ps)) ∈ RO) (k1 : ((r 10), aI (Y 0) 6 (nof ps)) ∈ RO) (k2 : ((r 11), aI (Y 0) 6 (wof ps)) ∈ RO) (k3 : ((r 12), aI (Y 0) 6 (iof ps)) ∈ RO) (k4 : ((r 13), aI (Y 0) 6 (zof ps)) ∈ RO) (q0 : ((r 15), aI (Y 0) 4 (cwof cs)) ∈ RO) (q1 : ((r 16), aI (Y 0) 4 (czof cs)) ∈ RO) (q2 : ((r 17), aI (Y 0) 4 (ceof cs)) ∈ RO) (hS : okS S) (hc : 0 ≤ cu ∧ cu < 4) (hC : okC (cs cu)) (hnp : 0 ≤ g_np G ∧ g_np G ≤ 6) (hps : ∀ i, 0 ≤ i ∧ i < g_np G → okP (ps i)) (hw : ms_w S ≤ 2147482000) : jMv l yX10_goWeek wsX10_goWeek { frames := 3, cells := 0, slots := 0, locals := 68 } D Y RO [.ref h, vI cu] [(h, oC 9 [.ref (r 0), .ref (r 1), vI (ms_w S), vI (ms_l S), vL (ms_s S), vI (ms_a S), vI (ms_t S), vI (ms_p S), vI (g_np G), .ref (r 9), .ref (r 10), .ref (r 11), .ref (r 12), .ref (r 13), vI (g_nc G), .ref (r 15), .ref (r 16), .ref (r 17), vI (g_pl G), .ref (r 19), vI (g_ik G), vL (g_ks G), .ref (r 22), vL (g_ss G), .ref (r 24), vI (g_fa G), vI (g_iw G), vI (g_nw G), vI (g_ns G), vI (g_ne G), .ref (r 30), .ref (r 31), .ref (r 32), .ref (r 33), vL (g_h G)]), ((r 1), aI (Y 0) 7 (ms_h S)), ((r 0), aI (Y 0) 420 (ms_m S))] (fun w1 => w1 = [(h, oC 9 [.ref (r 0), .ref (r 1), vI (ms_w (goS (cs cu) ps (g_np G) S)), vI (ms_l (goS (cs cu) ps (g_np G) S)), vL (ms_s (goS (cs cu) ps (g_np G) S)), vI (ms_a (goS (cs cu) ps (g_np G) S)), vI (ms_t (goS (cs cu) ps (g_np G) S)), vI (ms_p (goS (cs cu) ps (g_np G) S)), vI (g_np G), .ref (r 9), .ref (r 10), .ref (r 11), .ref (r 12), .ref (r 13), vI (g_nc G), .ref (r 15), .ref (r 16), .ref (r 17), vI (g_pl G), .ref (r 19), vI (g_ik G), vL (g_ks G), .ref (r 22), vL (g_ss G), .ref (r 24), vI (g_fa G), vI (g_iw G), vI (g_nw G), vI (g_ns G), vI (g_ne G), .ref (r 30), .ref (r 31), .ref (r 32), .ref (r 33), vL (g_h G)]), ((r 1), aI (Y 0) 7 (ms_h (goS (cs cu) ps (g_np G) S))), ((r 0), aI (Y 0) 420 (ms_m (goS (cs cu) ps (g_np G) S)))]) := by
  refine j_ofv RX10 rfl rfl rfl (Nat.le_of_ble_eq_true rfl) (fun X C Rt hI => ?_)
  have hW0 := hS.w
  have hCe := hC.2.2
  refine j_aload_n (pc := 0) C 0 0 rfl rfl dX10_goWeek_0 ?_
  refine j_dup (pc := 1) C rfl dX10_goWeek_1 ?_
  refine j_get (pc := 2) C (Or.inl (List.mem_of_getElem? (i := 0) rfl)) rfl fX10_goWeek_X10 2 (by decide) (List.mem_of_getElem? (i := 1) rfl) (Or.inl rfl) rfl dX10_goWeek_2 ?_
  refine j_iconst (pc := 5) C dX10_goWeek_5 ?_
  refine j_iadd (pc := 6) C dX10_goWeek_6 ?_
  refine j_put (pc := 7) (ws' := [(h, oC 9 [.ref (r 0), .ref (r 1), vI (ms_w S + 1), vI (ms_l S), vL (ms_s S), vI (ms_a S), vI (ms_t S), vI (ms_p S), vI (g_np G), .ref (r 9), .ref (r 10), .ref (r 11), .ref (r 12), .ref (r 13), vI (g_nc G), .ref (r 15), .ref (r 16), .ref (r 17), vI (g_pl G), .ref (r 19), vI (g_ik G), vL (g_ks G), .ref (r 22), vL (g_ss G), .ref (r 24), vI (g_fa G), vI (g_iw G), vI (g_nw G), vI (g_ns G), vI (g_ne G), .ref (r 30), .ref (r 31), .ref (r 32), .ref (r 33), vL (g_h G)]), ((r 1), aI (Y 0) 7 (ms_h S)), ((r 0), aI (Y 0) 420 (ms_m S))]) C 0 rfl rfl fX10_goWeek_X10 tyX10_ok nmX10 2 (by decide) (List.mem_of_getElem? (i := 1) rfl) (Or.inl rfl) rfl rfl rfl rfl (Nat.le_of_ble_eq_true rfl) rfl dX10_goWeek_7 ?_
  refine j_iconst (pc := 10) C dX10_goWeek_10 ?_
  refine j_istore_n (pc := 11) (lc' := [(2, vI 0), (0, .ref h), (1, vI cu)]) C 2 rfl (by decide) rfl dX10_goWeek_11 ?_
  have hL12 : ∀ (N12 : Nat) (i : Int) (T : MS), ((g_np G - i).toNat) < N12 → (0 ≤ i ∧ i ≤ g_np G) → (T = fo (fun p T => parS (cs cu) (ps p) p (pw (ps p)) T) i (setW S (ms_w S + 1))) → (okS T ∧ ms_w T = ms_w S + 1) → jW X 4 0 0 [(h, oC 9 [.ref (r 0), .ref (r 1), vI (ms_w T), vI (ms_l T), vL (ms_s T), vI (ms_a T), vI (ms_t T), vI (ms_p T), vI (g_np G), .ref (r 9), .ref (r 10), .ref (r 11), .ref (r 12), .ref (r 13), vI (g_nc G), .ref (r 15), .ref (r 16), .ref (r 17), vI (g_pl G), .ref (r 19), vI (g_ik G), vL (g_ks G), .ref (r 22), vL (g_ss G), .ref (r 24), vI (g_fa G), vI (g_iw G), vI (g_nw G), vI (g_ns G), vI (g_ne G), .ref (r 30), .ref (r 31), .ref (r 32), .ref (r 33), vL (g_h G)]), ((r 1), aI (Y 0) 7 (ms_h T)), ((r 0), aI (Y 0) 420 (ms_m T))] [(0, .ref h), (1, vI cu), (2, vI i)] 12 [] := by
    intro N12
    induction N12 with
    | zero => intro i T hm12 i12_0 i12_1 i12_2; omega
    | succ N12 ih12 =>
      intro i T hm12 i12_0 i12_1 i12_2
      refine j_iload_n (pc := 12) C 2 2 rfl rfl dX10_goWeek_12 ?_
      refine j_aload_n (pc := 13) C 0 0 rfl rfl dX10_goWeek_13 ?_
      refine j_get (pc := 14) C (Or.inl (List.mem_of_getElem? (i := 0) rfl)) rfl fX10_goWeek_X10 8 (by decide) (List.mem_of_getElem? (i := 2) rfl) (Or.inl rfl) rfl dX10_goWeek_14 ?_
      refine j_icmp_ge (pc := 17) C 85 rfl (by omega) dX10_goWeek_17 (fun h_1p17 => ?_) (fun h_1p17 => ?_)
      · skip
        refine j_aload_n (pc := 85) C 0 0 rfl rfl dX10_goWeek_85 ?_
        refine j_get (pc := 86) C (Or.inl (List.mem_of_getElem? (i := 0) rfl)) rfl fX10_goWeek_X10 17 (by decide) (List.mem_of_getElem? (i := 6) rfl) (Or.inl rfl) rfl dX10_goWeek_86 ?_
        refine j_iload_n (pc := 89) C 1 1 rfl rfl dX10_goWeek_89 ?_
        refine j_iald (pc := 90) C (Or.inr q2) rfl (by omega) (by decide) dX10_goWeek_90 ?_
        refine j_st (st' := [vI (ce (cs cu))]) rfl rfl rfl ?_
        refine j_if_le (pc := 91) C 128 rfl (by omega) dX10_goWeek_91 (fun h_2p91 => ?_) (fun h_2p91 => ?_)
        · skip
          exact Rt _ _ _ _ _ (by decide) (by decide) (by unfold goS allS; rw [show g_np G = i by omega, ← i12_1]; unfold floodS; first | (rw [if_pos ⟨by omega, by omega⟩]; first | done | rfl) | (rw [if_neg (by omega)]; first | done | rfl)) dX10_goWeek_128
        · skip
          refine j_aload_n (pc := 94) C 0 0 rfl rfl dX10_goWeek_94 ?_
          refine j_get (pc := 95) C (Or.inl (List.mem_of_getElem? (i := 0) rfl)) rfl fX10_goWeek_X10 2 (by decide) (List.mem_of_getElem? (i := 1) rfl) (Or.inl rfl) rfl dX10_goWeek_95 ?_
          refine j_aload_n (pc := 98) C 0 0 rfl rfl dX10_goWeek_98 ?_
          refine j_get (pc := 99) C (Or.inl (List.mem_of_getElem? (i := 0) rfl)) rfl fX10_goWeek_X10 17 (by decide) (List.mem_of_getElem? (i := 6) rfl) (Or.inl rfl) rfl dX10_goWeek_99 ?_
          refine j_iload_n (pc := 102) C 1 1 rfl rfl dX10_goWeek_102 ?_
          refine j_iald (pc := 103) C (Or.inr q2) rfl (by omega) (by decide) dX10_goWeek_103 ?_
          refine j_st (st' := [vI (ce (cs cu)), vI (ms_w T)]) rfl rfl rfl ?_
          refine j_irem (pc := 104) C (by omega) dX10_goWeek_104 ?_
          refine j_if_ne (pc := 105) C 128 rfl (by have := Int.emod_nonneg (ms_w T) (show ce (cs cu) ≠ 0 by omega); have := Int.emod_lt_of_pos (ms_w T) (show 0 < ce (cs cu) by omega); omega) dX10_goWeek_105 (fun h_3p105 => ?_) (fun h_3p105 => ?_)
          · skip
            exact Rt _ _ _ _ _ (by decide) (by decide) (by unfold goS allS; rw [show g_np G = i by omega, ← i12_1]; unfold floodS; first | (rw [if_pos ⟨by omega, by omega⟩]; first | done | rfl) | (rw [if_neg (by omega)]; first | done | rfl)) dX10_goWeek_128
          · skip
            have hll := leastI_in (ms_h T)
            refine j_aload_n (pc := 108) C 0 0 rfl rfl dX10_goWeek_108 ?_
            refine j_callVi (pc := 109) (As := []) (na := 0) (st := []) C [] [0, 1, 2] (wr := [(h, oC 9 [.ref (r 0), .ref (r 1), vI (ms_w T), vI (ms_l T), vL (ms_s T), vI (ms_a T), vI (ms_t T), vI (ms_p T), vI (g_np G), .ref (r 9), .ref (r 10), .ref (r 11), .ref (r 12), .ref (r 13), vI (g_nc G), .ref (r 15), .ref (r 16), .ref (r 17), vI (g_pl G), .ref (r 19), vI (g_ik G), vL (g_ks G), .ref (r 22), vL (g_ss G), .ref (r 24), vI (g_fa G), vI (g_iw G), vI (g_nw G), vI (g_ns G), vI (g_ne G), .ref (r 30), .ref (r 31), .ref (r 32), .ref (r 33), vL (g_h G)]), ((r 1), aI (Y 0) 7 (ms_h T)), ((r 0), aI (Y 0) 420 (ms_m T))]) (fun l => m_withLeast l D Y _ h r T G (List.mem_append_left _ (List.mem_of_getElem? (i := 0) rfl)) (List.mem_append_left _ (List.mem_of_getElem? (i := 1) rfl)) i12_2.1) rfl rfl rfl rfl (by decide) rfl (Or.inr (List.mem_append_left _ (List.mem_of_getElem? (i := 0) rfl))) rfl gX10_goWeek_X10_withLeast ⟨rfl, by decide +kernel⟩ (by decide) rfl rfl (Nat.le_of_ble_eq_true rfl) (by decide) dX10_goWeek_109 (fun e_4 w_5 h_6 => ?_)
            obtain ⟨rfl, rfl⟩ := h_6
            refine j_perm (ws' := [(h, oC 9 [.ref (r 0), .ref (r 1), vI (ms_w T), vI (ms_l T), vL (ms_s T), vI (ms_a T), vI (ms_t T), vI (ms_p T), vI (g_np G), .ref (r 9), .ref (r 10), .ref (r 11), .ref (r 12), .ref (r 13), vI (g_nc G), .ref (r 15), .ref (r 16), .ref (r 17), vI (g_pl G), .ref (r 19), vI (g_ik G), vL (g_ks G), .ref (r 22), vL (g_ss G), .ref (r 24), vI (g_fa G), vI (g_iw G), vI (g_nw G), vI (g_ns G), vI (g_ne G), .ref (r 30), .ref (r 31), .ref (r 32), .ref (r 33), vL (g_h G)]), ((r 1), aI (Y 0) 7 (ms_h T)), ((r 0), aI (Y 0) 420 (ms_m T))]) [0, 1, 2] rfl rfl ?_
            refine j_istore_n (pc := 112) (lc' := [(2, vI (leastI (ms_h T))), (0, .ref h), (1, vI cu)]) C 2 rfl (by decide) rfl dX10_goWeek_112 ?_
            refine j_aload_n (pc := 113) C 0 1 rfl rfl dX10_goWeek_113 ?_
            refine j_iload_n (pc := 114) C 2 0 rfl rfl dX10_goWeek_114 ?_
            refine j_aload_n (pc := 115) C 0 1 rfl rfl dX10_goWeek_115 ?_
            refine j_get (pc := 116) C (Or.inl (List.mem_of_getElem? (i := 0) rfl)) rfl fX10_goWeek_X10 1 (by decide) (List.mem_of_getElem? (i := 7) rfl) (Or.inl rfl) rfl dX10_goWeek_116 ?_
            refine j_iload_n (pc := 119) C 2 0 rfl rfl dX10_goWeek_119 ?_
            refine j_iald (pc := 120) C (Or.inl (List.mem_of_getElem? (i := 1) rfl)) rfl (by omega) (by decide) dX10_goWeek_120 ?_
            have f_7 := i12_2.1.1 (leastI (ms_h T)) (by omega)
            refine j_iconst (pc := 121) C dX10_goWeek_121 ?_
            refine j_iadd (pc := 122) C dX10_goWeek_122 ?_
            refine j_iconst (pc := 123) C dX10_goWeek_123 ?_
            refine j_idiv (pc := 124) C (by omega) dX10_goWeek_124 ?_
            refine j_callVv (pc := 125) (As := [vI (leastI (ms_h T)), vI ((ms_h T (leastI (ms_h T)) + 1) / 2)]) (na := 2) (st := []) C [0, 1, 2] [] (wr := []) (fun l => m_takeAll l D Y _ h r T G (leastI (ms_h T)) ((ms_h T (leastI (ms_h T)) + 1) / 2) i12_2.1 hll (by first | assumption | omega)) rfl rfl rfl rfl (by decide) rfl (Or.inl (List.mem_of_getElem? (i := 0) rfl)) rfl gX10_goWeek_X10_takeAll ⟨rfl, by decide +kernel⟩ (by decide) rfl rfl (Nat.le_of_ble_eq_true rfl) (by decide) dX10_goWeek_125 (fun w_9 h_10 => ?_)
            subst h_10
            refine j_perm (ws' := [(h, oC 9 [.ref (r 0), .ref (r 1), vI (ms_w (takeS (leastI (ms_h T)) ((ms_h T (leastI (ms_h T)) + 1) / 2) T)), vI (ms_l (takeS (leastI (ms_h T)) ((ms_h T (leastI (ms_h T)) + 1) / 2) T)), vL (ms_s (takeS (leastI (ms_h T)) ((ms_h T (leastI (ms_h T)) + 1) / 2) T)), vI (ms_a (takeS (leastI (ms_h T)) ((ms_h T (leastI (ms_h T)) + 1) / 2) T)), vI (ms_t (takeS (leastI (ms_h T)) ((ms_h T (leastI (ms_h T)) + 1) / 2) T)), vI (ms_p (takeS (leastI (ms_h T)) ((ms_h T (leastI (ms_h T)) + 1) / 2) T)), vI (g_np G), .ref (r 9), .ref (r 10), .ref (r 11), .ref (r 12), .ref (r 13), vI (g_nc G), .ref (r 15), .ref (r 16), .ref (r 17), vI (g_pl G), .ref (r 19), vI (g_ik G), vL (g_ks G), .ref (r 22), vL (g_ss G), .ref (r 24), vI (g_fa G), vI (g_iw G), vI (g_nw G), vI (g_ns G), vI (g_ne G), .ref (r 30), .ref (r 31), .ref (r 32), .ref (r 33), vL (g_h G)]), ((r 1), aI (Y 0) 7 (ms_h (takeS (leastI (ms_h T)) ((ms_h T (leastI (ms_h T)) + 1) / 2) T))), ((r 0), aI (Y 0) 420 (ms_m (takeS (leastI (ms_h T)) ((ms_h T (leastI (ms_h T)) + 1) / 2) T)))]) [0, 1, 2] rfl rfl ?_
            exact Rt _ _ _ _ _ (by decide) (by decide) (by unfold goS allS; rw [show g_np G = i by omega, ← i12_1]; unfold floodS; first | (rw [if_pos ⟨by omega, by omega⟩]; first | done | rfl) | (rw [if_neg (by omega)]; first | done | rfl)) dX10_goWeek_128
      · skip
        have hPi := hps i ⟨by omega, by omega⟩
        have hP5 := hPi.2.2.2.2
        refine j_iconst (pc := 20) C dX10_goWeek_20 ?_
        refine j_istore_n (pc := 21) (lc' := [(3, vI 0), (0, .ref h), (1, vI cu), (2, vI i)]) C 3 rfl (by decide) rfl dX10_goWeek_21 ?_
        have hL22 : ∀ (N22 : Nat) (j : Int) (U : MS), ((pw (ps i) - j).toNat) < N22 → (0 ≤ j ∧ j ≤ pw (ps i)) → (U = parS (cs cu) (ps i) i j T) → (okS U ∧ ms_w U = ms_w S + 1) → jW X 4 0 0 [(h, oC 9 [.ref (r 0), .ref (r 1), vI (ms_w U), vI (ms_l U), vL (ms_s U), vI (ms_a U), vI (ms_t U), vI (ms_p U), vI (g_np G), .ref (r 9), .ref (r 10), .ref (r 11), .ref (r 12), .ref (r 13), vI (g_nc G), .ref (r 15), .ref (r 16), .ref (r 17), vI (g_pl G), .ref (r 19), vI (g_ik G), vL (g_ks G), .ref (r 22), vL (g_ss G), .ref (r 24), vI (g_fa G), vI (g_iw G), vI (g_nw G), vI (g_ns G), vI (g_ne G), .ref (r 30), .ref (r 31), .ref (r 32), .ref (r 33), vL (g_h G)]), ((r 1), aI (Y 0) 7 (ms_h U)), ((r 0), aI (Y 0) 420 (ms_m U))] [(0, .ref h), (1, vI cu), (2, vI i), (3, vI j)] 22 [] := by
          intro N22
          induction N22 with
          | zero => intro j U hm22 i22_0 i22_1 i22_2; omega
          | succ N22 ih22 =>
            intro j U hm22 i22_0 i22_1 i22_2
            refine j_iload_n (pc := 22) C 3 3 rfl rfl dX10_goWeek_22 ?_
            refine j_aload_n (pc := 23) C 0 0 rfl rfl dX10_goWeek_23 ?_
            refine j_get (pc := 24) C (Or.inl (List.mem_of_getElem? (i := 0) rfl)) rfl fX10_goWeek_X10 11 (by decide) (List.mem_of_getElem? (i := 3) rfl) (Or.inl rfl) rfl dX10_goWeek_24 ?_
            refine j_iload_n (pc := 27) C 2 2 rfl rfl dX10_goWeek_27 ?_
            refine j_iald (pc := 28) C (Or.inr k2) rfl (by omega) (by decide) dX10_goWeek_28 ?_
            refine j_st (st' := [vI (pw (ps i)), vI j]) rfl rfl rfl ?_
            refine j_icmp_ge (pc := 29) C 79 rfl (by omega) dX10_goWeek_29 (fun h_11p29 => ?_) (fun h_11p29 => ?_)
            · skip
              refine j_iinc (pc := 79) (lc' := [(2, vI (i + 1)), (0, .ref h), (1, vI cu), (3, vI j)]) C 2 rfl (by decide) rfl dX10_goWeek_79 ?_
              refine j_goto (pc := 82) C 12 rfl dX10_goWeek_82 ?_
              refine j_locals (lc' := [(0, .ref h), (1, vI cu), (2, vI (i + 1))]) [1, 2, 0] rfl ?_
              exact ih12 (i + 1) U (by omega) (by omega) (by rw [fo_succ _ (n := i) (by omega), ← i12_1, i22_1, show j = pw (ps i) by omega]) i22_2
            · skip
              refine j_aload_n (pc := 32) C 0 0 rfl rfl dX10_goWeek_32 ?_
              refine j_callVi (pc := 33) (As := []) (na := 0) (st := []) C [0, 1, 2] [] (wr := []) (fun l => m_draw l D Y _ h r U G i22_2.1) rfl rfl rfl rfl (by decide) rfl (Or.inl (List.mem_of_getElem? (i := 0) rfl)) rfl gX10_goWeek_X10_draw ⟨rfl, by decide +kernel⟩ (by decide) rfl rfl (Nat.le_of_ble_eq_true rfl) (by decide) dX10_goWeek_33 (fun e_12 w_13 h_14 => ?_)
              obtain ⟨rfl, rfl⟩ := h_14
              refine j_perm (ws' := [(h, oC 9 [.ref (r 0), .ref (r 1), vI (ms_w (drawS U)), vI (ms_l (drawS U)), vL (ms_s (drawS U)), vI (ms_a (drawS U)), vI (ms_t (drawS U)), vI (ms_p (drawS U)), vI (g_np G), .ref (r 9), .ref (r 10), .ref (r 11), .ref (r 12), .ref (r 13), vI (g_nc G), .ref (r 15), .ref (r 16), .ref (r 17), vI (g_pl G), .ref (r 19), vI (g_ik G), vL (g_ks G), .ref (r 22), vL (g_ss G), .ref (r 24), vI (g_fa G), vI (g_iw G), vI (g_nw G), vI (g_ns G), vI (g_ne G), .ref (r 30), .ref (r 31), .ref (r 32), .ref (r 33), vL (g_h G)]), ((r 1), aI (Y 0) 7 (ms_h (drawS U))), ((r 0), aI (Y 0) 420 (ms_m (drawS U)))]) [0, 1, 2] rfl rfl ?_
              have hd1 := drawV_in (okS_draw i22_2.1)
              refine j_aload_n (pc := 36) C 0 0 rfl rfl dX10_goWeek_36 ?_
              refine j_get (pc := 37) C (Or.inl (List.mem_of_getElem? (i := 0) rfl)) rfl fX10_goWeek_X10 12 (by decide) (List.mem_of_getElem? (i := 4) rfl) (Or.inl rfl) rfl dX10_goWeek_37 ?_
              refine j_iload_n (pc := 40) C 2 2 rfl rfl dX10_goWeek_40 ?_
              refine j_iald (pc := 41) C (Or.inr k3) rfl (by omega) (by decide) dX10_goWeek_41 ?_
              refine j_st (st' := [vI (pi (ps i)), vI (drawV (drawS U))]) rfl rfl rfl ?_
              refine j_icmp_ge (pc := 42) C 54 rfl (by omega) dX10_goWeek_42 (fun h_15p42 => ?_) (fun h_15p42 => ?_)
              · skip
                refine j_aload_n (pc := 54) C 0 0 rfl rfl dX10_goWeek_54 ?_
                refine j_callVi (pc := 55) (As := []) (na := 0) (st := []) C [0, 1, 2] [] (wr := []) (fun l => m_draw l D Y _ h r (drawS U) G (okS_draw i22_2.1)) rfl rfl rfl rfl (by decide) rfl (Or.inl (List.mem_of_getElem? (i := 0) rfl)) rfl gX10_goWeek_X10_draw ⟨rfl, by decide +kernel⟩ (by decide) rfl rfl (Nat.le_of_ble_eq_true rfl) (by decide) dX10_goWeek_55 (fun e_16 w_17 h_18 => ?_)
                obtain ⟨rfl, rfl⟩ := h_18
                refine j_perm (ws' := [(h, oC 9 [.ref (r 0), .ref (r 1), vI (ms_w (drawS (drawS U))), vI (ms_l (drawS (drawS U))), vL (ms_s (drawS (drawS U))), vI (ms_a (drawS (drawS U))), vI (ms_t (drawS (drawS U))), vI (ms_p (drawS (drawS U))), vI (g_np G), .ref (r 9), .ref (r 10), .ref (r 11), .ref (r 12), .ref (r 13), vI (g_nc G), .ref (r 15), .ref (r 16), .ref (r 17), vI (g_pl G), .ref (r 19), vI (g_ik G), vL (g_ks G), .ref (r 22), vL (g_ss G), .ref (r 24), vI (g_fa G), vI (g_iw G), vI (g_nw G), vI (g_ns G), vI (g_ne G), .ref (r 30), .ref (r 31), .ref (r 32), .ref (r 33), vL (g_h G)]), ((r 1), aI (Y 0) 7 (ms_h (drawS (drawS U)))), ((r 0), aI (Y 0) 420 (ms_m (drawS (drawS U))))]) [0, 1, 2] rfl rfl ?_
                have hd2 := drawV_in (okS_draw (okS_draw i22_2.1))
                refine j_aload_n (pc := 58) C 0 0 rfl rfl dX10_goWeek_58 ?_
                refine j_get (pc := 59) C (Or.inl (List.mem_of_getElem? (i := 0) rfl)) rfl fX10_goWeek_X10 13 (by decide) (List.mem_of_getElem? (i := 5) rfl) (Or.inl rfl) rfl dX10_goWeek_59 ?_
                refine j_iload_n (pc := 62) C 2 2 rfl rfl dX10_goWeek_62 ?_
                refine j_iald (pc := 63) C (Or.inr k4) rfl (by omega) (by decide) dX10_goWeek_63 ?_
                refine j_st (st' := [vI (pz (ps i)), vI (drawV (drawS (drawS U)))]) rfl rfl rfl ?_
                refine j_icmp_ge (pc := 64) C 73 rfl (by omega) dX10_goWeek_64 (fun h_19p64 => ?_) (fun h_19p64 => ?_)
                · skip
                  refine j_iinc (pc := 73) (lc' := [(3, vI (j + 1)), (0, .ref h), (1, vI cu), (2, vI i)]) C 3 rfl (by decide) rfl dX10_goWeek_73 ?_
                  refine j_goto (pc := 76) C 22 rfl dX10_goWeek_76 ?_
                  refine j_locals (lc' := [(0, .ref h), (1, vI cu), (2, vI i), (3, vI (j + 1))]) [1, 2, 3, 0] rfl ?_
                  have ew : (drawS (drawS U)) = walkS (cs cu) (ps i) i U := by unfold walkS; first | rw [if_pos (by omega)] | rw [if_neg (by omega), if_pos (by omega)] | rw [if_neg (by omega), if_neg (by omega)]
                  have ok := okS_walk (P := ps i) (num := i) i22_2.1 hC hPi (by omega)
                  exact ih22 (j + 1) (drawS (drawS U)) (by omega) (by omega) (by rw [ew]; unfold parS; rw [fo_succ _ (n := j) (by omega)]; unfold parS at i22_1; rw [← i22_1]) (by rw [ew]; exact ⟨ok.1, ok.2.trans i22_2.2⟩)
                · skip
                  refine j_aload_n (pc := 67) C 0 0 rfl rfl dX10_goWeek_67 ?_
                  refine j_iload_n (pc := 68) C 1 1 rfl rfl dX10_goWeek_68 ?_
                  refine j_iload_n (pc := 69) C 2 2 rfl rfl dX10_goWeek_69 ?_
                  refine j_callVv (pc := 70) (As := [vI cu, vI i]) (na := 2) (st := []) C [0, 1, 2] [] (wr := []) (fun l => m_doSin l D Y _ h r (drawS (drawS U)) G cs ps cu i (List.mem_append_right _ k0) (List.mem_append_right _ k1) (List.mem_append_right _ q0) (List.mem_append_right _ q1) (List.mem_append_right _ q2) (okS_draw (okS_draw i22_2.1)) (by first | assumption | omega) (by first | assumption | omega) (by first | assumption | omega) hPi (by show ms_w U ≤ _; omega)) rfl rfl rfl rfl (by decide) rfl (Or.inl (List.mem_of_getElem? (i := 0) rfl)) rfl gX10_goWeek_X10_doSin ⟨rfl, by decide +kernel⟩ (by decide) rfl rfl (Nat.le_of_ble_eq_true rfl) (by decide) dX10_goWeek_70 (fun w_21 h_22 => ?_)
                  subst h_22
                  refine j_perm (ws' := [(h, oC 9 [.ref (r 0), .ref (r 1), vI (ms_w (sinS (cs cu) (ps i) i (drawS (drawS U)))), vI (ms_l (sinS (cs cu) (ps i) i (drawS (drawS U)))), vL (ms_s (sinS (cs cu) (ps i) i (drawS (drawS U)))), vI (ms_a (sinS (cs cu) (ps i) i (drawS (drawS U)))), vI (ms_t (sinS (cs cu) (ps i) i (drawS (drawS U)))), vI (ms_p (sinS (cs cu) (ps i) i (drawS (drawS U)))), vI (g_np G), .ref (r 9), .ref (r 10), .ref (r 11), .ref (r 12), .ref (r 13), vI (g_nc G), .ref (r 15), .ref (r 16), .ref (r 17), vI (g_pl G), .ref (r 19), vI (g_ik G), vL (g_ks G), .ref (r 22), vL (g_ss G), .ref (r 24), vI (g_fa G), vI (g_iw G), vI (g_nw G), vI (g_ns G), vI (g_ne G), .ref (r 30), .ref (r 31), .ref (r 32), .ref (r 33), vL (g_h G)]), ((r 1), aI (Y 0) 7 (ms_h (sinS (cs cu) (ps i) i (drawS (drawS U))))), ((r 0), aI (Y 0) 420 (ms_m (sinS (cs cu) (ps i) i (drawS (drawS U)))))]) [0, 1, 2] rfl rfl ?_
                  refine j_iinc (pc := 73) (lc' := [(3, vI (j + 1)), (0, .ref h), (1, vI cu), (2, vI i)]) C 3 rfl (by decide) rfl dX10_goWeek_73 ?_
                  refine j_goto (pc := 76) C 22 rfl dX10_goWeek_76 ?_
                  refine j_locals (lc' := [(0, .ref h), (1, vI cu), (2, vI i), (3, vI (j + 1))]) [1, 2, 3, 0] rfl ?_
                  have ew : (sinS (cs cu) (ps i) i (drawS (drawS U))) = walkS (cs cu) (ps i) i U := by unfold walkS; first | rw [if_pos (by omega)] | rw [if_neg (by omega), if_pos (by omega)] | rw [if_neg (by omega), if_neg (by omega)]
                  have ok := okS_walk (P := ps i) (num := i) i22_2.1 hC hPi (by omega)
                  exact ih22 (j + 1) (sinS (cs cu) (ps i) i (drawS (drawS U))) (by omega) (by omega) (by rw [ew]; unfold parS; rw [fo_succ _ (n := j) (by omega)]; unfold parS at i22_1; rw [← i22_1]) (by rw [ew]; exact ⟨ok.1, ok.2.trans i22_2.2⟩)
              · skip
                refine j_aload_n (pc := 45) C 0 0 rfl rfl dX10_goWeek_45 ?_
                refine j_iload_n (pc := 46) C 1 1 rfl rfl dX10_goWeek_46 ?_
                refine j_iload_n (pc := 47) C 2 2 rfl rfl dX10_goWeek_47 ?_
                refine j_callVv (pc := 48) (As := [vI cu, vI i]) (na := 2) (st := []) C [0, 1, 2] [] (wr := []) (fun l => m_doWish l D Y _ h r (drawS U) G cs ps cu i (List.mem_append_right _ k0) (List.mem_append_right _ k1) (List.mem_append_right _ q0) (List.mem_append_right _ q1) (List.mem_append_right _ q2) (okS_draw i22_2.1) (by first | assumption | omega) (by first | assumption | omega) (by first | assumption | omega) hPi (by show ms_w U ≤ _; omega)) rfl rfl rfl rfl (by decide) rfl (Or.inl (List.mem_of_getElem? (i := 0) rfl)) rfl gX10_goWeek_X10_doWish ⟨rfl, by decide +kernel⟩ (by decide) rfl rfl (Nat.le_of_ble_eq_true rfl) (by decide) dX10_goWeek_48 (fun w_24 h_25 => ?_)
                subst h_25
                refine j_perm (ws' := [(h, oC 9 [.ref (r 0), .ref (r 1), vI (ms_w (wishS (cs cu) (ps i) i (drawS U))), vI (ms_l (wishS (cs cu) (ps i) i (drawS U))), vL (ms_s (wishS (cs cu) (ps i) i (drawS U))), vI (ms_a (wishS (cs cu) (ps i) i (drawS U))), vI (ms_t (wishS (cs cu) (ps i) i (drawS U))), vI (ms_p (wishS (cs cu) (ps i) i (drawS U))), vI (g_np G), .ref (r 9), .ref (r 10), .ref (r 11), .ref (r 12), .ref (r 13), vI (g_nc G), .ref (r 15), .ref (r 16), .ref (r 17), vI (g_pl G), .ref (r 19), vI (g_ik G), vL (g_ks G), .ref (r 22), vL (g_ss G), .ref (r 24), vI (g_fa G), vI (g_iw G), vI (g_nw G), vI (g_ns G), vI (g_ne G), .ref (r 30), .ref (r 31), .ref (r 32), .ref (r 33), vL (g_h G)]), ((r 1), aI (Y 0) 7 (ms_h (wishS (cs cu) (ps i) i (drawS U)))), ((r 0), aI (Y 0) 420 (ms_m (wishS (cs cu) (ps i) i (drawS U))))]) [0, 1, 2] rfl rfl ?_
                refine j_goto (pc := 51) C 73 rfl dX10_goWeek_51 ?_
                refine j_iinc (pc := 73) (lc' := [(3, vI (j + 1)), (0, .ref h), (1, vI cu), (2, vI i)]) C 3 rfl (by decide) rfl dX10_goWeek_73 ?_
                refine j_goto (pc := 76) C 22 rfl dX10_goWeek_76 ?_
                refine j_locals (lc' := [(0, .ref h), (1, vI cu), (2, vI i), (3, vI (j + 1))]) [1, 2, 3, 0] rfl ?_
                have ew : (wishS (cs cu) (ps i) i (drawS U)) = walkS (cs cu) (ps i) i U := by unfold walkS; first | rw [if_pos (by omega)] | rw [if_neg (by omega), if_pos (by omega)] | rw [if_neg (by omega), if_neg (by omega)]
                have ok := okS_walk (P := ps i) (num := i) i22_2.1 hC hPi (by omega)
                exact ih22 (j + 1) (wishS (cs cu) (ps i) i (drawS U)) (by omega) (by omega) (by rw [ew]; unfold parS; rw [fo_succ _ (n := j) (by omega)]; unfold parS at i22_1; rw [← i22_1]) (by rw [ew]; exact ⟨ok.1, ok.2.trans i22_2.2⟩)
        refine j_locals (lc' := [(0, .ref h), (1, vI cu), (2, vI i), (3, vI 0)]) [1, 2, 3, 0] rfl ?_
        exact hL22 _ 0 T (Nat.lt_succ_self _) (by omega) rfl i12_2
  refine j_locals (lc' := [(0, .ref h), (1, vI cu), (2, vI 0)]) [1, 2, 0] rfl ?_
  exact hL12 _ 0 (ms_h S, ms_m S, (ms_w S + 1), ms_l S, ms_s S, ms_a S, ms_t S, ms_p S) (Nat.lt_succ_self _) (by omega) rfl ⟨okS_W hS, rfl⟩
