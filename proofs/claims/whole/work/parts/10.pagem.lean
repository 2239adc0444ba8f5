def gPL (G : GS) (v : Int) : GS := (g_np G, g_nc G, v, g_ik G, g_ks G, g_ss G, g_fa G, g_iw G, g_nw G, g_ns G, g_ne G, g_h G)
def gCU (G : GS) : GS := (g_np G, g_nc G + 1, 0, g_ik G, g_ks G, g_ss G, g_fa G, g_iw G, g_nw G, g_ns G, g_ne G, g_h G)
theorem up_cw (cs : Int → CT) (n : Int) (C : CT) : cwof (up cs n C) = up (cwof cs) n (cw C) := by funext i; unfold cwof up; dsimp only; split <;> rfl
theorem up_cz (cs : Int → CT) (n : Int) (C : CT) : czof (up cs n C) = up (czof cs) n (cz C) := by funext i; unfold czof up; dsimp only; split <;> rfl
theorem up_ce (cs : Int → CT) (n : Int) (C : CT) : ceof (up cs n C) = up (ceof cs) n (ce C) := by funext i; unfold ceof up; dsimp only; split <;> rfl
def fitQ (i c : Int) : Prop := fitP i c
theorem fit_le {i c : Int} (h : fitQ i c) : 0 ≤ i ∧ i ≤ 5 := by unfold fitQ fitP at h; omega
theorem fitQ_of {q k c : Int} (hq : q = k) (h : ¬ (if fitP q c then q + 1 else -1) = -1) : fitQ k c := hq ▸ fit_of h
theorem fitQ_not {q k c : Int} (hq : q = k) (h0 : 0 ≤ k) (h : (if fitP q c then q + 1 else -1) = -1) : ¬ fitQ k c := by subst hq; exact fit_not h0 h
theorem fault_eqQ {pg : Int → Int} {pl k b : Int} (h0 : 0 ≤ k) (h : fstI (fun i => ¬ fitP i (pg i)) k = -1) (hk : b = 1 ∨ (b = 0 ∧ k < pl ∧ ¬ fitQ k (pg k))) (he : k ≤ pl ∧ (k = pl ∨ b = 0)) : faultI pg pl = k := by
  refine fault_eq h0 h ?_
  rcases hk with q | q
  · exact Or.inl (by omega)
  · exact Or.inr ⟨q.2.1, q.2.2⟩
theorem cus_lit1 {pg : Int → Int} {pl k : Int} (hf : faultI pg pl = k) (h : k = pl) (h4 : pl = 4 ∨ pl = 6) : (1 : Int) = if cusP pg pl then 1 else 0 := by rw [if_pos ⟨h4, by omega⟩]
theorem cus_lit0 {pg : Int → Int} {pl k : Int} (hf : faultI pg pl = k) (h : ¬ (k = pl ∧ (k = 4 ∨ k = 6))) : (0 : Int) = if cusP pg pl then 1 else 0 := by
  rw [if_neg]
  intro z
  have := z.1
  have := z.2
  omega
theorem ite_rng {P : Prop} [Decidable P] {q : Int} (h : 0 ≤ q ∧ q ≤ 6) : (-2147483648 ≤ (if P then q + 1 else -1) ∧ (if P then q + 1 else -1) ≤ 2147483647) ∧ (-2147483648 ≤ (-1 : Int) ∧ (-1 : Int) ≤ 2147483647) := by
  by_cases z : P
  · rw [if_pos z]; omega
  · rw [if_neg z]; omega
set_option maxHeartbeats 4000000 in
set_option maxRecDepth 100000 in
theorem m_ruleBy (l : Launch) (D : va_G) (Y : Nat → ClassId) (RO : va_W) (c : Int)  (hc : -2147483648 ≤ c ∧ c ≤ 2147483647) : jMi l yX10_ruleBy wsX10_ruleBy { frames := 1, cells := 0, slots := 0, locals := 22 } D Y RO [vI c] [] (fun e w1 => e = ruleI c ∧ w1 = []) := by
  refine j_ofi RX10 rfl rfl rfl (Nat.le_of_ble_eq_true rfl) (fun X C Rt => ?_)
  refine j_iload_n (pc := 0) C 0 0 rfl rfl dX10_ruleBy_0 ?_
  refine j_bipush (pc := 1) (w := 48) C rfl dX10_ruleBy_1 ?_
  refine j_bipush (pc := 3) (w := 54) C rfl dX10_ruleBy_3 ?_
  refine j_callSi (pc := 5) (As := [vI c, vI 48, vI 54]) (na := 3) (st := []) C [] [] (wr := []) (fun l => m_within l D Y _ c 48 54 (by first | assumption | omega) (by first | assumption | omega) (by first | assumption | omega)) rfl rfl rfl rfl (by decide) rfl gX10_ruleBy_X10_within (by decide +kernel) (by decide) rfl rfl (Nat.le_of_ble_eq_true rfl) (by decide) dX10_ruleBy_5 (fun e_1 w_2 h_3 => ?_)
  obtain ⟨rfl, rfl⟩ := h_3
  refine j_perm (ws' := []) [] rfl rfl ?_
  refine j_if_eqb (pc := 8) C 16 rfl dX10_ruleBy_8 (fun h_4p8 => ?_) (fun h_4p8 => ?_)
  · skip
    refine j_iload_n (pc := 16) C 0 0 rfl rfl dX10_ruleBy_16 ?_
    refine j_bipush (pc := 17) (w := 109) C rfl dX10_ruleBy_17 ?_
    refine j_icmp_ne (pc := 19) C 27 rfl (by omega) dX10_ruleBy_19 (fun h_5p19 => ?_) (fun h_5p19 => ?_)
    · skip
      refine j_iload_n (pc := 27) C 0 0 rfl rfl dX10_ruleBy_27 ?_
      refine j_bipush (pc := 28) (w := 108) C rfl dX10_ruleBy_28 ?_
      refine j_icmp_ne (pc := 30) C 38 rfl (by omega) dX10_ruleBy_30 (fun h_6p30 => ?_) (fun h_6p30 => ?_)
      · skip
        refine j_iload_n (pc := 38) C 0 0 rfl rfl dX10_ruleBy_38 ?_
        refine j_bipush (pc := 39) (w := 112) C rfl dX10_ruleBy_39 ?_
        refine j_icmp_ne (pc := 41) C 49 rfl (by omega) dX10_ruleBy_41 (fun h_7p41 => ?_) (fun h_7p41 => ?_)
        · skip
          refine j_iload_n (pc := 49) C 0 0 rfl rfl dX10_ruleBy_49 ?_
          refine j_bipush (pc := 50) (w := 110) C rfl dX10_ruleBy_50 ?_
          refine j_icmp_ne (pc := 52) C 60 rfl (by omega) dX10_ruleBy_52 (fun h_8p52 => ?_) (fun h_8p52 => ?_)
          · skip
            refine j_iconst (pc := 60) C dX10_ruleBy_60 ?_
            exact Rt _ _ _ _ _ _ (by decide) (by decide) ⟨by unfold ruleI; first | (exfalso; omega) | rw [if_pos (by omega)] | (rw [if_neg (by omega)]; first | rw [if_pos (by omega)] | (rw [if_neg (by omega)]; first | rw [if_pos (by omega)] | (rw [if_neg (by omega)]; first | rw [if_pos (by omega)] | (rw [if_neg (by omega)]; first | rw [if_pos (by omega)] | rw [if_neg (by omega)])))), rfl⟩ dX10_ruleBy_61
          · skip
            refine j_bipush (pc := 55) (w := 10) C rfl dX10_ruleBy_55 ?_
            refine j_goto (pc := 57) C 61 rfl dX10_ruleBy_57 ?_
            exact Rt _ _ _ _ _ _ (by decide) (by decide) ⟨by unfold ruleI; first | (exfalso; omega) | rw [if_pos (by omega)] | (rw [if_neg (by omega)]; first | rw [if_pos (by omega)] | (rw [if_neg (by omega)]; first | rw [if_pos (by omega)] | (rw [if_neg (by omega)]; first | rw [if_pos (by omega)] | (rw [if_neg (by omega)]; first | rw [if_pos (by omega)] | rw [if_neg (by omega)])))), rfl⟩ dX10_ruleBy_61
        · skip
          refine j_bipush (pc := 44) (w := 9) C rfl dX10_ruleBy_44 ?_
          refine j_goto (pc := 46) C 61 rfl dX10_ruleBy_46 ?_
          exact Rt _ _ _ _ _ _ (by decide) (by decide) ⟨by unfold ruleI; first | (exfalso; omega) | rw [if_pos (by omega)] | (rw [if_neg (by omega)]; first | rw [if_pos (by omega)] | (rw [if_neg (by omega)]; first | rw [if_pos (by omega)] | (rw [if_neg (by omega)]; first | rw [if_pos (by omega)] | (rw [if_neg (by omega)]; first | rw [if_pos (by omega)] | rw [if_neg (by omega)])))), rfl⟩ dX10_ruleBy_61
      · skip
        refine j_bipush (pc := 33) (w := 8) C rfl dX10_ruleBy_33 ?_
        refine j_goto (pc := 35) C 61 rfl dX10_ruleBy_35 ?_
        exact Rt _ _ _ _ _ _ (by decide) (by decide) ⟨by unfold ruleI; first | (exfalso; omega) | rw [if_pos (by omega)] | (rw [if_neg (by omega)]; first | rw [if_pos (by omega)] | (rw [if_neg (by omega)]; first | rw [if_pos (by omega)] | (rw [if_neg (by omega)]; first | rw [if_pos (by omega)] | (rw [if_neg (by omega)]; first | rw [if_pos (by omega)] | rw [if_neg (by omega)])))), rfl⟩ dX10_ruleBy_61
    · skip
      refine j_bipush (pc := 22) (w := 7) C rfl dX10_ruleBy_22 ?_
      refine j_goto (pc := 24) C 61 rfl dX10_ruleBy_24 ?_
      exact Rt _ _ _ _ _ _ (by decide) (by decide) ⟨by unfold ruleI; first | (exfalso; omega) | rw [if_pos (by omega)] | (rw [if_neg (by omega)]; first | rw [if_pos (by omega)] | (rw [if_neg (by omega)]; first | rw [if_pos (by omega)] | (rw [if_neg (by omega)]; first | rw [if_pos (by omega)] | (rw [if_neg (by omega)]; first | rw [if_pos (by omega)] | rw [if_neg (by omega)])))), rfl⟩ dX10_ruleBy_61
  · skip
    refine j_iload_n (pc := 11) C 0 0 rfl rfl dX10_ruleBy_11 ?_
    refine j_bipush (pc := 12) (w := 48) C rfl dX10_ruleBy_12 ?_
    refine j_isub (pc := 14) C dX10_ruleBy_14 ?_
    exact Rt _ _ _ _ _ _ (by decide) (by decide) ⟨by unfold ruleI; first | (exfalso; omega) | rw [if_pos (by omega)] | (rw [if_neg (by omega)]; first | rw [if_pos (by omega)] | (rw [if_neg (by omega)]; first | rw [if_pos (by omega)] | (rw [if_neg (by omega)]; first | rw [if_pos (by omega)] | (rw [if_neg (by omega)]; first | rw [if_pos (by omega)] | rw [if_neg (by omega)])))), rfl⟩ dX10_ruleBy_15

theorem fX10_nextState_X10 : ∀ w ∈ u_ws RX10 TX10 35, w ∈ wsX10_nextState := j_words [11, 12, 13, 14, 15, 16, 17, 18, 19, 20, 21, 22, 23, 24, 25, 26, 27, 28, 29, 30, 31, 32, 33, 34, 35, 36, 37, 38, 39, 40, 41, 42, 43, 44, 45] (by decide +kernel)
set_option maxHeartbeats 4000000 in
set_option maxRecDepth 100000 in
theorem m_nextState (l : Launch) (D : va_G) (Y : Nat → ClassId) (RO : va_W) (h : Nat) (r : Nat → Nat) (S : MS) (G : GS) (q : Int) (c : Int)  (hq : 0 ≤ q ∧ q ≤ 6) (hc : 1 ≤ c ∧ c ≤ 126) : jMi l yX10_nextState wsX10_nextState { frames := 2, cells := 0, slots := 0, locals := 42 } D Y RO [.ref h, vI q, vI c] [(h, oC 9 [.ref (r 0), .ref (r 1), vI (ms_w S), vI (ms_l S), vL (ms_s S), vI (ms_a S), vI (ms_t S), vI (ms_p S), vI (g_np G), .ref (r 9), .ref (r 10), .ref (r 11), .ref (r 12), .ref (r 13), vI (g_nc G), .ref (r 15), .ref (r 16), .ref (r 17), vI (g_pl G), .ref (r 19), vI (g_ik G), vL (g_ks G), .ref (r 22), vL (g_ss G), .ref (r 24), vI (g_fa G), vI (g_iw G), vI (g_nw G), vI (g_ns G), vI (g_ne G), .ref (r 30), .ref (r 31), .ref (r 32), .ref (r 33), vL (g_h G)])] (fun e w1 => e = (if fitP q c then q + 1 else -1) ∧ w1 = [(h, oC 9 [.ref (r 0), .ref (r 1), vI (ms_w S), vI (ms_l S), vL (ms_s S), vI (ms_a S), vI (ms_t S), vI (ms_p S), vI (g_np (gNX q c G)), .ref (r 9), .ref (r 10), .ref (r 11), .ref (r 12), .ref (r 13), vI (g_nc (gNX q c G)), .ref (r 15), .ref (r 16), .ref (r 17), vI (g_pl (gNX q c G)), .ref (r 19), vI (g_ik (gNX q c G)), vL (g_ks (gNX q c G)), .ref (r 22), vL (g_ss (gNX q c G)), .ref (r 24), vI (g_fa (gNX q c G)), vI (g_iw (gNX q c G)), vI (g_nw (gNX q c G)), vI (g_ns (gNX q c G)), vI (g_ne (gNX q c G)), .ref (r 30), .ref (r 31), .ref (r 32), .ref (r 33), vL (g_h (gNX q c G))])]) := by
  refine j_ofi RX10 rfl rfl rfl (Nat.le_of_ble_eq_true rfl) (fun X C Rt => ?_)
  have hru := ruleI_in c
  refine j_iload_n (pc := 0) C 1 1 rfl rfl dX10_nextState_0 ?_
  rcases (show q = 0 ∨ q = 1 ∨ q = 2 ∨ q = 3 ∨ q = 4 ∨ q = 5 ∨ (q < 0 ∨ 5 < q) by omega) with h_1p1 | h_1p1 | h_1p1 | h_1p1 | h_1p1 | h_1p1 | h_1p1
  · refine j_tableC (pc := 1) C 0 40 h_1p1 (by decide) rfl rfl dX10_nextState_1 ?_
    refine j_iload_n (pc := 40) C 2 2 rfl rfl dX10_nextState_40 ?_
    refine j_bipush (pc := 41) (w := 119) C rfl dX10_nextState_41 ?_
    refine j_icmp_ne (pc := 43) C 50 rfl (by omega) dX10_nextState_43 (fun h_2p43 => ?_) (fun h_2p43 => ?_)
    · skip
      refine j_iconst (pc := 50) C dX10_nextState_50 ?_
      exact Rt _ _ _ _ _ _ (by decide) (by decide) ⟨by unfold fitP; split <;> omega, by unfold gNX; first | (rw [if_pos (by omega), if_neg (by omega), if_neg (by omega)]; done) | (rw [if_neg (by omega), if_pos (by omega), if_neg (by omega)]; done) | (rw [if_neg (by omega), if_neg (by omega), if_pos (by omega)]; done) | (rw [if_neg (by omega), if_neg (by omega), if_neg (by omega)]; done)⟩ dX10_nextState_51
    · skip
      refine j_iconst (pc := 46) C dX10_nextState_46 ?_
      refine j_goto (pc := 47) C 51 rfl dX10_nextState_47 ?_
      exact Rt _ _ _ _ _ _ (by decide) (by decide) ⟨by unfold fitP; split <;> omega, by unfold gNX; first | (rw [if_pos (by omega), if_neg (by omega), if_neg (by omega)]; done) | (rw [if_neg (by omega), if_pos (by omega), if_neg (by omega)]; done) | (rw [if_neg (by omega), if_neg (by omega), if_pos (by omega)]; done) | (rw [if_neg (by omega), if_neg (by omega), if_neg (by omega)]; done)⟩ dX10_nextState_51
  · refine j_tableC (pc := 1) C 1 52 h_1p1 (by decide) rfl rfl dX10_nextState_1 ?_
    refine j_aload_n (pc := 52) C 0 0 rfl rfl dX10_nextState_52 ?_
    refine j_iload_n (pc := 53) C 2 2 rfl rfl dX10_nextState_53 ?_
    refine j_callSi (pc := 54) (As := [vI c]) (na := 1) (st := [.ref h]) C [] [0] (wr := [(h, oC 9 [.ref (r 0), .ref (r 1), vI (ms_w S), vI (ms_l S), vL (ms_s S), vI (ms_a S), vI (ms_t S), vI (ms_p S), vI (g_np G), .ref (r 9), .ref (r 10), .ref (r 11), .ref (r 12), .ref (r 13), vI (g_nc G), .ref (r 15), .ref (r 16), .ref (r 17), vI (g_pl G), .ref (r 19), vI (g_ik G), vL (g_ks G), .ref (r 22), vL (g_ss G), .ref (r 24), vI (g_fa G), vI (g_iw G), vI (g_nw G), vI (g_ns G), vI (g_ne G), .ref (r 30), .ref (r 31), .ref (r 32), .ref (r 33), vL (g_h G)])]) (fun l => m_ruleBy l D Y _ c (by first | assumption | omega)) rfl rfl rfl rfl (by decide) rfl gX10_nextState_X10_ruleBy (by decide +kernel) (by decide) rfl rfl (Nat.le_of_ble_eq_true rfl) (by decide) dX10_nextState_54 (fun e_3 w_4 h_5 => ?_)
    obtain ⟨rfl, rfl⟩ := h_5
    refine j_perm (ws' := [(h, oC 9 [.ref (r 0), .ref (r 1), vI (ms_w S), vI (ms_l S), vL (ms_s S), vI (ms_a S), vI (ms_t S), vI (ms_p S), vI (g_np G), .ref (r 9), .ref (r 10), .ref (r 11), .ref (r 12), .ref (r 13), vI (g_nc G), .ref (r 15), .ref (r 16), .ref (r 17), vI (g_pl G), .ref (r 19), vI (g_ik G), vL (g_ks G), .ref (r 22), vL (g_ss G), .ref (r 24), vI (g_fa G), vI (g_iw G), vI (g_nw G), vI (g_ns G), vI (g_ne G), .ref (r 30), .ref (r 31), .ref (r 32), .ref (r 33), vL (g_h G)])]) [0] rfl rfl ?_
    refine j_put (pc := 57) (ws' := [(h, oC 9 [.ref (r 0), .ref (r 1), vI (ms_w S), vI (ms_l S), vL (ms_s S), vI (ms_a S), vI (ms_t S), vI (ms_p S), vI (g_np G), .ref (r 9), .ref (r 10), .ref (r 11), .ref (r 12), .ref (r 13), vI (g_nc G), .ref (r 15), .ref (r 16), .ref (r 17), vI (g_pl G), .ref (r 19), vI (g_ik G), vL (g_ks G), .ref (r 22), vL (g_ss G), .ref (r 24), vI (g_fa G), vI (g_iw G), vI (ruleI c), vI (g_ns G), vI (g_ne G), .ref (r 30), .ref (r 31), .ref (r 32), .ref (r 33), vL (g_h G)])]) C 0 rfl rfl fX10_nextState_X10 tyX10_ok nmX10 27 (by decide) (List.mem_of_getElem? (i := 1) rfl) (Or.inl rfl) rfl rfl rfl rfl (Nat.le_of_ble_eq_true rfl) rfl dX10_nextState_57 ?_
    refine j_aload_n (pc := 60) C 0 0 rfl rfl dX10_nextState_60 ?_
    refine j_get (pc := 61) C (Or.inl (List.mem_of_getElem? (i := 0) rfl)) rfl fX10_nextState_X10 27 (by decide) (List.mem_of_getElem? (i := 1) rfl) (Or.inl rfl) rfl dX10_nextState_61 ?_
    refine j_iconst (pc := 64) C dX10_nextState_64 ?_
    refine j_icmp_ne (pc := 65) C 72 rfl (by omega) dX10_nextState_65 (fun h_6p65 => ?_) (fun h_6p65 => ?_)
    · skip
      refine j_iconst (pc := 72) C dX10_nextState_72 ?_
      exact Rt _ _ _ _ _ _ (by decide) (by decide) ⟨by unfold fitP; split <;> omega, by unfold gNX; first | (rw [if_pos (by omega), if_neg (by omega), if_neg (by omega)]; done) | (rw [if_neg (by omega), if_pos (by omega), if_neg (by omega)]; done) | (rw [if_neg (by omega), if_neg (by omega), if_pos (by omega)]; done) | (rw [if_neg (by omega), if_neg (by omega), if_neg (by omega)]; done)⟩ dX10_nextState_73
    · skip
      refine j_iconst (pc := 68) C dX10_nextState_68 ?_
      refine j_goto (pc := 69) C 73 rfl dX10_nextState_69 ?_
      exact Rt _ _ _ _ _ _ (by decide) (by decide) ⟨by unfold fitP; split <;> omega, by unfold gNX; first | (rw [if_pos (by omega), if_neg (by omega), if_neg (by omega)]; done) | (rw [if_neg (by omega), if_pos (by omega), if_neg (by omega)]; done) | (rw [if_neg (by omega), if_neg (by omega), if_pos (by omega)]; done) | (rw [if_neg (by omega), if_neg (by omega), if_neg (by omega)]; done)⟩ dX10_nextState_73
  · refine j_tableC (pc := 1) C 2 74 h_1p1 (by decide) rfl rfl dX10_nextState_1 ?_
    refine j_iload_n (pc := 74) C 2 2 rfl rfl dX10_nextState_74 ?_
    refine j_bipush (pc := 75) (w := 115) C rfl dX10_nextState_75 ?_
    refine j_icmp_ne (pc := 77) C 84 rfl (by omega) dX10_nextState_77 (fun h_7p77 => ?_) (fun h_7p77 => ?_)
    · skip
      refine j_iconst (pc := 84) C dX10_nextState_84 ?_
      exact Rt _ _ _ _ _ _ (by decide) (by decide) ⟨by unfold fitP; split <;> omega, by unfold gNX; first | (rw [if_pos (by omega), if_neg (by omega), if_neg (by omega)]; done) | (rw [if_neg (by omega), if_pos (by omega), if_neg (by omega)]; done) | (rw [if_neg (by omega), if_neg (by omega), if_pos (by omega)]; done) | (rw [if_neg (by omega), if_neg (by omega), if_neg (by omega)]; done)⟩ dX10_nextState_85
    · skip
      refine j_iconst (pc := 80) C dX10_nextState_80 ?_
      refine j_goto (pc := 81) C 85 rfl dX10_nextState_81 ?_
      exact Rt _ _ _ _ _ _ (by decide) (by decide) ⟨by unfold fitP; split <;> omega, by unfold gNX; first | (rw [if_pos (by omega), if_neg (by omega), if_neg (by omega)]; done) | (rw [if_neg (by omega), if_pos (by omega), if_neg (by omega)]; done) | (rw [if_neg (by omega), if_neg (by omega), if_pos (by omega)]; done) | (rw [if_neg (by omega), if_neg (by omega), if_neg (by omega)]; done)⟩ dX10_nextState_85
  · refine j_tableC (pc := 1) C 3 86 h_1p1 (by decide) rfl rfl dX10_nextState_1 ?_
    refine j_aload_n (pc := 86) C 0 0 rfl rfl dX10_nextState_86 ?_
    refine j_iload_n (pc := 87) C 2 2 rfl rfl dX10_nextState_87 ?_
    refine j_callSi (pc := 88) (As := [vI c]) (na := 1) (st := [.ref h]) C [] [0] (wr := [(h, oC 9 [.ref (r 0), .ref (r 1), vI (ms_w S), vI (ms_l S), vL (ms_s S), vI (ms_a S), vI (ms_t S), vI (ms_p S), vI (g_np G), .ref (r 9), .ref (r 10), .ref (r 11), .ref (r 12), .ref (r 13), vI (g_nc G), .ref (r 15), .ref (r 16), .ref (r 17), vI (g_pl G), .ref (r 19), vI (g_ik G), vL (g_ks G), .ref (r 22), vL (g_ss G), .ref (r 24), vI (g_fa G), vI (g_iw G), vI (g_nw G), vI (g_ns G), vI (g_ne G), .ref (r 30), .ref (r 31), .ref (r 32), .ref (r 33), vL (g_h G)])]) (fun l => m_ruleBy l D Y _ c (by first | assumption | omega)) rfl rfl rfl rfl (by decide) rfl gX10_nextState_X10_ruleBy (by decide +kernel) (by decide) rfl rfl (Nat.le_of_ble_eq_true rfl) (by decide) dX10_nextState_88 (fun e_8 w_9 h_10 => ?_)
    obtain ⟨rfl, rfl⟩ := h_10
    refine j_perm (ws' := [(h, oC 9 [.ref (r 0), .ref (r 1), vI (ms_w S), vI (ms_l S), vL (ms_s S), vI (ms_a S), vI (ms_t S), vI (ms_p S), vI (g_np G), .ref (r 9), .ref (r 10), .ref (r 11), .ref (r 12), .ref (r 13), vI (g_nc G), .ref (r 15), .ref (r 16), .ref (r 17), vI (g_pl G), .ref (r 19), vI (g_ik G), vL (g_ks G), .ref (r 22), vL (g_ss G), .ref (r 24), vI (g_fa G), vI (g_iw G), vI (g_nw G), vI (g_ns G), vI (g_ne G), .ref (r 30), .ref (r 31), .ref (r 32), .ref (r 33), vL (g_h G)])]) [0] rfl rfl ?_
    refine j_put (pc := 91) (ws' := [(h, oC 9 [.ref (r 0), .ref (r 1), vI (ms_w S), vI (ms_l S), vL (ms_s S), vI (ms_a S), vI (ms_t S), vI (ms_p S), vI (g_np G), .ref (r 9), .ref (r 10), .ref (r 11), .ref (r 12), .ref (r 13), vI (g_nc G), .ref (r 15), .ref (r 16), .ref (r 17), vI (g_pl G), .ref (r 19), vI (g_ik G), vL (g_ks G), .ref (r 22), vL (g_ss G), .ref (r 24), vI (g_fa G), vI (g_iw G), vI (g_nw G), vI (ruleI c), vI (g_ne G), .ref (r 30), .ref (r 31), .ref (r 32), .ref (r 33), vL (g_h G)])]) C 0 rfl rfl fX10_nextState_X10 tyX10_ok nmX10 28 (by decide) (List.mem_of_getElem? (i := 2) rfl) (Or.inl rfl) rfl rfl rfl rfl (Nat.le_of_ble_eq_true rfl) rfl dX10_nextState_91 ?_
    refine j_aload_n (pc := 94) C 0 0 rfl rfl dX10_nextState_94 ?_
    refine j_get (pc := 95) C (Or.inl (List.mem_of_getElem? (i := 0) rfl)) rfl fX10_nextState_X10 28 (by decide) (List.mem_of_getElem? (i := 2) rfl) (Or.inl rfl) rfl dX10_nextState_95 ?_
    refine j_iconst (pc := 98) C dX10_nextState_98 ?_
    refine j_icmp_ne (pc := 99) C 106 rfl (by omega) dX10_nextState_99 (fun h_11p99 => ?_) (fun h_11p99 => ?_)
    · skip
      refine j_iconst (pc := 106) C dX10_nextState_106 ?_
      exact Rt _ _ _ _ _ _ (by decide) (by decide) ⟨by unfold fitP; split <;> omega, by unfold gNX; first | (rw [if_pos (by omega), if_neg (by omega), if_neg (by omega)]; done) | (rw [if_neg (by omega), if_pos (by omega), if_neg (by omega)]; done) | (rw [if_neg (by omega), if_neg (by omega), if_pos (by omega)]; done) | (rw [if_neg (by omega), if_neg (by omega), if_neg (by omega)]; done)⟩ dX10_nextState_107
    · skip
      refine j_iconst (pc := 102) C dX10_nextState_102 ?_
      refine j_goto (pc := 103) C 107 rfl dX10_nextState_103 ?_
      exact Rt _ _ _ _ _ _ (by decide) (by decide) ⟨by unfold fitP; split <;> omega, by unfold gNX; first | (rw [if_pos (by omega), if_neg (by omega), if_neg (by omega)]; done) | (rw [if_neg (by omega), if_pos (by omega), if_neg (by omega)]; done) | (rw [if_neg (by omega), if_neg (by omega), if_pos (by omega)]; done) | (rw [if_neg (by omega), if_neg (by omega), if_neg (by omega)]; done)⟩ dX10_nextState_107
  · refine j_tableC (pc := 1) C 4 108 h_1p1 (by decide) rfl rfl dX10_nextState_1 ?_
    refine j_iload_n (pc := 108) C 2 2 rfl rfl dX10_nextState_108 ?_
    refine j_bipush (pc := 109) (w := 102) C rfl dX10_nextState_109 ?_
    refine j_icmp_ne (pc := 111) C 118 rfl (by omega) dX10_nextState_111 (fun h_12p111 => ?_) (fun h_12p111 => ?_)
    · skip
      refine j_iconst (pc := 118) C dX10_nextState_118 ?_
      exact Rt _ _ _ _ _ _ (by decide) (by decide) ⟨by unfold fitP; split <;> omega, by unfold gNX; first | (rw [if_pos (by omega), if_neg (by omega), if_neg (by omega)]; done) | (rw [if_neg (by omega), if_pos (by omega), if_neg (by omega)]; done) | (rw [if_neg (by omega), if_neg (by omega), if_pos (by omega)]; done) | (rw [if_neg (by omega), if_neg (by omega), if_neg (by omega)]; done)⟩ dX10_nextState_119
    · skip
      refine j_iconst (pc := 114) C dX10_nextState_114 ?_
      refine j_goto (pc := 115) C 119 rfl dX10_nextState_115 ?_
      exact Rt _ _ _ _ _ _ (by decide) (by decide) ⟨by unfold fitP; split <;> omega, by unfold gNX; first | (rw [if_pos (by omega), if_neg (by omega), if_neg (by omega)]; done) | (rw [if_neg (by omega), if_pos (by omega), if_neg (by omega)]; done) | (rw [if_neg (by omega), if_neg (by omega), if_pos (by omega)]; done) | (rw [if_neg (by omega), if_neg (by omega), if_neg (by omega)]; done)⟩ dX10_nextState_119
  · refine j_tableC (pc := 1) C 5 120 h_1p1 (by decide) rfl rfl dX10_nextState_1 ?_
    refine j_aload_n (pc := 120) C 0 0 rfl rfl dX10_nextState_120 ?_
    refine j_iload_n (pc := 121) C 2 2 rfl rfl dX10_nextState_121 ?_
    refine j_bipush (pc := 122) (w := 48) C rfl dX10_nextState_122 ?_
    refine j_isub (pc := 124) C dX10_nextState_124 ?_
    refine j_put (pc := 125) (ws' := [(h, oC 9 [.ref (r 0), .ref (r 1), vI (ms_w S), vI (ms_l S), vL (ms_s S), vI (ms_a S), vI (ms_t S), vI (ms_p S), vI (g_np G), .ref (r 9), .ref (r 10), .ref (r 11), .ref (r 12), .ref (r 13), vI (g_nc G), .ref (r 15), .ref (r 16), .ref (r 17), vI (g_pl G), .ref (r 19), vI (g_ik G), vL (g_ks G), .ref (r 22), vL (g_ss G), .ref (r 24), vI (g_fa G), vI (g_iw G), vI (g_nw G), vI (g_ns G), vI (c - 48), .ref (r 30), .ref (r 31), .ref (r 32), .ref (r 33), vL (g_h G)])]) C 0 rfl rfl fX10_nextState_X10 tyX10_ok nmX10 29 (by decide) (List.mem_of_getElem? (i := 3) rfl) (Or.inl rfl) rfl rfl rfl rfl (Nat.le_of_ble_eq_true rfl) rfl dX10_nextState_125 ?_
    refine j_iload_n (pc := 128) C 2 2 rfl rfl dX10_nextState_128 ?_
    refine j_bipush (pc := 129) (w := 49) C rfl dX10_nextState_129 ?_
    refine j_bipush (pc := 131) (w := 57) C rfl dX10_nextState_131 ?_
    refine j_callSi (pc := 133) (As := [vI c, vI 49, vI 57]) (na := 3) (st := []) C [] [0] (wr := [(h, oC 9 [.ref (r 0), .ref (r 1), vI (ms_w S), vI (ms_l S), vL (ms_s S), vI (ms_a S), vI (ms_t S), vI (ms_p S), vI (g_np G), .ref (r 9), .ref (r 10), .ref (r 11), .ref (r 12), .ref (r 13), vI (g_nc G), .ref (r 15), .ref (r 16), .ref (r 17), vI (g_pl G), .ref (r 19), vI (g_ik G), vL (g_ks G), .ref (r 22), vL (g_ss G), .ref (r 24), vI (g_fa G), vI (g_iw G), vI (g_nw G), vI (g_ns G), vI (c - 48), .ref (r 30), .ref (r 31), .ref (r 32), .ref (r 33), vL (g_h G)])]) (fun l => m_within l D Y _ c 49 57 (by first | assumption | omega) (by first | assumption | omega) (by first | assumption | omega)) rfl rfl rfl rfl (by decide) rfl gX10_nextState_X10_within (by decide +kernel) (by decide) rfl rfl (Nat.le_of_ble_eq_true rfl) (by decide) dX10_nextState_133 (fun e_13 w_14 h_15 => ?_)
    obtain ⟨rfl, rfl⟩ := h_15
    refine j_perm (ws' := [(h, oC 9 [.ref (r 0), .ref (r 1), vI (ms_w S), vI (ms_l S), vL (ms_s S), vI (ms_a S), vI (ms_t S), vI (ms_p S), vI (g_np G), .ref (r 9), .ref (r 10), .ref (r 11), .ref (r 12), .ref (r 13), vI (g_nc G), .ref (r 15), .ref (r 16), .ref (r 17), vI (g_pl G), .ref (r 19), vI (g_ik G), vL (g_ks G), .ref (r 22), vL (g_ss G), .ref (r 24), vI (g_fa G), vI (g_iw G), vI (g_nw G), vI (g_ns G), vI (c - 48), .ref (r 30), .ref (r 31), .ref (r 32), .ref (r 33), vL (g_h G)])]) [0] rfl rfl ?_
    refine j_if_eqb (pc := 136) C 144 rfl dX10_nextState_136 (fun h_16p136 => ?_) (fun h_16p136 => ?_)
    · skip
      refine j_iconst (pc := 144) C dX10_nextState_144 ?_
      exact Rt _ _ _ _ _ _ (by decide) (by decide) ⟨by unfold fitP; split <;> omega, by unfold gNX; first | (rw [if_pos (by omega), if_neg (by omega), if_neg (by omega)]; done) | (rw [if_neg (by omega), if_pos (by omega), if_neg (by omega)]; done) | (rw [if_neg (by omega), if_neg (by omega), if_pos (by omega)]; done) | (rw [if_neg (by omega), if_neg (by omega), if_neg (by omega)]; done)⟩ dX10_nextState_145
    · skip
      refine j_bipush (pc := 139) (w := 6) C rfl dX10_nextState_139 ?_
      refine j_goto (pc := 141) C 145 rfl dX10_nextState_141 ?_
      exact Rt _ _ _ _ _ _ (by decide) (by decide) ⟨by unfold fitP; split <;> omega, by unfold gNX; first | (rw [if_pos (by omega), if_neg (by omega), if_neg (by omega)]; done) | (rw [if_neg (by omega), if_pos (by omega), if_neg (by omega)]; done) | (rw [if_neg (by omega), if_neg (by omega), if_pos (by omega)]; done) | (rw [if_neg (by omega), if_neg (by omega), if_neg (by omega)]; done)⟩ dX10_nextState_145
  · refine j_tableD (pc := 1) C 146 (by omega) h_1p1 rfl dX10_nextState_1 ?_
    refine j_iconst (pc := 146) C dX10_nextState_146 ?_
    exact Rt _ _ _ _ _ _ (by decide) (by decide) ⟨by unfold fitP; split <;> omega, by unfold gNX; first | (rw [if_pos (by omega), if_neg (by omega), if_neg (by omega)]; done) | (rw [if_neg (by omega), if_pos (by omega), if_neg (by omega)]; done) | (rw [if_neg (by omega), if_neg (by omega), if_pos (by omega)]; done) | (rw [if_neg (by omega), if_neg (by omega), if_neg (by omega)]; done)⟩ dX10_nextState_147

theorem fX10_readCustom_X10 : ∀ w ∈ u_ws RX10 TX10 35, w ∈ wsX10_readCustom := j_words [19, 20, 21, 22, 23, 24, 25, 26, 27, 28, 29, 30, 31, 32, 33, 34, 35, 36, 37, 38, 39, 40, 41, 42, 43, 44, 45, 46, 47, 48, 49, 50, 51, 52, 53] (by decide +kernel)
set_option maxHeartbeats 500000 in
set_option maxRecDepth 100000 in
theorem m_readCustom (l : Launch) (D : va_G) (Y : Nat → ClassId) (RO : va_W) (h : Nat) (r : Nat → Nat) (S : MS) (G : GS) (pg : Int → Int) (pl : Int) (p0 : ((r 19), aI (Y 1) 16 pg) ∈ RO) (hp : okPg pg pl) (hple : g_pl G = pl) : jMv l yX10_readCustom wsX10_readCustom { frames := 3, cells := 0, slots := 0, locals := 64 } D Y RO [.ref h] [(h, oC 9 [.ref (r 0), .ref (r 1), vI (ms_w S), vI (ms_l S), vL (ms_s S), vI (ms_a S), vI (ms_t S), vI (ms_p S), vI (g_np G), .ref (r 9), .ref (r 10), .ref (r 11), .ref (r 12), .ref (r 13), vI (g_nc G), .ref (r 15), .ref (r 16), .ref (r 17), vI (g_pl G), .ref (r 19), vI (g_ik G), vL (g_ks G), .ref (r 22), vL (g_ss G), .ref (r 24), vI (g_fa G), vI (g_iw G), vI (g_nw G), vI (g_ns G), vI (g_ne G), .ref (r 30), .ref (r 31), .ref (r 32), .ref (r 33), vL (g_h G)])] (fun w1 => ∃ G1 : GS, gEq G G1 ∧ g_fa G1 = faultI pg pl ∧ g_iw G1 = (if cusP pg pl then 1 else 0) ∧ (cusP pg pl → g_nw G1 = cw (cusI pg pl) ∧ g_ns G1 = cz (cusI pg pl) ∧ g_ne G1 = ce (cusI pg pl)) ∧ w1 = [(h, oC 9 [.ref (r 0), .ref (r 1), vI (ms_w S), vI (ms_l S), vL (ms_s S), vI (ms_a S), vI (ms_t S), vI (ms_p S), vI (g_np G1), .ref (r 9), .ref (r 10), .ref (r 11), .ref (r 12), .ref (r 13), vI (g_nc G1), .ref (r 15), .ref (r 16), .ref (r 17), vI (g_pl G1), .ref (r 19), vI (g_ik G1), vL (g_ks G1), .ref (r 22), vL (g_ss G1), .ref (r 24), vI (g_fa G1), vI (g_iw G1), vI (g_nw G1), vI (g_ns G1), vI (g_ne G1), .ref (r 30), .ref (r 31), .ref (r 32), .ref (r 33), vL (g_h G1)])]) := by
  refine j_ofv RX10 rfl rfl rfl (Nat.le_of_ble_eq_true rfl) (fun X C Rt hI => ?_)
  have hpl := hp.1
  refine j_aload_n (pc := 0) C 0 0 rfl rfl dX10_readCustom_0 ?_
  refine j_iconst (pc := 1) C dX10_readCustom_1 ?_
  refine j_put (pc := 2) (ws' := [(h, oC 9 [.ref (r 0), .ref (r 1), vI (ms_w S), vI (ms_l S), vL (ms_s S), vI (ms_a S), vI (ms_t S), vI (ms_p S), vI (g_np G), .ref (r 9), .ref (r 10), .ref (r 11), .ref (r 12), .ref (r 13), vI (g_nc G), .ref (r 15), .ref (r 16), .ref (r 17), vI (g_pl G), .ref (r 19), vI (g_ik G), vL (g_ks G), .ref (r 22), vL (g_ss G), .ref (r 24), vI (g_fa G), vI (g_iw G), vI (g_nw G), vI (g_ns G), vI 0, .ref (r 30), .ref (r 31), .ref (r 32), .ref (r 33), vL (g_h G)])]) C 0 rfl rfl fX10_readCustom_X10 tyX10_ok nmX10 29 (by decide) (List.mem_of_getElem? (i := 1) rfl) (Or.inl rfl) rfl rfl rfl rfl (Nat.le_of_ble_eq_true rfl) rfl dX10_readCustom_2 ?_
  refine j_iconst (pc := 5) C dX10_readCustom_5 ?_
  refine j_istore_n (pc := 6) (lc' := [(1, vI 0), (0, .ref h)]) C 1 rfl (by decide) rfl dX10_readCustom_6 ?_
  refine j_iconst (pc := 7) C dX10_readCustom_7 ?_
  refine j_istore_n (pc := 8) (lc' := [(2, vI 0), (1, vI 0), (0, .ref h)]) C 2 rfl (by decide) rfl dX10_readCustom_8 ?_
  refine j_iconst (pc := 9) C dX10_readCustom_9 ?_
  refine j_istore_n (pc := 10) (lc' := [(3, vI 1), (2, vI 0), (1, vI 0), (0, .ref h)]) C 3 rfl (by decide) rfl dX10_readCustom_10 ?_
  have hL11 : ∀ (N11 : Nat) (q : Int) (k : Int) (b : Int) (G2 : GS), ((pl - k + b).toNat) < N11 → (0 ≤ k ∧ k ≤ pl ∧ k ≤ 6) → (q = k) → (fstI (fun i => ¬ fitP i (pg i)) k = -1) → (b = 1 ∨ (b = 0 ∧ k < pl ∧ ¬ fitQ k (pg k))) → (gEq G G2) → (rdP pg k b G2) → jW X 5 0 0 [(h, oC 9 [.ref (r 0), .ref (r 1), vI (ms_w S), vI (ms_l S), vL (ms_s S), vI (ms_a S), vI (ms_t S), vI (ms_p S), vI (g_np G2), .ref (r 9), .ref (r 10), .ref (r 11), .ref (r 12), .ref (r 13), vI (g_nc G2), .ref (r 15), .ref (r 16), .ref (r 17), vI (g_pl G2), .ref (r 19), vI (g_ik G2), vL (g_ks G2), .ref (r 22), vL (g_ss G2), .ref (r 24), vI (g_fa G2), vI (g_iw G2), vI (g_nw G2), vI (g_ns G2), vI (g_ne G2), .ref (r 30), .ref (r 31), .ref (r 32), .ref (r 33), vL (g_h G2)])] [(0, .ref h), (1, vI q), (2, vI k), (3, vI b)] 11 [] := by
    intro N11
    induction N11 with
    | zero => intro q k b G2 hm11 i11_0 i11_1 i11_2 i11_3 i11_4 i11_5; omega
    | succ N11 ih11 =>
      intro q k b G2 hm11 i11_0 i11_1 i11_2 i11_3 i11_4 i11_5
      have hgp : g_pl G2 = pl := i11_4.2.2.1.trans hple
      refine j_iload_n (pc := 11) C 2 2 rfl rfl dX10_readCustom_11 ?_
      refine j_aload_n (pc := 12) C 0 0 rfl rfl dX10_readCustom_12 ?_
      refine j_get (pc := 13) C (Or.inl (List.mem_of_getElem? (i := 0) rfl)) rfl fX10_readCustom_X10 18 (by decide) (List.mem_of_getElem? (i := 2) rfl) (Or.inl rfl) rfl dX10_readCustom_13 ?_
      refine j_icmp_ge (pc := 16) C 74 rfl (by omega) dX10_readCustom_16 (fun h_1p16 => ?_) (fun h_1p16 => ?_)
      · skip
        refine j_aload_n (pc := 74) C 0 0 rfl rfl dX10_readCustom_74 ?_
        refine j_iload_n (pc := 75) C 2 2 rfl rfl dX10_readCustom_75 ?_
        refine j_put (pc := 76) (ws' := [(h, oC 9 [.ref (r 0), .ref (r 1), vI (ms_w S), vI (ms_l S), vL (ms_s S), vI (ms_a S), vI (ms_t S), vI (ms_p S), vI (g_np G2), .ref (r 9), .ref (r 10), .ref (r 11), .ref (r 12), .ref (r 13), vI (g_nc G2), .ref (r 15), .ref (r 16), .ref (r 17), vI (g_pl G2), .ref (r 19), vI (g_ik G2), vL (g_ks G2), .ref (r 22), vL (g_ss G2), .ref (r 24), vI k, vI (g_iw G2), vI (g_nw G2), vI (g_ns G2), vI (g_ne G2), .ref (r 30), .ref (r 31), .ref (r 32), .ref (r 33), vL (g_h G2)])]) C 0 rfl rfl fX10_readCustom_X10 tyX10_ok nmX10 25 (by decide) (List.mem_of_getElem? (i := 4) rfl) (Or.inl rfl) rfl rfl rfl rfl (Nat.le_of_ble_eq_true rfl) rfl dX10_readCustom_76 ?_
        refine j_aload_n (pc := 79) C 0 0 rfl rfl dX10_readCustom_79 ?_
        refine j_iload_n (pc := 80) C 2 2 rfl rfl dX10_readCustom_80 ?_
        refine j_aload_n (pc := 81) C 0 0 rfl rfl dX10_readCustom_81 ?_
        refine j_get (pc := 82) C (Or.inl (List.mem_of_getElem? (i := 0) rfl)) rfl fX10_readCustom_X10 18 (by decide) (List.mem_of_getElem? (i := 2) rfl) (Or.inl rfl) rfl dX10_readCustom_82 ?_
        refine j_icmp_ne (pc := 85) C 103 rfl (by omega) dX10_readCustom_85 (fun h_2p85 => ?_) (fun h_2p85 => ?_)
        · skip
          refine j_iconst (pc := 103) C dX10_readCustom_103 ?_
          refine j_put (pc := 104) (ws' := [(h, oC 9 [.ref (r 0), .ref (r 1), vI (ms_w S), vI (ms_l S), vL (ms_s S), vI (ms_a S), vI (ms_t S), vI (ms_p S), vI (g_np G2), .ref (r 9), .ref (r 10), .ref (r 11), .ref (r 12), .ref (r 13), vI (g_nc G2), .ref (r 15), .ref (r 16), .ref (r 17), vI (g_pl G2), .ref (r 19), vI (g_ik G2), vL (g_ks G2), .ref (r 22), vL (g_ss G2), .ref (r 24), vI k, vI 0, vI (g_nw G2), vI (g_ns G2), vI (g_ne G2), .ref (r 30), .ref (r 31), .ref (r 32), .ref (r 33), vL (g_h G2)])]) C 0 rfl rfl fX10_readCustom_X10 tyX10_ok nmX10 26 (by decide) (List.mem_of_getElem? (i := 5) rfl) (Or.inl rfl) rfl rfl rfl rfl (Nat.le_of_ble_eq_true rfl) rfl dX10_readCustom_104 ?_
          have hfe : faultI pg pl = k := fault_eqQ (by omega) i11_2 i11_3 (by omega)
          have hre := fun hc => rd_end (pl := pl) i11_5 hfe (by omega) hc
          exact Rt _ _ _ _ _ (by decide) (by decide) ⟨(g_np G2, g_nc G2, g_pl G2, g_ik G2, g_ks G2, g_ss G2, k, 0, g_nw G2, g_ns G2, g_ne G2, g_h G2), i11_4, hfe.symm, cus_lit0 hfe (by omega), hre, rfl⟩ dX10_readCustom_107
        · skip
          refine j_iload_n (pc := 88) C 1 1 rfl rfl dX10_readCustom_88 ?_
          refine j_iconst (pc := 89) C dX10_readCustom_89 ?_
          refine j_icmp_eq (pc := 90) C 99 rfl (by omega) dX10_readCustom_90 (fun h_3p90 => ?_) (fun h_3p90 => ?_)
          · skip
            refine j_iconst (pc := 99) C dX10_readCustom_99 ?_
            refine j_goto (pc := 100) C 104 rfl dX10_readCustom_100 ?_
            refine j_put (pc := 104) (ws' := [(h, oC 9 [.ref (r 0), .ref (r 1), vI (ms_w S), vI (ms_l S), vL (ms_s S), vI (ms_a S), vI (ms_t S), vI (ms_p S), vI (g_np G2), .ref (r 9), .ref (r 10), .ref (r 11), .ref (r 12), .ref (r 13), vI (g_nc G2), .ref (r 15), .ref (r 16), .ref (r 17), vI (g_pl G2), .ref (r 19), vI (g_ik G2), vL (g_ks G2), .ref (r 22), vL (g_ss G2), .ref (r 24), vI k, vI 1, vI (g_nw G2), vI (g_ns G2), vI (g_ne G2), .ref (r 30), .ref (r 31), .ref (r 32), .ref (r 33), vL (g_h G2)])]) C 0 rfl rfl fX10_readCustom_X10 tyX10_ok nmX10 26 (by decide) (List.mem_of_getElem? (i := 5) rfl) (Or.inl rfl) rfl rfl rfl rfl (Nat.le_of_ble_eq_true rfl) rfl dX10_readCustom_104 ?_
            have hfe : faultI pg pl = k := fault_eqQ (by omega) i11_2 i11_3 (by omega)
            have hre := fun hc => rd_end (pl := pl) i11_5 hfe (by omega) hc
            exact Rt _ _ _ _ _ (by decide) (by decide) ⟨(g_np G2, g_nc G2, g_pl G2, g_ik G2, g_ks G2, g_ss G2, k, 1, g_nw G2, g_ns G2, g_ne G2, g_h G2), i11_4, hfe.symm, cus_lit1 hfe (by omega) (by omega), hre, rfl⟩ dX10_readCustom_107
          · skip
            refine j_iload_n (pc := 93) C 1 1 rfl rfl dX10_readCustom_93 ?_
            refine j_bipush (pc := 94) (w := 6) C rfl dX10_readCustom_94 ?_
            refine j_icmp_ne (pc := 96) C 103 rfl (by omega) dX10_readCustom_96 (fun h_4p96 => ?_) (fun h_4p96 => ?_)
            · skip
              refine j_iconst (pc := 103) C dX10_readCustom_103 ?_
              refine j_put (pc := 104) (ws' := [(h, oC 9 [.ref (r 0), .ref (r 1), vI (ms_w S), vI (ms_l S), vL (ms_s S), vI (ms_a S), vI (ms_t S), vI (ms_p S), vI (g_np G2), .ref (r 9), .ref (r 10), .ref (r 11), .ref (r 12), .ref (r 13), vI (g_nc G2), .ref (r 15), .ref (r 16), .ref (r 17), vI (g_pl G2), .ref (r 19), vI (g_ik G2), vL (g_ks G2), .ref (r 22), vL (g_ss G2), .ref (r 24), vI k, vI 0, vI (g_nw G2), vI (g_ns G2), vI (g_ne G2), .ref (r 30), .ref (r 31), .ref (r 32), .ref (r 33), vL (g_h G2)])]) C 0 rfl rfl fX10_readCustom_X10 tyX10_ok nmX10 26 (by decide) (List.mem_of_getElem? (i := 5) rfl) (Or.inl rfl) rfl rfl rfl rfl (Nat.le_of_ble_eq_true rfl) rfl dX10_readCustom_104 ?_
              have hfe : faultI pg pl = k := fault_eqQ (by omega) i11_2 i11_3 (by omega)
              have hre := fun hc => rd_end (pl := pl) i11_5 hfe (by omega) hc
              exact Rt _ _ _ _ _ (by decide) (by decide) ⟨(g_np G2, g_nc G2, g_pl G2, g_ik G2, g_ks G2, g_ss G2, k, 0, g_nw G2, g_ns G2, g_ne G2, g_h G2), i11_4, hfe.symm, cus_lit0 hfe (by omega), hre, rfl⟩ dX10_readCustom_107
            · skip
              refine j_iconst (pc := 99) C dX10_readCustom_99 ?_
              refine j_goto (pc := 100) C 104 rfl dX10_readCustom_100 ?_
              refine j_put (pc := 104) (ws' := [(h, oC 9 [.ref (r 0), .ref (r 1), vI (ms_w S), vI (ms_l S), vL (ms_s S), vI (ms_a S), vI (ms_t S), vI (ms_p S), vI (g_np G2), .ref (r 9), .ref (r 10), .ref (r 11), .ref (r 12), .ref (r 13), vI (g_nc G2), .ref (r 15), .ref (r 16), .ref (r 17), vI (g_pl G2), .ref (r 19), vI (g_ik G2), vL (g_ks G2), .ref (r 22), vL (g_ss G2), .ref (r 24), vI k, vI 1, vI (g_nw G2), vI (g_ns G2), vI (g_ne G2), .ref (r 30), .ref (r 31), .ref (r 32), .ref (r 33), vL (g_h G2)])]) C 0 rfl rfl fX10_readCustom_X10 tyX10_ok nmX10 26 (by decide) (List.mem_of_getElem? (i := 5) rfl) (Or.inl rfl) rfl rfl rfl rfl (Nat.le_of_ble_eq_true rfl) rfl dX10_readCustom_104 ?_
              have hfe : faultI pg pl = k := fault_eqQ (by omega) i11_2 i11_3 (by omega)
              have hre := fun hc => rd_end (pl := pl) i11_5 hfe (by omega) hc
              exact Rt _ _ _ _ _ (by decide) (by decide) ⟨(g_np G2, g_nc G2, g_pl G2, g_ik G2, g_ks G2, g_ss G2, k, 1, g_nw G2, g_ns G2, g_ne G2, g_h G2), i11_4, hfe.symm, cus_lit1 hfe (by omega) (by omega), hre, rfl⟩ dX10_readCustom_107
      · skip
        refine j_iload_n (pc := 19) C 3 3 rfl rfl dX10_readCustom_19 ?_
        refine j_if_eq (pc := 20) C 74 rfl (by omega) dX10_readCustom_20 (fun h_5p20 => ?_) (fun h_5p20 => ?_)
        · skip
          refine j_aload_n (pc := 74) C 0 0 rfl rfl dX10_readCustom_74 ?_
          refine j_iload_n (pc := 75) C 2 2 rfl rfl dX10_readCustom_75 ?_
          refine j_put (pc := 76) (ws' := [(h, oC 9 [.ref (r 0), .ref (r 1), vI (ms_w S), vI (ms_l S), vL (ms_s S), vI (ms_a S), vI (ms_t S), vI (ms_p S), vI (g_np G2), .ref (r 9), .ref (r 10), .ref (r 11), .ref (r 12), .ref (r 13), vI (g_nc G2), .ref (r 15), .ref (r 16), .ref (r 17), vI (g_pl G2), .ref (r 19), vI (g_ik G2), vL (g_ks G2), .ref (r 22), vL (g_ss G2), .ref (r 24), vI k, vI (g_iw G2), vI (g_nw G2), vI (g_ns G2), vI (g_ne G2), .ref (r 30), .ref (r 31), .ref (r 32), .ref (r 33), vL (g_h G2)])]) C 0 rfl rfl fX10_readCustom_X10 tyX10_ok nmX10 25 (by decide) (List.mem_of_getElem? (i := 4) rfl) (Or.inl rfl) rfl rfl rfl rfl (Nat.le_of_ble_eq_true rfl) rfl dX10_readCustom_76 ?_
          refine j_aload_n (pc := 79) C 0 0 rfl rfl dX10_readCustom_79 ?_
          refine j_iload_n (pc := 80) C 2 2 rfl rfl dX10_readCustom_80 ?_
          refine j_aload_n (pc := 81) C 0 0 rfl rfl dX10_readCustom_81 ?_
          refine j_get (pc := 82) C (Or.inl (List.mem_of_getElem? (i := 0) rfl)) rfl fX10_readCustom_X10 18 (by decide) (List.mem_of_getElem? (i := 2) rfl) (Or.inl rfl) rfl dX10_readCustom_82 ?_
          refine j_icmp_ne (pc := 85) C 103 rfl (by omega) dX10_readCustom_85 (fun h_6p85 => ?_) (fun h_6p85 => ?_)
          · skip
            refine j_iconst (pc := 103) C dX10_readCustom_103 ?_
            refine j_put (pc := 104) (ws' := [(h, oC 9 [.ref (r 0), .ref (r 1), vI (ms_w S), vI (ms_l S), vL (ms_s S), vI (ms_a S), vI (ms_t S), vI (ms_p S), vI (g_np G2), .ref (r 9), .ref (r 10), .ref (r 11), .ref (r 12), .ref (r 13), vI (g_nc G2), .ref (r 15), .ref (r 16), .ref (r 17), vI (g_pl G2), .ref (r 19), vI (g_ik G2), vL (g_ks G2), .ref (r 22), vL (g_ss G2), .ref (r 24), vI k, vI 0, vI (g_nw G2), vI (g_ns G2), vI (g_ne G2), .ref (r 30), .ref (r 31), .ref (r 32), .ref (r 33), vL (g_h G2)])]) C 0 rfl rfl fX10_readCustom_X10 tyX10_ok nmX10 26 (by decide) (List.mem_of_getElem? (i := 5) rfl) (Or.inl rfl) rfl rfl rfl rfl (Nat.le_of_ble_eq_true rfl) rfl dX10_readCustom_104 ?_
            have hfe : faultI pg pl = k := fault_eqQ (by omega) i11_2 i11_3 (by omega)
            have hre := fun hc => rd_end (pl := pl) i11_5 hfe (by omega) hc
            exact Rt _ _ _ _ _ (by decide) (by decide) ⟨(g_np G2, g_nc G2, g_pl G2, g_ik G2, g_ks G2, g_ss G2, k, 0, g_nw G2, g_ns G2, g_ne G2, g_h G2), i11_4, hfe.symm, cus_lit0 hfe (by omega), hre, rfl⟩ dX10_readCustom_107
          · skip
            refine j_iload_n (pc := 88) C 1 1 rfl rfl dX10_readCustom_88 ?_
            refine j_iconst (pc := 89) C dX10_readCustom_89 ?_
            refine j_icmp_eq (pc := 90) C 99 rfl (by omega) dX10_readCustom_90 (fun h_7p90 => ?_) (fun h_7p90 => ?_)
            · skip
              refine j_iconst (pc := 99) C dX10_readCustom_99 ?_
              refine j_goto (pc := 100) C 104 rfl dX10_readCustom_100 ?_
              refine j_put (pc := 104) (ws' := [(h, oC 9 [.ref (r 0), .ref (r 1), vI (ms_w S), vI (ms_l S), vL (ms_s S), vI (ms_a S), vI (ms_t S), vI (ms_p S), vI (g_np G2), .ref (r 9), .ref (r 10), .ref (r 11), .ref (r 12), .ref (r 13), vI (g_nc G2), .ref (r 15), .ref (r 16), .ref (r 17), vI (g_pl G2), .ref (r 19), vI (g_ik G2), vL (g_ks G2), .ref (r 22), vL (g_ss G2), .ref (r 24), vI k, vI 1, vI (g_nw G2), vI (g_ns G2), vI (g_ne G2), .ref (r 30), .ref (r 31), .ref (r 32), .ref (r 33), vL (g_h G2)])]) C 0 rfl rfl fX10_readCustom_X10 tyX10_ok nmX10 26 (by decide) (List.mem_of_getElem? (i := 5) rfl) (Or.inl rfl) rfl rfl rfl rfl (Nat.le_of_ble_eq_true rfl) rfl dX10_readCustom_104 ?_
              have hfe : faultI pg pl = k := fault_eqQ (by omega) i11_2 i11_3 (by omega)
              have hre := fun hc => rd_end (pl := pl) i11_5 hfe (by omega) hc
              exact Rt _ _ _ _ _ (by decide) (by decide) ⟨(g_np G2, g_nc G2, g_pl G2, g_ik G2, g_ks G2, g_ss G2, k, 1, g_nw G2, g_ns G2, g_ne G2, g_h G2), i11_4, hfe.symm, cus_lit1 hfe (by omega) (by omega), hre, rfl⟩ dX10_readCustom_107
            · skip
              refine j_iload_n (pc := 93) C 1 1 rfl rfl dX10_readCustom_93 ?_
              refine j_bipush (pc := 94) (w := 6) C rfl dX10_readCustom_94 ?_
              refine j_icmp_ne (pc := 96) C 103 rfl (by omega) dX10_readCustom_96 (fun h_8p96 => ?_) (fun h_8p96 => ?_)
              · skip
                refine j_iconst (pc := 103) C dX10_readCustom_103 ?_
                refine j_put (pc := 104) (ws' := [(h, oC 9 [.ref (r 0), .ref (r 1), vI (ms_w S), vI (ms_l S), vL (ms_s S), vI (ms_a S), vI (ms_t S), vI (ms_p S), vI (g_np G2), .ref (r 9), .ref (r 10), .ref (r 11), .ref (r 12), .ref (r 13), vI (g_nc G2), .ref (r 15), .ref (r 16), .ref (r 17), vI (g_pl G2), .ref (r 19), vI (g_ik G2), vL (g_ks G2), .ref (r 22), vL (g_ss G2), .ref (r 24), vI k, vI 0, vI (g_nw G2), vI (g_ns G2), vI (g_ne G2), .ref (r 30), .ref (r 31), .ref (r 32), .ref (r 33), vL (g_h G2)])]) C 0 rfl rfl fX10_readCustom_X10 tyX10_ok nmX10 26 (by decide) (List.mem_of_getElem? (i := 5) rfl) (Or.inl rfl) rfl rfl rfl rfl (Nat.le_of_ble_eq_true rfl) rfl dX10_readCustom_104 ?_
                have hfe : faultI pg pl = k := fault_eqQ (by omega) i11_2 i11_3 (by omega)
                have hre := fun hc => rd_end (pl := pl) i11_5 hfe (by omega) hc
                exact Rt _ _ _ _ _ (by decide) (by decide) ⟨(g_np G2, g_nc G2, g_pl G2, g_ik G2, g_ks G2, g_ss G2, k, 0, g_nw G2, g_ns G2, g_ne G2, g_h G2), i11_4, hfe.symm, cus_lit0 hfe (by omega), hre, rfl⟩ dX10_readCustom_107
              · skip
                refine j_iconst (pc := 99) C dX10_readCustom_99 ?_
                refine j_goto (pc := 100) C 104 rfl dX10_readCustom_100 ?_
                refine j_put (pc := 104) (ws' := [(h, oC 9 [.ref (r 0), .ref (r 1), vI (ms_w S), vI (ms_l S), vL (ms_s S), vI (ms_a S), vI (ms_t S), vI (ms_p S), vI (g_np G2), .ref (r 9), .ref (r 10), .ref (r 11), .ref (r 12), .ref (r 13), vI (g_nc G2), .ref (r 15), .ref (r 16), .ref (r 17), vI (g_pl G2), .ref (r 19), vI (g_ik G2), vL (g_ks G2), .ref (r 22), vL (g_ss G2), .ref (r 24), vI k, vI 1, vI (g_nw G2), vI (g_ns G2), vI (g_ne G2), .ref (r 30), .ref (r 31), .ref (r 32), .ref (r 33), vL (g_h G2)])]) C 0 rfl rfl fX10_readCustom_X10 tyX10_ok nmX10 26 (by decide) (List.mem_of_getElem? (i := 5) rfl) (Or.inl rfl) rfl rfl rfl rfl (Nat.le_of_ble_eq_true rfl) rfl dX10_readCustom_104 ?_
                have hfe : faultI pg pl = k := fault_eqQ (by omega) i11_2 i11_3 (by omega)
                have hre := fun hc => rd_end (pl := pl) i11_5 hfe (by omega) hc
                exact Rt _ _ _ _ _ (by decide) (by decide) ⟨(g_np G2, g_nc G2, g_pl G2, g_ik G2, g_ks G2, g_ss G2, k, 1, g_nw G2, g_ns G2, g_ne G2, g_h G2), i11_4, hfe.symm, cus_lit1 hfe (by omega) (by omega), hre, rfl⟩ dX10_readCustom_107
        · skip
          refine j_aload_n (pc := 23) C 0 0 rfl rfl dX10_readCustom_23 ?_
          refine j_iload_n (pc := 24) C 1 1 rfl rfl dX10_readCustom_24 ?_
          refine j_aload_n (pc := 25) C 0 0 rfl rfl dX10_readCustom_25 ?_
          have hb1 : b = 1 := by omega
          have h15 : rdP pg k 1 G2 := hb1 ▸ i11_5
          have hpk := hp.2 k (by omega) (by omega)
          refine j_get (pc := 26) C (Or.inl (List.mem_of_getElem? (i := 0) rfl)) rfl fX10_readCustom_X10 19 (by decide) (List.mem_of_getElem? (i := 3) rfl) (Or.inl rfl) rfl dX10_readCustom_26 ?_
          refine j_iload_n (pc := 29) C 2 2 rfl rfl dX10_readCustom_29 ?_
          refine j_bald (pc := 30) C (Or.inr p0) rfl (by omega) (by decide) dX10_readCustom_30 ?_
          refine j_callVi (pc := 31) (As := [vI q, vI (pg k)]) (na := 2) (st := []) C [0] [] (wr := []) (fun l => m_nextState l D Y _ h r S G2 q (pg k) (by first | assumption | omega) (by first | assumption | omega)) rfl rfl rfl rfl (by decide) rfl (Or.inl (List.mem_of_getElem? (i := 0) rfl)) rfl gX10_readCustom_X10_nextState ⟨rfl, by decide +kernel⟩ (by decide) rfl rfl (Nat.le_of_ble_eq_true rfl) (by decide) dX10_readCustom_31 (fun e_9 w_10 h_11 => ?_)
          obtain ⟨rfl, rfl⟩ := h_11
          refine j_perm (ws' := [(h, oC 9 [.ref (r 0), .ref (r 1), vI (ms_w S), vI (ms_l S), vL (ms_s S), vI (ms_a S), vI (ms_t S), vI (ms_p S), vI (g_np (gNX q (pg k) G2)), .ref (r 9), .ref (r 10), .ref (r 11), .ref (r 12), .ref (r 13), vI (g_nc (gNX q (pg k) G2)), .ref (r 15), .ref (r 16), .ref (r 17), vI (g_pl (gNX q (pg k) G2)), .ref (r 19), vI (g_ik (gNX q (pg k) G2)), vL (g_ks (gNX q (pg k) G2)), .ref (r 22), vL (g_ss (gNX q (pg k) G2)), .ref (r 24), vI (g_fa (gNX q (pg k) G2)), vI (g_iw (gNX q (pg k) G2)), vI (g_nw (gNX q (pg k) G2)), vI (g_ns (gNX q (pg k) G2)), vI (g_ne (gNX q (pg k) G2)), .ref (r 30), .ref (r 31), .ref (r 32), .ref (r 33), vL (g_h (gNX q (pg k) G2))])]) [0] rfl rfl ?_
          refine j_istore (pc := 34) (lc' := [(4, vI (if fitP q (pg k) then q + 1 else -1)), (0, .ref h), (1, vI q), (2, vI k), (3, vI b)]) C (by decide) rfl dX10_readCustom_34 ?_
          refine j_iload (pc := 36) C 0 rfl dX10_readCustom_36 ?_
          refine j_iconst (pc := 38) C dX10_readCustom_38 ?_
          refine j_icmp_eq (pc := 39) C 46 rfl (ite_rng (by omega)) dX10_readCustom_39 (fun h_12p39 => ?_) (fun h_12p39 => ?_)
          · skip
            have hf : ¬ fitQ k (pg k) := fitQ_not i11_1 i11_0.1 h_12p39
            clear h_12p39
            refine j_iconst (pc := 46) C dX10_readCustom_46 ?_
            refine j_istore_n (pc := 47) (lc' := [(3, vI 0), (4, vI (if fitP q (pg k) then q + 1 else -1)), (0, .ref h), (1, vI q), (2, vI k)]) C 3 rfl (by decide) rfl dX10_readCustom_47 ?_
            refine j_iload_n (pc := 48) C 3 0 rfl rfl dX10_readCustom_48 ?_
            refine j_if_eq (pc := 49) C 57 rfl (by omega) dX10_readCustom_49 (fun _ => ?_) (fun h_13 => absurd h_13 (by decide))
            refine j_iload_n (pc := 57) C 1 3 rfl rfl dX10_readCustom_57 ?_
            refine j_istore_n (pc := 58) (lc' := [(1, vI q), (3, vI 0), (4, vI (if fitP q (pg k) then q + 1 else -1)), (0, .ref h), (2, vI k)]) C 1 rfl (by decide) rfl dX10_readCustom_58 ?_
            refine j_iload_n (pc := 59) C 2 4 rfl rfl dX10_readCustom_59 ?_
            refine j_iload_n (pc := 60) C 3 1 rfl rfl dX10_readCustom_60 ?_
            refine j_if_eq (pc := 61) C 68 rfl (by omega) dX10_readCustom_61 (fun _ => ?_) (fun h_14 => absurd h_14 (by decide))
            refine j_iconst (pc := 68) C dX10_readCustom_68 ?_
            refine j_iadd (pc := 69) C dX10_readCustom_69 ?_
            rw [Int.add_zero]
            refine j_istore_n (pc := 70) (lc' := [(2, vI k), (1, vI q), (3, vI 0), (4, vI (if fitP q (pg k) then q + 1 else -1)), (0, .ref h)]) C 2 rfl (by decide) rfl dX10_readCustom_70 ?_
            refine j_goto (pc := 71) C 11 rfl dX10_readCustom_71 ?_
            refine j_locals (lc' := [(0, .ref h), (1, vI q), (2, vI k), (3, vI 0)]) [4, 1, 0, 2] rfl ?_
            exact ih11 q k 0 (gNX q (pg k) G2) (by omega) (by omega) i11_1 i11_2 (Or.inr ⟨rfl, by omega, hf⟩) (i11_4.tr (gEq.nx _ _ _)) (rd_bad i11_1 h15 (by omega))
          · skip
            have hf : fitQ k (pg k) := fitQ_of i11_1 h_12p39
            clear h_12p39
            have hfl := fit_le hf
            refine j_iconst (pc := 42) C dX10_readCustom_42 ?_
            refine j_goto (pc := 43) C 47 rfl dX10_readCustom_43 ?_
            refine j_istore_n (pc := 47) (lc' := [(3, vI 1), (4, vI (if fitP q (pg k) then q + 1 else -1)), (0, .ref h), (1, vI q), (2, vI k)]) C 3 rfl (by decide) rfl dX10_readCustom_47 ?_
            refine j_iload_n (pc := 48) C 3 0 rfl rfl dX10_readCustom_48 ?_
            refine j_if_eq (pc := 49) C 57 rfl (by omega) dX10_readCustom_49 (fun h_15 => absurd h_15 (by decide)) (fun _ => ?_)
            refine j_iload (pc := 52) C 1 rfl dX10_readCustom_52 ?_
            refine j_goto (pc := 54) C 58 rfl dX10_readCustom_54 ?_
            refine j_istore_n (pc := 58) (lc' := [(1, vI (if fitP q (pg k) then q + 1 else -1)), (3, vI 1), (4, vI (if fitP q (pg k) then q + 1 else -1)), (0, .ref h), (2, vI k)]) C 1 rfl (by decide) rfl dX10_readCustom_58 ?_
            refine j_iload_n (pc := 59) C 2 4 rfl rfl dX10_readCustom_59 ?_
            refine j_iload_n (pc := 60) C 3 1 rfl rfl dX10_readCustom_60 ?_
            refine j_if_eq (pc := 61) C 68 rfl (by omega) dX10_readCustom_61 (fun h_16 => absurd h_16 (by decide)) (fun _ => ?_)
            refine j_iconst (pc := 64) C dX10_readCustom_64 ?_
            refine j_goto (pc := 65) C 69 rfl dX10_readCustom_65 ?_
            refine j_iadd (pc := 69) C dX10_readCustom_69 ?_
            refine j_istore_n (pc := 70) (lc' := [(2, vI (k + 1)), (1, vI (if fitP q (pg k) then q + 1 else -1)), (3, vI 1), (4, vI (if fitP q (pg k) then q + 1 else -1)), (0, .ref h)]) C 2 rfl (by decide) rfl dX10_readCustom_70 ?_
            refine j_goto (pc := 71) C 11 rfl dX10_readCustom_71 ?_
            refine j_locals (lc' := [(0, .ref h), (1, vI (if fitP q (pg k) then q + 1 else -1)), (2, vI (k + 1)), (3, vI 1)]) [4, 1, 0, 2] rfl ?_
            exact ih11 (if fitP q (pg k) then q + 1 else -1) (k + 1) 1 (gNX q (pg k) G2) (by omega) (by omega) (by rw [i11_1]; exact if_pos hf) (fst_step (P := (fun i => ¬ fitP i (pg i))) (by omega) i11_2 (not_not_intro hf)) (Or.inl rfl) (i11_4.tr (gEq.nx _ _ _)) (rd_step i11_1 h15 hfl)
  refine j_locals (lc' := [(0, .ref h), (1, vI 0), (2, vI 0), (3, vI 1)]) [3, 2, 1, 0] rfl ?_
  exact hL11 _ 0 0 1 (g_np G, g_nc G, g_pl G, g_ik G, g_ks G, g_ss G, g_fa G, g_iw G, g_nw G, g_ns G, 0, g_h G) (Nat.lt_succ_self _) (by omega) rfl rfl (Or.inl rfl) (gEq.rf G) ⟨fun z => by omega, fun z => by omega, fun _ _ => rfl, fun z => by omega⟩

theorem fX10_fault_X10 : ∀ w ∈ u_ws RX10 TX10 35, w ∈ wsX10_fault := j_words [23, 24, 25, 26, 27, 28, 29, 30, 31, 32, 33, 34, 35, 36, 37, 38, 39, 40, 41, 42, 43, 44, 45, 46, 47, 48, 49, 50, 51, 52, 53, 54, 55, 56, 57] (by decide +kernel)
set_option maxHeartbeats 4000000 in
set_option maxRecDepth 100000 in
theorem m_fault (l : Launch) (D : va_G) (Y : Nat → ClassId) (RO : va_W) (h : Nat) (r : Nat → Nat) (S : MS) (G : GS) (pg : Int → Int) (p0 : ((r 19), aI (Y 1) 16 pg) ∈ RO) (hp : okPg pg (g_pl G)) : jMi l yX10_fault wsX10_fault { frames := 4, cells := 0, slots := 0, locals := 88 } D Y RO [.ref h] [(h, oC 9 [.ref (r 0), .ref (r 1), vI (ms_w S), vI (ms_l S), vL (ms_s S), vI (ms_a S), vI (ms_t S), vI (ms_p S), vI (g_np G), .ref (r 9), .ref (r 10), .ref (r 11), .ref (r 12), .ref (r 13), vI (g_nc G), .ref (r 15), .ref (r 16), .ref (r 17), vI (g_pl G), .ref (r 19), vI (g_ik G), vL (g_ks G), .ref (r 22), vL (g_ss G), .ref (r 24), vI (g_fa G), vI (g_iw G), vI (g_nw G), vI (g_ns G), vI (g_ne G), .ref (r 30), .ref (r 31), .ref (r 32), .ref (r 33), vL (g_h G)])] (fun e w1 => e = faultI pg (g_pl G) ∧ ∃ G1 : GS, gEq G G1 ∧ w1 = [(h, oC 9 [.ref (r 0), .ref (r 1), vI (ms_w S), vI (ms_l S), vL (ms_s S), vI (ms_a S), vI (ms_t S), vI (ms_p S), vI (g_np G1), .ref (r 9), .ref (r 10), .ref (r 11), .ref (r 12), .ref (r 13), vI (g_nc G1), .ref (r 15), .ref (r 16), .ref (r 17), vI (g_pl G1), .ref (r 19), vI (g_ik G1), vL (g_ks G1), .ref (r 22), vL (g_ss G1), .ref (r 24), vI (g_fa G1), vI (g_iw G1), vI (g_nw G1), vI (g_ns G1), vI (g_ne G1), .ref (r 30), .ref (r 31), .ref (r 32), .ref (r 33), vL (g_h G1)])]) := by
  refine j_ofi RX10 rfl rfl rfl (Nat.le_of_ble_eq_true rfl) (fun X C Rt => ?_)
  refine j_aload_n (pc := 0) C 0 0 rfl rfl dX10_fault_0 ?_
  refine j_callVv (pc := 1) (As := []) (na := 0) (st := []) C [0] [] (wr := []) (fun l => m_readCustom l D Y _ h r S G pg (g_pl G) (List.mem_append_right _ p0) (by first | assumption | omega) rfl) rfl rfl rfl rfl (by decide) rfl (Or.inl (List.mem_of_getElem? (i := 0) rfl)) rfl gX10_fault_X10_readCustom ⟨rfl, by decide +kernel⟩ (by decide) rfl rfl (Nat.le_of_ble_eq_true rfl) (by decide) dX10_fault_1 (fun w_2 h_3 => ?_)
  obtain ⟨G1_4, gG1_4, faG1_4, iwG1_4, nwG1_4, rfl⟩ := h_3
  refine j_perm (ws' := [(h, oC 9 [.ref (r 0), .ref (r 1), vI (ms_w S), vI (ms_l S), vL (ms_s S), vI (ms_a S), vI (ms_t S), vI (ms_p S), vI (g_np G1_4), .ref (r 9), .ref (r 10), .ref (r 11), .ref (r 12), .ref (r 13), vI (g_nc G1_4), .ref (r 15), .ref (r 16), .ref (r 17), vI (g_pl G1_4), .ref (r 19), vI (g_ik G1_4), vL (g_ks G1_4), .ref (r 22), vL (g_ss G1_4), .ref (r 24), vI (g_fa G1_4), vI (g_iw G1_4), vI (g_nw G1_4), vI (g_ns G1_4), vI (g_ne G1_4), .ref (r 30), .ref (r 31), .ref (r 32), .ref (r 33), vL (g_h G1_4)])]) [0] rfl rfl ?_
  refine j_aload_n (pc := 4) C 0 0 rfl rfl dX10_fault_4 ?_
  refine j_get (pc := 5) C (Or.inl (List.mem_of_getElem? (i := 0) rfl)) rfl fX10_fault_X10 25 (by decide) (List.mem_of_getElem? (i := 1) rfl) (Or.inl rfl) rfl dX10_fault_5 ?_
  exact Rt _ _ _ _ _ _ (by decide) (by decide) ⟨faG1_4, _, gG1_4, rfl⟩ dX10_fault_8

theorem fX10_blank_X10 : ∀ w ∈ u_ws RX10 TX10 35, w ∈ wsX10_blank := j_words [2, 3, 4, 5, 6, 7, 8, 9, 10, 11, 12, 13, 14, 15, 16, 17, 18, 19, 20, 21, 22, 23, 24, 25, 26, 27, 28, 29, 30, 31, 32, 33, 34, 35, 36] (by decide +kernel)
set_option maxHeartbeats 4000000 in
set_option maxRecDepth 100000 in
theorem m_blank (l : Launch) (D : va_G) (Y : Nat → ClassId) (RO : va_W) (h : Nat) (r : Nat → Nat) (S : MS) (G : GS)   : jMi l yX10_blank wsX10_blank { frames := 0, cells := 0, slots := 0, locals := 0 } D Y RO [.ref h] [(h, oC 9 [.ref (r 0), .ref (r 1), vI (ms_w S), vI (ms_l S), vL (ms_s S), vI (ms_a S), vI (ms_t S), vI (ms_p S), vI (g_np G), .ref (r 9), .ref (r 10), .ref (r 11), .ref (r 12), .ref (r 13), vI (g_nc G), .ref (r 15), .ref (r 16), .ref (r 17), vI (g_pl G), .ref (r 19), vI (g_ik G), vL (g_ks G), .ref (r 22), vL (g_ss G), .ref (r 24), vI (g_fa G), vI (g_iw G), vI (g_nw G), vI (g_ns G), vI (g_ne G), .ref (r 30), .ref (r 31), .ref (r 32), .ref (r 33), vL (g_h G)])] (fun e w1 => e = g_pl G ∧ w1 = [(h, oC 9 [.ref (r 0), .ref (r 1), vI (ms_w S), vI (ms_l S), vL (ms_s S), vI (ms_a S), vI (ms_t S), vI (ms_p S), vI (g_np (gPL G 0)), .ref (r 9), .ref (r 10), .ref (r 11), .ref (r 12), .ref (r 13), vI (g_nc (gPL G 0)), .ref (r 15), .ref (r 16), .ref (r 17), vI (g_pl (gPL G 0)), .ref (r 19), vI (g_ik (gPL G 0)), vL (g_ks (gPL G 0)), .ref (r 22), vL (g_ss (gPL G 0)), .ref (r 24), vI (g_fa (gPL G 0)), vI (g_iw (gPL G 0)), vI (g_nw (gPL G 0)), vI (g_ns (gPL G 0)), vI (g_ne (gPL G 0)), .ref (r 30), .ref (r 31), .ref (r 32), .ref (r 33), vL (g_h (gPL G 0))])]) := by
  refine j_ofi RX10 rfl rfl rfl (Nat.le_of_ble_eq_true rfl) (fun X C Rt => ?_)
  refine j_aload_n (pc := 0) C 0 0 rfl rfl dX10_blank_0 ?_
  refine j_get (pc := 1) C (Or.inl (List.mem_of_getElem? (i := 0) rfl)) rfl fX10_blank_X10 18 (by decide) (List.mem_of_getElem? (i := 1) rfl) (Or.inl rfl) rfl dX10_blank_1 ?_
  refine j_istore_n (pc := 4) (lc' := [(1, vI (g_pl G)), (0, .ref h)]) C 1 rfl (by decide) rfl dX10_blank_4 ?_
  refine j_aload_n (pc := 5) C 0 1 rfl rfl dX10_blank_5 ?_
  refine j_iconst (pc := 6) C dX10_blank_6 ?_
  refine j_put (pc := 7) (ws' := [(h, oC 9 [.ref (r 0), .ref (r 1), vI (ms_w S), vI (ms_l S), vL (ms_s S), vI (ms_a S), vI (ms_t S), vI (ms_p S), vI (g_np G), .ref (r 9), .ref (r 10), .ref (r 11), .ref (r 12), .ref (r 13), vI (g_nc G), .ref (r 15), .ref (r 16), .ref (r 17), vI 0, .ref (r 19), vI (g_ik G), vL (g_ks G), .ref (r 22), vL (g_ss G), .ref (r 24), vI (g_fa G), vI (g_iw G), vI (g_nw G), vI (g_ns G), vI (g_ne G), .ref (r 30), .ref (r 31), .ref (r 32), .ref (r 33), vL (g_h G)])]) C 0 rfl rfl fX10_blank_X10 tyX10_ok nmX10 18 (by decide) (List.mem_of_getElem? (i := 1) rfl) (Or.inl rfl) rfl rfl rfl rfl (Nat.le_of_ble_eq_true rfl) rfl dX10_blank_7 ?_
  refine j_iload_n (pc := 10) C 1 0 rfl rfl dX10_blank_10 ?_
  exact Rt _ _ _ _ _ _ (by decide) (by decide) ⟨rfl, rfl⟩ dX10_blank_11

set_option maxHeartbeats 4000000 in
set_option maxRecDepth 100000 in
theorem m_customTold (l : Launch) (D : va_G) (Y : Nat → ClassId) (RO : va_W) (h : Nat) (r : Nat → Nat) (S : MS) (G : GS) (cs : Int → CT) (cu : Int) (w : Int) (r0 : (h, oC 9 [.ref (r 0), .ref (r 1), vI (ms_w S), vI (ms_l S), vL (ms_s S), vI (ms_a S), vI (ms_t S), vI (ms_p S), vI (g_np G), .ref (r 9), .ref (r 10), .ref (r 11), .ref (r 12), .ref (r 13), vI (g_nc G), .ref (r 15), .ref (r 16), .ref (r 17), vI (g_pl G), .ref (r 19), vI (g_ik G), vL (g_ks G), .ref (r 22), vL (g_ss G), .ref (r 24), vI (g_fa G), vI (g_iw G), vI (g_nw G), vI (g_ns G), vI (g_ne G), .ref (r 30), .ref (r 31), .ref (r 32), .ref (r 33), vL (g_h G)]) ∈ RO) (q0 : ((r 15), aI (Y 0) 4 (cwof cs)) ∈ RO) (q1 : ((r 16), aI (Y 0) 4 (czof cs)) ∈ RO) (q2 : ((r 17), aI (Y 0) 4 (ceof cs)) ∈ RO) (hnc : 0 ≤ g_nc G ∧ g_nc G ≤ 4) (hcu : -2147483648 ≤ cu ∧ cu ≤ 2147483647) (hw : -2147483648 ≤ w ∧ w ≤ 2147483647) : jMi l yX10_customTold wsX10_customTold { frames := 2, cells := 0, slots := 0, locals := 43 } D Y RO [.ref h, vI cu, vI w] [] (fun e w1 => e = rCusTold cu w (g_nc G) cs ∧ w1 = []) := by
  refine j_ofi RX10 rfl rfl rfl (Nat.le_of_ble_eq_true rfl) (fun X C Rt => ?_)
  refine j_aload_n (pc := 0) C 0 0 rfl rfl dX10_customTold_0 ?_
  refine j_iload_n (pc := 1) C 1 1 rfl rfl dX10_customTold_1 ?_
  refine j_callVi (pc := 2) (As := [vI cu]) (na := 1) (st := []) C [] [] (wr := []) (fun l => m_isCustom l D Y _ h r S G cu (List.mem_append_right _ r0) (by first | assumption | omega) (by first | assumption | omega)) rfl rfl rfl rfl (by decide) rfl (Or.inr (List.mem_append_right _ r0)) rfl gX10_customTold_X10_isCustom ⟨rfl, by decide +kernel⟩ (by decide) rfl rfl (Nat.le_of_ble_eq_true rfl) (by decide) dX10_customTold_2 (fun e_1 w_2 h_3 => ?_)
  obtain ⟨rfl, rfl⟩ := h_3
  refine j_perm (ws' := []) [] rfl rfl ?_
  refine j_if_neb (pc := 5) C 13 rfl dX10_customTold_5 (fun h_4p5 => ?_) (fun h_4p5 => ?_)
  · skip
    refine j_iload_n (pc := 13) C 2 2 rfl rfl dX10_customTold_13 ?_
    refine j_iconst (pc := 14) C dX10_customTold_14 ?_
    refine j_iconst (pc := 15) C dX10_customTold_15 ?_
    refine j_callSi (pc := 16) (As := [vI w, vI 0, vI 2]) (na := 3) (st := []) C [] [] (wr := []) (fun l => m_within l D Y _ w 0 2 (by first | assumption | omega) (by first | assumption | omega) (by first | assumption | omega)) rfl rfl rfl rfl (by decide) rfl gX10_customTold_X10_within (by decide +kernel) (by decide) rfl rfl (Nat.le_of_ble_eq_true rfl) (by decide) dX10_customTold_16 (fun e_5 w_6 h_7 => ?_)
    obtain ⟨rfl, rfl⟩ := h_7
    refine j_perm (ws' := []) [] rfl rfl ?_
    refine j_if_eqb (pc := 19) C 31 rfl dX10_customTold_19 (fun h_8p19 => ?_) (fun h_8p19 => ?_)
    · skip
      refine j_bipush (pc := 31) (w := (-102)) C rfl dX10_customTold_31 ?_
      exact Rt _ _ _ _ _ _ (by decide) (by decide) ⟨by unfold rCusTold; first | rw [if_pos (by omega)] | (rw [if_neg (by omega)]; first | rw [if_pos (by omega)] | rw [if_neg (by omega)]), rfl⟩ dX10_customTold_33
    · skip
      refine j_aload_n (pc := 22) C 0 0 rfl rfl dX10_customTold_22 ?_
      refine j_iload_n (pc := 23) C 1 1 rfl rfl dX10_customTold_23 ?_
      refine j_iload_n (pc := 24) C 2 2 rfl rfl dX10_customTold_24 ?_
      refine j_callVi (pc := 25) (As := [vI cu, vI w]) (na := 2) (st := []) C [] [] (wr := []) (fun l => m_customNow l D Y _ h r S G cs cu w (List.mem_append_right _ r0) (List.mem_append_right _ q0) (List.mem_append_right _ q1) (List.mem_append_right _ q2) (by first | assumption | omega) (by first | assumption | omega)) rfl rfl rfl rfl (by decide) rfl (Or.inr (List.mem_append_right _ r0)) rfl gX10_customTold_X10_customNow ⟨rfl, by decide +kernel⟩ (by decide) rfl rfl (Nat.le_of_ble_eq_true rfl) (by decide) dX10_customTold_25 (fun e_9 w_10 h_11 => ?_)
      obtain ⟨rfl, rfl⟩ := h_11
      refine j_perm (ws' := []) [] rfl rfl ?_
      refine j_goto (pc := 28) C 33 rfl dX10_customTold_28 ?_
      exact Rt _ _ _ _ _ _ (by decide) (by decide) ⟨by unfold rCusTold; first | rw [if_pos (by omega)] | (rw [if_neg (by omega)]; first | rw [if_pos (by omega)] | rw [if_neg (by omega)]), rfl⟩ dX10_customTold_33
  · skip
    refine j_bipush (pc := 8) (w := (-101)) C rfl dX10_customTold_8 ?_
    refine j_goto (pc := 10) C 33 rfl dX10_customTold_10 ?_
    exact Rt _ _ _ _ _ _ (by decide) (by decide) ⟨by unfold rCusTold; first | rw [if_pos (by omega)] | (rw [if_neg (by omega)]; first | rw [if_pos (by omega)] | rw [if_neg (by omega)]), rfl⟩ dX10_customTold_33

theorem fX10_custom_X10 : ∀ w ∈ u_ws RX10 TX10 35, w ∈ wsX10_custom := j_words [27, 28, 29, 30, 31, 32, 33, 34, 35, 36, 37, 38, 39, 40, 41, 42, 43, 44, 45, 46, 47, 48, 49, 50, 51, 52, 53, 54, 55, 56, 57, 58, 59, 60, 61] (by decide +kernel)
set_option maxHeartbeats 4000000 in
set_option maxRecDepth 100000 in
theorem m_custom (l : Launch) (D : va_G) (Y : Nat → ClassId) (RO : va_W) (h : Nat) (r : Nat → Nat) (S : MS) (G : GS) (pg : Int → Int) (cs : Int → CT) (p0 : ((r 19), aI (Y 1) 16 pg) ∈ RO) (hp : okPg pg (g_pl G)) (hnc : 0 ≤ g_nc G ∧ g_nc G ≤ 4) : jMi l yX10_custom wsX10_custom { frames := 4, cells := 0, slots := 0, locals := 88 } D Y RO [.ref h] [(h, oC 9 [.ref (r 0), .ref (r 1), vI (ms_w S), vI (ms_l S), vL (ms_s S), vI (ms_a S), vI (ms_t S), vI (ms_p S), vI (g_np G), .ref (r 9), .ref (r 10), .ref (r 11), .ref (r 12), .ref (r 13), vI (g_nc G), .ref (r 15), .ref (r 16), .ref (r 17), vI (g_pl G), .ref (r 19), vI (g_ik G), vL (g_ks G), .ref (r 22), vL (g_ss G), .ref (r 24), vI (g_fa G), vI (g_iw G), vI (g_nw G), vI (g_ns G), vI (g_ne G), .ref (r 30), .ref (r 31), .ref (r 32), .ref (r 33), vL (g_h G)]), ((r 15), aI (Y 0) 4 (cwof cs)), ((r 16), aI (Y 0) 4 (czof cs)), ((r 17), aI (Y 0) 4 (ceof cs))] (fun e w1 => e = rCustom pg (g_pl G) (g_nc G) ∧ ∃ (G1 : GS) (c1 : Int → CT), ((¬ cusOk pg (g_pl G) (g_nc G) ∧ gEq G G1 ∧ c1 = cs) ∨ (cusOk pg (g_pl G) (g_nc G) ∧ gEq (gCU G) G1 ∧ c1 = up cs (g_nc G) (cusI pg (g_pl G)))) ∧ w1 = [(h, oC 9 [.ref (r 0), .ref (r 1), vI (ms_w S), vI (ms_l S), vL (ms_s S), vI (ms_a S), vI (ms_t S), vI (ms_p S), vI (g_np G1), .ref (r 9), .ref (r 10), .ref (r 11), .ref (r 12), .ref (r 13), vI (g_nc G1), .ref (r 15), .ref (r 16), .ref (r 17), vI (g_pl G1), .ref (r 19), vI (g_ik G1), vL (g_ks G1), .ref (r 22), vL (g_ss G1), .ref (r 24), vI (g_fa G1), vI (g_iw G1), vI (g_nw G1), vI (g_ns G1), vI (g_ne G1), .ref (r 30), .ref (r 31), .ref (r 32), .ref (r 33), vL (g_h G1)]), ((r 15), aI (Y 0) 4 (cwof c1)), ((r 16), aI (Y 0) 4 (czof c1)), ((r 17), aI (Y 0) 4 (ceof c1))]) := by
  refine j_ofi RX10 rfl rfl rfl (Nat.le_of_ble_eq_true rfl) (fun X C Rt => ?_)
  refine j_aload_n (pc := 0) C 0 0 rfl rfl dX10_custom_0 ?_
  refine j_callVv (pc := 1) (As := []) (na := 0) (st := []) C [0] [1, 2, 3] (wr := [((r 15), aI (Y 0) 4 (cwof cs)), ((r 16), aI (Y 0) 4 (czof cs)), ((r 17), aI (Y 0) 4 (ceof cs))]) (fun l => m_readCustom l D Y _ h r S G pg (g_pl G) (List.mem_append_right _ p0) (by first | assumption | omega) rfl) rfl rfl rfl rfl (by decide) rfl (Or.inl (List.mem_of_getElem? (i := 0) rfl)) rfl gX10_custom_X10_readCustom ⟨rfl, by decide +kernel⟩ (by decide) rfl rfl (Nat.le_of_ble_eq_true rfl) (by decide) dX10_custom_1 (fun w_2 h_3 => ?_)
  obtain ⟨G1_4, gG1_4, faG1_4, iwG1_4, nwG1_4, rfl⟩ := h_3
  refine j_perm (ws' := [(h, oC 9 [.ref (r 0), .ref (r 1), vI (ms_w S), vI (ms_l S), vL (ms_s S), vI (ms_a S), vI (ms_t S), vI (ms_p S), vI (g_np G1_4), .ref (r 9), .ref (r 10), .ref (r 11), .ref (r 12), .ref (r 13), vI (g_nc G1_4), .ref (r 15), .ref (r 16), .ref (r 17), vI (g_pl G1_4), .ref (r 19), vI (g_ik G1_4), vL (g_ks G1_4), .ref (r 22), vL (g_ss G1_4), .ref (r 24), vI (g_fa G1_4), vI (g_iw G1_4), vI (g_nw G1_4), vI (g_ns G1_4), vI (g_ne G1_4), .ref (r 30), .ref (r 31), .ref (r 32), .ref (r 33), vL (g_h G1_4)]), ((r 15), aI (Y 0) 4 (cwof cs)), ((r 16), aI (Y 0) 4 (czof cs)), ((r 17), aI (Y 0) 4 (ceof cs))]) [3, 0, 1, 2] rfl rfl ?_
  refine j_aload_n (pc := 4) C 0 0 rfl rfl dX10_custom_4 ?_
  refine j_get (pc := 5) C (Or.inl (List.mem_of_getElem? (i := 0) rfl)) rfl fX10_custom_X10 26 (by decide) (List.mem_of_getElem? (i := 1) rfl) (Or.inl rfl) rfl dX10_custom_5 ?_
  refine j_if_ne (pc := 8) C 14 rfl (by rw [iwG1_4]; split <;> omega) dX10_custom_8 (fun h_5p8 => ?_) (fun h_5p8 => ?_)
  · skip
    refine j_aload_n (pc := 14) C 0 0 rfl rfl dX10_custom_14 ?_
    refine j_get (pc := 15) C (Or.inl (List.mem_of_getElem? (i := 0) rfl)) rfl fX10_custom_X10 14 (by decide) (List.mem_of_getElem? (i := 2) rfl) (Or.inl rfl) rfl dX10_custom_15 ?_
    have hgc := gG1_4.2.1
    refine j_iconst (pc := 18) C dX10_custom_18 ?_
    refine j_icmp_ne (pc := 19) C 25 rfl (by omega) dX10_custom_19 (fun h_6p19 => ?_) (fun h_6p19 => ?_)
    · skip
      refine j_aload_n (pc := 25) C 0 0 rfl rfl dX10_custom_25 ?_
      refine j_get (pc := 26) C (Or.inl (List.mem_of_getElem? (i := 0) rfl)) rfl fX10_custom_X10 15 (by decide) (List.mem_of_getElem? (i := 3) rfl) (Or.inl rfl) rfl dX10_custom_26 ?_
      refine j_aload_n (pc := 29) C 0 0 rfl rfl dX10_custom_29 ?_
      refine j_get (pc := 30) C (Or.inl (List.mem_of_getElem? (i := 0) rfl)) rfl fX10_custom_X10 14 (by decide) (List.mem_of_getElem? (i := 2) rfl) (Or.inl rfl) rfl dX10_custom_30 ?_
      refine j_aload_n (pc := 33) C 0 0 rfl rfl dX10_custom_33 ?_
      refine j_get (pc := 34) C (Or.inl (List.mem_of_getElem? (i := 0) rfl)) rfl fX10_custom_X10 27 (by decide) (List.mem_of_getElem? (i := 4) rfl) (Or.inl rfl) rfl dX10_custom_34 ?_
      refine j_iast (pc := 37) (ws' := [(h, oC 9 [.ref (r 0), .ref (r 1), vI (ms_w S), vI (ms_l S), vL (ms_s S), vI (ms_a S), vI (ms_t S), vI (ms_p S), vI (g_np G1_4), .ref (r 9), .ref (r 10), .ref (r 11), .ref (r 12), .ref (r 13), vI (g_nc G1_4), .ref (r 15), .ref (r 16), .ref (r 17), vI (g_pl G1_4), .ref (r 19), vI (g_ik G1_4), vL (g_ks G1_4), .ref (r 22), vL (g_ss G1_4), .ref (r 24), vI (g_fa G1_4), vI (g_iw G1_4), vI (g_nw G1_4), vI (g_ns G1_4), vI (g_ne G1_4), .ref (r 30), .ref (r 31), .ref (r 32), .ref (r 33), vL (g_h G1_4)]), ((r 15), aI (Y 0) 4 (up (cwof cs) (g_nc G1_4) (g_nw G1_4))), ((r 16), aI (Y 0) 4 (czof cs)), ((r 17), aI (Y 0) 4 (ceof cs))]) C 1 rfl rfl (by omega) (by decide) rfl dX10_custom_37 ?_
      refine j_aload_n (pc := 38) C 0 0 rfl rfl dX10_custom_38 ?_
      refine j_get (pc := 39) C (Or.inl (List.mem_of_getElem? (i := 0) rfl)) rfl fX10_custom_X10 16 (by decide) (List.mem_of_getElem? (i := 5) rfl) (Or.inl rfl) rfl dX10_custom_39 ?_
      refine j_aload_n (pc := 42) C 0 0 rfl rfl dX10_custom_42 ?_
      refine j_get (pc := 43) C (Or.inl (List.mem_of_getElem? (i := 0) rfl)) rfl fX10_custom_X10 14 (by decide) (List.mem_of_getElem? (i := 2) rfl) (Or.inl rfl) rfl dX10_custom_43 ?_
      refine j_aload_n (pc := 46) C 0 0 rfl rfl dX10_custom_46 ?_
      refine j_get (pc := 47) C (Or.inl (List.mem_of_getElem? (i := 0) rfl)) rfl fX10_custom_X10 28 (by decide) (List.mem_of_getElem? (i := 6) rfl) (Or.inl rfl) rfl dX10_custom_47 ?_
      refine j_iast (pc := 50) (ws' := [(h, oC 9 [.ref (r 0), .ref (r 1), vI (ms_w S), vI (ms_l S), vL (ms_s S), vI (ms_a S), vI (ms_t S), vI (ms_p S), vI (g_np G1_4), .ref (r 9), .ref (r 10), .ref (r 11), .ref (r 12), .ref (r 13), vI (g_nc G1_4), .ref (r 15), .ref (r 16), .ref (r 17), vI (g_pl G1_4), .ref (r 19), vI (g_ik G1_4), vL (g_ks G1_4), .ref (r 22), vL (g_ss G1_4), .ref (r 24), vI (g_fa G1_4), vI (g_iw G1_4), vI (g_nw G1_4), vI (g_ns G1_4), vI (g_ne G1_4), .ref (r 30), .ref (r 31), .ref (r 32), .ref (r 33), vL (g_h G1_4)]), ((r 15), aI (Y 0) 4 (up (cwof cs) (g_nc G1_4) (g_nw G1_4))), ((r 16), aI (Y 0) 4 (up (czof cs) (g_nc G1_4) (g_ns G1_4))), ((r 17), aI (Y 0) 4 (ceof cs))]) C 2 rfl rfl (by omega) (by decide) rfl dX10_custom_50 ?_
      refine j_aload_n (pc := 51) C 0 0 rfl rfl dX10_custom_51 ?_
      refine j_get (pc := 52) C (Or.inl (List.mem_of_getElem? (i := 0) rfl)) rfl fX10_custom_X10 17 (by decide) (List.mem_of_getElem? (i := 7) rfl) (Or.inl rfl) rfl dX10_custom_52 ?_
      refine j_aload_n (pc := 55) C 0 0 rfl rfl dX10_custom_55 ?_
      refine j_get (pc := 56) C (Or.inl (List.mem_of_getElem? (i := 0) rfl)) rfl fX10_custom_X10 14 (by decide) (List.mem_of_getElem? (i := 2) rfl) (Or.inl rfl) rfl dX10_custom_56 ?_
      refine j_aload_n (pc := 59) C 0 0 rfl rfl dX10_custom_59 ?_
      refine j_get (pc := 60) C (Or.inl (List.mem_of_getElem? (i := 0) rfl)) rfl fX10_custom_X10 29 (by decide) (List.mem_of_getElem? (i := 8) rfl) (Or.inl rfl) rfl dX10_custom_60 ?_
      refine j_iast (pc := 63) (ws' := [(h, oC 9 [.ref (r 0), .ref (r 1), vI (ms_w S), vI (ms_l S), vL (ms_s S), vI (ms_a S), vI (ms_t S), vI (ms_p S), vI (g_np G1_4), .ref (r 9), .ref (r 10), .ref (r 11), .ref (r 12), .ref (r 13), vI (g_nc G1_4), .ref (r 15), .ref (r 16), .ref (r 17), vI (g_pl G1_4), .ref (r 19), vI (g_ik G1_4), vL (g_ks G1_4), .ref (r 22), vL (g_ss G1_4), .ref (r 24), vI (g_fa G1_4), vI (g_iw G1_4), vI (g_nw G1_4), vI (g_ns G1_4), vI (g_ne G1_4), .ref (r 30), .ref (r 31), .ref (r 32), .ref (r 33), vL (g_h G1_4)]), ((r 15), aI (Y 0) 4 (up (cwof cs) (g_nc G1_4) (g_nw G1_4))), ((r 16), aI (Y 0) 4 (up (czof cs) (g_nc G1_4) (g_ns G1_4))), ((r 17), aI (Y 0) 4 (up (ceof cs) (g_nc G1_4) (g_ne G1_4)))]) C 3 rfl rfl (by omega) (by decide) rfl dX10_custom_63 ?_
      refine j_aload_n (pc := 64) C 0 0 rfl rfl dX10_custom_64 ?_
      refine j_dup (pc := 65) C rfl dX10_custom_65 ?_
      refine j_get (pc := 66) C (Or.inl (List.mem_of_getElem? (i := 0) rfl)) rfl fX10_custom_X10 14 (by decide) (List.mem_of_getElem? (i := 2) rfl) (Or.inl rfl) rfl dX10_custom_66 ?_
      refine j_iconst (pc := 69) C dX10_custom_69 ?_
      refine j_iadd (pc := 70) C dX10_custom_70 ?_
      refine j_put (pc := 71) (ws' := [(h, oC 9 [.ref (r 0), .ref (r 1), vI (ms_w S), vI (ms_l S), vL (ms_s S), vI (ms_a S), vI (ms_t S), vI (ms_p S), vI (g_np G1_4), .ref (r 9), .ref (r 10), .ref (r 11), .ref (r 12), .ref (r 13), vI (g_nc G1_4 + 1), .ref (r 15), .ref (r 16), .ref (r 17), vI (g_pl G1_4), .ref (r 19), vI (g_ik G1_4), vL (g_ks G1_4), .ref (r 22), vL (g_ss G1_4), .ref (r 24), vI (g_fa G1_4), vI (g_iw G1_4), vI (g_nw G1_4), vI (g_ns G1_4), vI (g_ne G1_4), .ref (r 30), .ref (r 31), .ref (r 32), .ref (r 33), vL (g_h G1_4)]), ((r 15), aI (Y 0) 4 (up (cwof cs) (g_nc G1_4) (g_nw G1_4))), ((r 16), aI (Y 0) 4 (up (czof cs) (g_nc G1_4) (g_ns G1_4))), ((r 17), aI (Y 0) 4 (up (ceof cs) (g_nc G1_4) (g_ne G1_4)))]) C 0 rfl rfl fX10_custom_X10 tyX10_ok nmX10 14 (by decide) (List.mem_of_getElem? (i := 2) rfl) (Or.inl rfl) rfl rfl rfl rfl (Nat.le_of_ble_eq_true rfl) rfl dX10_custom_71 ?_
      refine j_aload_n (pc := 74) C 0 0 rfl rfl dX10_custom_74 ?_
      refine j_iconst (pc := 75) C dX10_custom_75 ?_
      refine j_put (pc := 76) (ws' := [(h, oC 9 [.ref (r 0), .ref (r 1), vI (ms_w S), vI (ms_l S), vL (ms_s S), vI (ms_a S), vI (ms_t S), vI (ms_p S), vI (g_np G1_4), .ref (r 9), .ref (r 10), .ref (r 11), .ref (r 12), .ref (r 13), vI (g_nc G1_4 + 1), .ref (r 15), .ref (r 16), .ref (r 17), vI 0, .ref (r 19), vI (g_ik G1_4), vL (g_ks G1_4), .ref (r 22), vL (g_ss G1_4), .ref (r 24), vI (g_fa G1_4), vI (g_iw G1_4), vI (g_nw G1_4), vI (g_ns G1_4), vI (g_ne G1_4), .ref (r 30), .ref (r 31), .ref (r 32), .ref (r 33), vL (g_h G1_4)]), ((r 15), aI (Y 0) 4 (up (cwof cs) (g_nc G1_4) (g_nw G1_4))), ((r 16), aI (Y 0) 4 (up (czof cs) (g_nc G1_4) (g_ns G1_4))), ((r 17), aI (Y 0) 4 (up (ceof cs) (g_nc G1_4) (g_ne G1_4)))]) C 0 rfl rfl fX10_custom_X10 tyX10_ok nmX10 18 (by decide) (List.mem_of_getElem? (i := 9) rfl) (Or.inl rfl) rfl rfl rfl rfl (Nat.le_of_ble_eq_true rfl) rfl dX10_custom_76 ?_
      refine j_aload_n (pc := 79) C 0 0 rfl rfl dX10_custom_79 ?_
      refine j_get (pc := 80) C (Or.inl (List.mem_of_getElem? (i := 0) rfl)) rfl fX10_custom_X10 14 (by decide) (List.mem_of_getElem? (i := 2) rfl) (Or.inl rfl) rfl dX10_custom_80 ?_
      refine j_iconst (pc := 83) C dX10_custom_83 ?_
      refine j_isub (pc := 84) C dX10_custom_84 ?_
      have hcus : cusP pg (g_pl G) := by rw [iwG1_4] at *; exact Classical.byContradiction (fun z => by simp [z] at *)
      have hnw := nwG1_4 hcus
      exact Rt _ _ _ _ _ _ (by decide) (by decide) ⟨by unfold rCustom; rw [if_neg (not_not_intro hcus), if_neg (by have := gG1_4.2.1; omega)]; have := gG1_4.2.1; omega, (g_np G1_4, (g_nc G1_4 + 1), 0, g_ik G1_4, g_ks G1_4, g_ss G1_4, g_fa G1_4, g_iw G1_4, g_nw G1_4, g_ns G1_4, g_ne G1_4, g_h G1_4), up cs (g_nc G) (cusI pg (g_pl G)), Or.inr ⟨⟨hcus, by have := gG1_4.2.1; omega⟩, ⟨gG1_4.1, by show g_nc G1_4 + 1 = g_nc G + 1; rw [gG1_4.2.1], rfl, gG1_4.2.2.2.1, gG1_4.2.2.2.2⟩, rfl⟩, by rw [hnw.1, hnw.2.1, hnw.2.2, gG1_4.2.1, ← up_cw, ← up_cz, ← up_ce]; first | done | rfl⟩ dX10_custom_85
    · skip
      refine j_bipush (pc := 22) (w := (-104)) C rfl dX10_custom_22 ?_
      exact Rt _ _ _ _ _ _ (by decide) (by decide) ⟨by have hcus : cusP pg (g_pl G) := (by rw [iwG1_4] at *; exact Classical.byContradiction (fun z => by simp [z] at *)); have := gG1_4.2.1; unfold rCustom; rw [if_neg (not_not_intro hcus), if_pos (by omega)], G1_4, cs, Or.inl ⟨fun z => by have := z.2; have := gG1_4.2.1; omega, gG1_4, rfl⟩, rfl⟩ dX10_custom_24
  · skip
    refine j_bipush (pc := 11) (w := (-103)) C rfl dX10_custom_11 ?_
    exact Rt _ _ _ _ _ _ (by decide) (by decide) ⟨by unfold rCustom; rw [if_pos (by intro z; rw [iwG1_4, if_pos z] at *; omega)], G1_4, cs, Or.inl ⟨fun z => by rw [iwG1_4, if_pos z.1] at *; omega, gG1_4, rfl⟩, rfl⟩ dX10_custom_13

theorem fX10_letters_X10 : ∀ w ∈ u_ws RX10 TX10 35, w ∈ wsX10_letters := j_words [4, 5, 6, 7, 8, 9, 10, 11, 12, 13, 14, 15, 16, 17, 18, 19, 20, 21, 22, 23, 24, 25, 26, 27, 28, 29, 30, 31, 32, 33, 34, 35, 36, 37, 38] (by decide +kernel)
set_option maxHeartbeats 4000000 in
set_option maxRecDepth 100000 in
theorem m_letters (l : Launch) (D : va_G) (Y : Nat → ClassId) (RO : va_W) (h : Nat) (r : Nat → Nat) (S : MS) (G : GS) (pg : Int → Int) (w : Int)  (hp : okPg pg (g_pl G)) (hw64 : -9223372036854775808 ≤ w ∧ w ≤ 9223372036854775807) : jMi l yX10_letters wsX10_letters { frames := 0, cells := 0, slots := 0, locals := 0 } D Y RO [.ref h, vL w] [(h, oC 9 [.ref (r 0), .ref (r 1), vI (ms_w S), vI (ms_l S), vL (ms_s S), vI (ms_a S), vI (ms_t S), vI (ms_p S), vI (g_np G), .ref (r 9), .ref (r 10), .ref (r 11), .ref (r 12), .ref (r 13), vI (g_nc G), .ref (r 15), .ref (r 16), .ref (r 17), vI (g_pl G), .ref (r 19), vI (g_ik G), vL (g_ks G), .ref (r 22), vL (g_ss G), .ref (r 24), vI (g_fa G), vI (g_iw G), vI (g_nw G), vI (g_ns G), vI (g_ne G), .ref (r 30), .ref (r 31), .ref (r 32), .ref (r 33), vL (g_h G)]), ((r 19), aI (Y 1) 16 pg)] (fun e w1 => e = rLetters w (g_pl G) ∧ w1 = [(h, oC 9 [.ref (r 0), .ref (r 1), vI (ms_w S), vI (ms_l S), vL (ms_s S), vI (ms_a S), vI (ms_t S), vI (ms_p S), vI (g_np (gPL G (sLetN w (g_pl G)))), .ref (r 9), .ref (r 10), .ref (r 11), .ref (r 12), .ref (r 13), vI (g_nc (gPL G (sLetN w (g_pl G)))), .ref (r 15), .ref (r 16), .ref (r 17), vI (g_pl (gPL G (sLetN w (g_pl G)))), .ref (r 19), vI (g_ik (gPL G (sLetN w (g_pl G)))), vL (g_ks (gPL G (sLetN w (g_pl G)))), .ref (r 22), vL (g_ss (gPL G (sLetN w (g_pl G)))), .ref (r 24), vI (g_fa (gPL G (sLetN w (g_pl G)))), vI (g_iw (gPL G (sLetN w (g_pl G)))), vI (g_nw (gPL G (sLetN w (g_pl G)))), vI (g_ns (gPL G (sLetN w (g_pl G)))), vI (g_ne (gPL G (sLetN w (g_pl G)))), .ref (r 30), .ref (r 31), .ref (r 32), .ref (r 33), vL (g_h (gPL G (sLetN w (g_pl G))))]), ((r 19), aI (Y 1) 16 (sLetG w (g_pl G) pg))]) := by
  refine j_ofi RX10 rfl rfl rfl (Nat.le_of_ble_eq_true rfl) (fun X C Rt => ?_)
  have hpl := hp.1
  have hln := ln_in (w := w) (n := 8) (by decide)
  change lnI w = -1 ∨ (0 ≤ lnI w ∧ lnI w ≤ 8 ∧ ∀ j, 0 ≤ j → j < lnI w → 1 ≤ codeW w j ∧ codeW w j ≤ 126) at hln
  refine j_iconst (pc := 0) C dX10_letters_0 ?_
  refine j_istore_n (pc := 1) (lc' := [(3, vI 0), (0, .ref h), (1, vL w)]) C 3 rfl (by decide) rfl dX10_letters_1 ?_
  refine j_iconst (pc := 2) C dX10_letters_2 ?_
  refine j_istore (pc := 3) (lc' := [(4, vI 0), (3, vI 0), (0, .ref h), (1, vL w)]) C (by decide) rfl dX10_letters_3 ?_
  refine j_iconst (pc := 5) C dX10_letters_5 ?_
  refine j_istore (pc := 6) (lc' := [(5, vI 0), (4, vI 0), (3, vI 0), (0, .ref h), (1, vL w)]) C (by decide) rfl dX10_letters_6 ?_
  have hL8 : ∀ (N8 : Nat) (m : Int) (b : Int) (i : Int), ((8 - i).toNat) < N8 → (0 ≤ i ∧ i ≤ 8) → (0 ≤ m ∧ m ≤ i ∧ 0 ≤ b ∧ b ≤ 1 ∧ (b = 1 ↔ m < i)) → (fo (lnF w) i 0 = m) → jW X 7 0 0 [(h, oC 9 [.ref (r 0), .ref (r 1), vI (ms_w S), vI (ms_l S), vL (ms_s S), vI (ms_a S), vI (ms_t S), vI (ms_p S), vI (g_np G), .ref (r 9), .ref (r 10), .ref (r 11), .ref (r 12), .ref (r 13), vI (g_nc G), .ref (r 15), .ref (r 16), .ref (r 17), vI (g_pl G), .ref (r 19), vI (g_ik G), vL (g_ks G), .ref (r 22), vL (g_ss G), .ref (r 24), vI (g_fa G), vI (g_iw G), vI (g_nw G), vI (g_ns G), vI (g_ne G), .ref (r 30), .ref (r 31), .ref (r 32), .ref (r 33), vL (g_h G)]), ((r 19), aI (Y 1) 16 pg)] [(0, .ref h), (1, vL w), (3, vI m), (4, vI b), (5, vI i)] 8 [] := by
    intro N8
    induction N8 with
    | zero => intro m b i hm8 i8_0 i8_1 i8_2; omega
    | succ N8 ih8 =>
      intro m b i hm8 i8_0 i8_1 i8_2
      refine j_iload (pc := 8) C 4 rfl dX10_letters_8 ?_
      refine j_bipush (pc := 10) (w := 8) C rfl dX10_letters_10 ?_
      refine j_icmp_ge (pc := 12) C 85 rfl (by omega) dX10_letters_12 (fun h_1p12 => ?_) (fun h_1p12 => ?_)
      · skip
        have hm : lnI w = m := by { rw [← i8_2, show i = 8 by omega]; rfl }
        refine j_aload_n (pc := 85) C 0 0 rfl rfl dX10_letters_85 ?_
        refine j_get (pc := 86) C (Or.inl (List.mem_of_getElem? (i := 0) rfl)) rfl fX10_letters_X10 18 (by decide) (List.mem_of_getElem? (i := 2) rfl) (Or.inl rfl) rfl dX10_letters_86 ?_
        refine j_iload_n (pc := 89) C 3 2 rfl rfl dX10_letters_89 ?_
        refine j_iadd (pc := 90) C dX10_letters_90 ?_
        refine j_bipush (pc := 91) (w := 16) C rfl dX10_letters_91 ?_
        refine j_icmp_le (pc := 93) C 99 rfl (by omega) dX10_letters_93 (fun h_2p93 => ?_) (fun h_2p93 => ?_)
        · skip
          refine j_iconst (pc := 99) C dX10_letters_99 ?_
          refine j_istore (pc := 100) (lc' := [(5, vI 0), (0, .ref h), (1, vL w), (3, vI m), (4, vI b)]) C (by decide) rfl dX10_letters_100 ?_
          have hL102 : ∀ (N102 : Nat) (i2 : Int) (z : Int → Int), ((m - i2).toNat) < N102 → (0 ≤ i2 ∧ i2 ≤ m) → (z = wrI w (g_pl G) i2 pg) → jW X 7 0 0 [(h, oC 9 [.ref (r 0), .ref (r 1), vI (ms_w S), vI (ms_l S), vL (ms_s S), vI (ms_a S), vI (ms_t S), vI (ms_p S), vI (g_np G), .ref (r 9), .ref (r 10), .ref (r 11), .ref (r 12), .ref (r 13), vI (g_nc G), .ref (r 15), .ref (r 16), .ref (r 17), vI (g_pl G), .ref (r 19), vI (g_ik G), vL (g_ks G), .ref (r 22), vL (g_ss G), .ref (r 24), vI (g_fa G), vI (g_iw G), vI (g_nw G), vI (g_ns G), vI (g_ne G), .ref (r 30), .ref (r 31), .ref (r 32), .ref (r 33), vL (g_h G)]), ((r 19), aI (Y 1) 16 z)] [(0, .ref h), (1, vL w), (3, vI m), (5, vI i2)] 102 [] := by
            intro N102
            induction N102 with
            | zero => intro i2 z hm102 i102_0 i102_1; omega
            | succ N102 ih102 =>
              intro i2 z hm102 i102_0 i102_1
              refine j_iload (pc := 102) C 3 rfl dX10_letters_102 ?_
              refine j_iload_n (pc := 104) C 3 2 rfl rfl dX10_letters_104 ?_
              refine j_icmp_ge (pc := 105) C 135 rfl (by omega) dX10_letters_105 (fun h_3p105 => ?_) (fun h_3p105 => ?_)
              · skip
                refine j_aload_n (pc := 135) C 0 0 rfl rfl dX10_letters_135 ?_
                refine j_dup (pc := 136) C rfl dX10_letters_136 ?_
                refine j_get (pc := 137) C (Or.inl (List.mem_of_getElem? (i := 0) rfl)) rfl fX10_letters_X10 18 (by decide) (List.mem_of_getElem? (i := 2) rfl) (Or.inl rfl) rfl dX10_letters_137 ?_
                refine j_iload_n (pc := 140) C 3 2 rfl rfl dX10_letters_140 ?_
                refine j_iadd (pc := 141) C dX10_letters_141 ?_
                refine j_put (pc := 142) (ws' := [(h, oC 9 [.ref (r 0), .ref (r 1), vI (ms_w S), vI (ms_l S), vL (ms_s S), vI (ms_a S), vI (ms_t S), vI (ms_p S), vI (g_np G), .ref (r 9), .ref (r 10), .ref (r 11), .ref (r 12), .ref (r 13), vI (g_nc G), .ref (r 15), .ref (r 16), .ref (r 17), vI (g_pl G + m), .ref (r 19), vI (g_ik G), vL (g_ks G), .ref (r 22), vL (g_ss G), .ref (r 24), vI (g_fa G), vI (g_iw G), vI (g_nw G), vI (g_ns G), vI (g_ne G), .ref (r 30), .ref (r 31), .ref (r 32), .ref (r 33), vL (g_h G)]), ((r 19), aI (Y 1) 16 z)]) C 0 rfl rfl fX10_letters_X10 tyX10_ok nmX10 18 (by decide) (List.mem_of_getElem? (i := 2) rfl) (Or.inl rfl) rfl rfl rfl rfl (Nat.le_of_ble_eq_true rfl) rfl dX10_letters_142 ?_
                refine j_aload_n (pc := 145) C 0 0 rfl rfl dX10_letters_145 ?_
                refine j_get (pc := 146) C (Or.inl (List.mem_of_getElem? (i := 0) rfl)) rfl fX10_letters_X10 18 (by decide) (List.mem_of_getElem? (i := 2) rfl) (Or.inl rfl) rfl dX10_letters_146 ?_
                exact Rt _ _ _ _ _ _ (by decide) (by decide) ⟨by unfold rLetters; rw [if_neg (by omega), if_neg (by omega), hm], by unfold sLetN sLetG; rw [if_neg (by omega), if_neg (by omega), if_neg (by omega), if_neg (by omega), hm]; rw [i102_1, show i2 = m by omega]; first | done | rfl⟩ dX10_letters_149
              · skip
                have hcc : 1 ≤ codeW w i2 ∧ codeW w i2 ≤ 126 := by { rcases hln with q | q; { exact absurd (hm ▸ q) (by omega) }; { exact q.2.2 i2 (by omega) (by omega) } }
                refine j_aload_n (pc := 108) C 0 0 rfl rfl dX10_letters_108 ?_
                refine j_get (pc := 109) C (Or.inl (List.mem_of_getElem? (i := 0) rfl)) rfl fX10_letters_X10 19 (by decide) (List.mem_of_getElem? (i := 3) rfl) (Or.inl rfl) rfl dX10_letters_109 ?_
                refine j_aload_n (pc := 112) C 0 0 rfl rfl dX10_letters_112 ?_
                refine j_get (pc := 113) C (Or.inl (List.mem_of_getElem? (i := 0) rfl)) rfl fX10_letters_X10 18 (by decide) (List.mem_of_getElem? (i := 2) rfl) (Or.inl rfl) rfl dX10_letters_113 ?_
                refine j_iload (pc := 116) C 3 rfl dX10_letters_116 ?_
                refine j_iadd (pc := 118) C dX10_letters_118 ?_
                refine j_lload_n (pc := 119) C 1 1 rfl rfl dX10_letters_119 ?_
                refine j_bipush (pc := 120) (w := 8) C rfl dX10_letters_120 ?_
                refine j_iload (pc := 122) C 3 rfl dX10_letters_122 ?_
                refine j_imul (pc := 124) C dX10_letters_124 ?_
                refine j_lshr (pc := 125) C dX10_letters_125 ?_
                refine j_l2i (pc := 126) C dX10_letters_126 ?_
                refine j_i2b (pc := 127) C dX10_letters_127 ?_
                rw [cW_b (by omega) hw64 hcc.2]
                refine j_bast (pc := 128) (ws' := [(h, oC 9 [.ref (r 0), .ref (r 1), vI (ms_w S), vI (ms_l S), vL (ms_s S), vI (ms_a S), vI (ms_t S), vI (ms_p S), vI (g_np G), .ref (r 9), .ref (r 10), .ref (r 11), .ref (r 12), .ref (r 13), vI (g_nc G), .ref (r 15), .ref (r 16), .ref (r 17), vI (g_pl G), .ref (r 19), vI (g_ik G), vL (g_ks G), .ref (r 22), vL (g_ss G), .ref (r 24), vI (g_fa G), vI (g_iw G), vI (g_nw G), vI (g_ns G), vI (g_ne G), .ref (r 30), .ref (r 31), .ref (r 32), .ref (r 33), vL (g_h G)]), ((r 19), aI (Y 1) 16 (up z (g_pl G + i2) (codeW w i2)))]) C 1 rfl rfl (by omega) (by decide) (nar_small (by omega)) rfl dX10_letters_128 ?_
                refine j_iinc (pc := 129) (lc' := [(5, vI (i2 + 1)), (0, .ref h), (1, vL w), (3, vI m)]) C 3 rfl (by decide) rfl dX10_letters_129 ?_
                refine j_goto (pc := 132) C 102 rfl dX10_letters_132 ?_
                refine j_locals (lc' := [(0, .ref h), (1, vL w), (3, vI m), (5, vI (i2 + 1))]) [1, 2, 3, 0] rfl ?_
                exact ih102 (i2 + 1) (up z (g_pl G + i2) (codeW w i2)) (by omega) (by omega) (by rw [wrI_succ (by omega), i102_1])
          refine j_locals (lc' := [(0, .ref h), (1, vL w), (3, vI m), (5, vI 0)]) [1, 2, 3, 0] rfl ?_
          exact hL102 _ 0 pg (Nat.lt_succ_self _) (by omega) rfl
        · skip
          refine j_bipush (pc := 96) (w := (-104)) C rfl dX10_letters_96 ?_
          exact Rt _ _ _ _ _ _ (by decide) (by decide) ⟨by unfold rLetters; rw [if_neg (by omega), if_pos (by omega)], by unfold sLetN sLetG; rw [if_neg (by omega), if_pos (by omega), if_neg (by omega), if_pos (by omega)]; first | done | rfl⟩ dX10_letters_98
      · skip
        refine j_lload_n (pc := 15) C 1 1 rfl rfl dX10_letters_15 ?_
        refine j_bipush (pc := 16) (w := 8) C rfl dX10_letters_16 ?_
        refine j_iload (pc := 18) C 4 rfl dX10_letters_18 ?_
        refine j_imul (pc := 20) C dX10_letters_20 ?_
        refine j_lshr (pc := 21) C dX10_letters_21 ?_
        refine j_ldc2 (pc := 22) (w := 255) C (List.mem_of_getElem? (i := 1) rfl) dX10_letters_22 ?_
        refine j_land (pc := 25) C dX10_letters_25 ?_
        rw [cW_s (by omega) hw64]
        have hcw := codeW_in w i
        refine j_l2i (pc := 26) C dX10_letters_26 ?_
        refine j_istore (pc := 27) (lc' := [(6, vI (codeW w i)), (0, .ref h), (1, vL w), (3, vI m), (4, vI b), (5, vI i)]) C (by decide) rfl dX10_letters_27 ?_
        refine j_iload (pc := 29) C 0 rfl dX10_letters_29 ?_
        refine j_bipush (pc := 31) (w := 126) C rfl dX10_letters_31 ?_
        refine j_icmp_gt (pc := 33) C 46 rfl (by omega) dX10_letters_33 (fun h_4p33 => ?_) (fun h_4p33 => ?_)
        · skip
          refine j_bipush (pc := 46) (w := (-102)) C rfl dX10_letters_46 ?_
          exact Rt _ _ _ _ _ _ (by decide) (by decide) ⟨by unfold rLetters; rw [if_pos (ln_bad (by omega) i8_2 (by omega))], by unfold sLetN sLetG; rw [if_pos (ln_bad (by omega) i8_2 (by omega)), if_pos (ln_bad (by omega) i8_2 (by omega))]; first | done | rfl⟩ dX10_letters_48
        · skip
          refine j_iload (pc := 36) C 4 rfl dX10_letters_36 ?_
          refine j_if_eq (pc := 38) C 49 rfl (by omega) dX10_letters_38 (fun h_5p38 => ?_) (fun h_5p38 => ?_)
          · skip
            refine j_iload (pc := 49) C 4 rfl dX10_letters_49 ?_
            refine j_if_ne (pc := 51) C 59 rfl (by omega) dX10_letters_51 (fun h_6p51 => ?_) (fun h_6p51 => ?_)
            · skip
              refine j_iconst (pc := 59) C dX10_letters_59 ?_
              refine j_goto (pc := 60) C 64 rfl dX10_letters_60 ?_
              refine j_istore (pc := 64) (lc' := [(4, vI 1), (6, vI (codeW w i)), (0, .ref h), (1, vL w), (3, vI m), (5, vI i)]) C (by decide) rfl dX10_letters_64 ?_
              refine j_iload_n (pc := 66) C 3 4 rfl rfl dX10_letters_66 ?_
              refine j_iload (pc := 67) C 1 rfl dX10_letters_67 ?_
              refine j_if_ne (pc := 69) C 76 rfl (by omega) dX10_letters_69 (fun h_7p69 => ?_) (fun h_7p69 => ?_)
              · skip
                refine j_iconst (pc := 76) C dX10_letters_76 ?_
                refine j_iadd (pc := 77) C dX10_letters_77 ?_
                refine j_istore_n (pc := 78) (lc' := [(3, vI (m + 1)), (4, vI 1), (6, vI (codeW w i)), (0, .ref h), (1, vL w), (5, vI i)]) C 3 rfl (by decide) rfl dX10_letters_78 ?_
                refine j_iinc (pc := 79) (lc' := [(5, vI (i + 1)), (3, vI (m + 1)), (4, vI 1), (6, vI (codeW w i)), (0, .ref h), (1, vL w)]) C 5 rfl (by decide) rfl dX10_letters_79 ?_
                refine j_goto (pc := 82) C 8 rfl dX10_letters_82 ?_
                refine j_locals (lc' := [(0, .ref h), (1, vL w), (3, vI (m + 1)), (4, vI 1), (5, vI (i + 1))]) [4, 5, 1, 2, 0] rfl ?_
                exact ih8 (m + 1) 1 (i + 1) (by omega) (by omega) (by omega) (by first | (exfalso; omega) | (rw [ln_step (by omega) (by omega) i8_2 (by omega)]; first | (rw [if_pos (by omega)]; omega) | (rw [if_neg (by omega)])))
              · skip
                refine j_iconst (pc := 72) C dX10_letters_72 ?_
                refine j_goto (pc := 73) C 77 rfl dX10_letters_73 ?_
                refine j_iadd (pc := 77) C dX10_letters_77 ?_
                refine j_istore_n (pc := 78) (lc' := [(3, vI (m + 0)), (4, vI 1), (6, vI (codeW w i)), (0, .ref h), (1, vL w), (5, vI i)]) C 3 rfl (by decide) rfl dX10_letters_78 ?_
                refine j_iinc (pc := 79) (lc' := [(5, vI (i + 1)), (3, vI (m + 0)), (4, vI 1), (6, vI (codeW w i)), (0, .ref h), (1, vL w)]) C 5 rfl (by decide) rfl dX10_letters_79 ?_
                refine j_goto (pc := 82) C 8 rfl dX10_letters_82 ?_
                refine j_locals (lc' := [(0, .ref h), (1, vL w), (3, vI (m + 0)), (4, vI 1), (5, vI (i + 1))]) [4, 5, 1, 2, 0] rfl ?_
                exact ih8 (m + 0) 1 (i + 1) (by omega) (by omega) (by omega) (by first | (exfalso; omega) | (rw [ln_step (by omega) (by omega) i8_2 (by omega)]; first | (rw [if_pos (by omega)]; omega) | (rw [if_neg (by omega)])))
            · skip
              refine j_iload (pc := 54) C 0 rfl dX10_letters_54 ?_
              refine j_if_ne (pc := 56) C 63 rfl (by omega) dX10_letters_56 (fun h_8p56 => ?_) (fun h_8p56 => ?_)
              · skip
                refine j_iconst (pc := 63) C dX10_letters_63 ?_
                refine j_istore (pc := 64) (lc' := [(4, vI 0), (6, vI (codeW w i)), (0, .ref h), (1, vL w), (3, vI m), (5, vI i)]) C (by decide) rfl dX10_letters_64 ?_
                refine j_iload_n (pc := 66) C 3 4 rfl rfl dX10_letters_66 ?_
                refine j_iload (pc := 67) C 1 rfl dX10_letters_67 ?_
                refine j_if_ne (pc := 69) C 76 rfl (by omega) dX10_letters_69 (fun h_9p69 => ?_) (fun h_9p69 => ?_)
                · skip
                  refine j_iconst (pc := 76) C dX10_letters_76 ?_
                  refine j_iadd (pc := 77) C dX10_letters_77 ?_
                  refine j_istore_n (pc := 78) (lc' := [(3, vI (m + 1)), (4, vI 0), (6, vI (codeW w i)), (0, .ref h), (1, vL w), (5, vI i)]) C 3 rfl (by decide) rfl dX10_letters_78 ?_
                  refine j_iinc (pc := 79) (lc' := [(5, vI (i + 1)), (3, vI (m + 1)), (4, vI 0), (6, vI (codeW w i)), (0, .ref h), (1, vL w)]) C 5 rfl (by decide) rfl dX10_letters_79 ?_
                  refine j_goto (pc := 82) C 8 rfl dX10_letters_82 ?_
                  refine j_locals (lc' := [(0, .ref h), (1, vL w), (3, vI (m + 1)), (4, vI 0), (5, vI (i + 1))]) [4, 5, 1, 2, 0] rfl ?_
                  exact ih8 (m + 1) 0 (i + 1) (by omega) (by omega) (by omega) (by first | (exfalso; omega) | (rw [ln_step (by omega) (by omega) i8_2 (by omega)]; first | (rw [if_pos (by omega)]; omega) | (rw [if_neg (by omega)])))
                · skip
                  refine j_iconst (pc := 72) C dX10_letters_72 ?_
                  refine j_goto (pc := 73) C 77 rfl dX10_letters_73 ?_
                  refine j_iadd (pc := 77) C dX10_letters_77 ?_
                  refine j_istore_n (pc := 78) (lc' := [(3, vI (m + 0)), (4, vI 0), (6, vI (codeW w i)), (0, .ref h), (1, vL w), (5, vI i)]) C 3 rfl (by decide) rfl dX10_letters_78 ?_
                  refine j_iinc (pc := 79) (lc' := [(5, vI (i + 1)), (3, vI (m + 0)), (4, vI 0), (6, vI (codeW w i)), (0, .ref h), (1, vL w)]) C 5 rfl (by decide) rfl dX10_letters_79 ?_
                  refine j_goto (pc := 82) C 8 rfl dX10_letters_82 ?_
                  refine j_locals (lc' := [(0, .ref h), (1, vL w), (3, vI (m + 0)), (4, vI 0), (5, vI (i + 1))]) [4, 5, 1, 2, 0] rfl ?_
                  exact ih8 (m + 0) 0 (i + 1) (by omega) (by omega) (by omega) (by first | (exfalso; omega) | (rw [ln_step (by omega) (by omega) i8_2 (by omega)]; first | (rw [if_pos (by omega)]; omega) | (rw [if_neg (by omega)])))
              · skip
                refine j_iconst (pc := 59) C dX10_letters_59 ?_
                refine j_goto (pc := 60) C 64 rfl dX10_letters_60 ?_
                refine j_istore (pc := 64) (lc' := [(4, vI 1), (6, vI (codeW w i)), (0, .ref h), (1, vL w), (3, vI m), (5, vI i)]) C (by decide) rfl dX10_letters_64 ?_
                refine j_iload_n (pc := 66) C 3 4 rfl rfl dX10_letters_66 ?_
                refine j_iload (pc := 67) C 1 rfl dX10_letters_67 ?_
                refine j_if_ne (pc := 69) C 76 rfl (by omega) dX10_letters_69 (fun h_10p69 => ?_) (fun h_10p69 => ?_)
                · skip
                  refine j_iconst (pc := 76) C dX10_letters_76 ?_
                  refine j_iadd (pc := 77) C dX10_letters_77 ?_
                  refine j_istore_n (pc := 78) (lc' := [(3, vI (m + 1)), (4, vI 1), (6, vI (codeW w i)), (0, .ref h), (1, vL w), (5, vI i)]) C 3 rfl (by decide) rfl dX10_letters_78 ?_
                  refine j_iinc (pc := 79) (lc' := [(5, vI (i + 1)), (3, vI (m + 1)), (4, vI 1), (6, vI (codeW w i)), (0, .ref h), (1, vL w)]) C 5 rfl (by decide) rfl dX10_letters_79 ?_
                  refine j_goto (pc := 82) C 8 rfl dX10_letters_82 ?_
                  refine j_locals (lc' := [(0, .ref h), (1, vL w), (3, vI (m + 1)), (4, vI 1), (5, vI (i + 1))]) [4, 5, 1, 2, 0] rfl ?_
                  exact ih8 (m + 1) 1 (i + 1) (by omega) (by omega) (by omega) (by first | (exfalso; omega) | (rw [ln_step (by omega) (by omega) i8_2 (by omega)]; first | (rw [if_pos (by omega)]; omega) | (rw [if_neg (by omega)])))
                · skip
                  refine j_iconst (pc := 72) C dX10_letters_72 ?_
                  refine j_goto (pc := 73) C 77 rfl dX10_letters_73 ?_
                  refine j_iadd (pc := 77) C dX10_letters_77 ?_
                  refine j_istore_n (pc := 78) (lc' := [(3, vI (m + 0)), (4, vI 1), (6, vI (codeW w i)), (0, .ref h), (1, vL w), (5, vI i)]) C 3 rfl (by decide) rfl dX10_letters_78 ?_
                  refine j_iinc (pc := 79) (lc' := [(5, vI (i + 1)), (3, vI (m + 0)), (4, vI 1), (6, vI (codeW w i)), (0, .ref h), (1, vL w)]) C 5 rfl (by decide) rfl dX10_letters_79 ?_
                  refine j_goto (pc := 82) C 8 rfl dX10_letters_82 ?_
                  refine j_locals (lc' := [(0, .ref h), (1, vL w), (3, vI (m + 0)), (4, vI 1), (5, vI (i + 1))]) [4, 5, 1, 2, 0] rfl ?_
                  exact ih8 (m + 0) 1 (i + 1) (by omega) (by omega) (by omega) (by first | (exfalso; omega) | (rw [ln_step (by omega) (by omega) i8_2 (by omega)]; first | (rw [if_pos (by omega)]; omega) | (rw [if_neg (by omega)])))
          · skip
            refine j_iload (pc := 41) C 0 rfl dX10_letters_41 ?_
            refine j_if_eq (pc := 43) C 49 rfl (by omega) dX10_letters_43 (fun h_11p43 => ?_) (fun h_11p43 => ?_)
            · skip
              refine j_iload (pc := 49) C 4 rfl dX10_letters_49 ?_
              refine j_if_ne (pc := 51) C 59 rfl (by omega) dX10_letters_51 (fun h_12p51 => ?_) (fun h_12p51 => ?_)
              · skip
                refine j_iconst (pc := 59) C dX10_letters_59 ?_
                refine j_goto (pc := 60) C 64 rfl dX10_letters_60 ?_
                refine j_istore (pc := 64) (lc' := [(4, vI 1), (6, vI (codeW w i)), (0, .ref h), (1, vL w), (3, vI m), (5, vI i)]) C (by decide) rfl dX10_letters_64 ?_
                refine j_iload_n (pc := 66) C 3 4 rfl rfl dX10_letters_66 ?_
                refine j_iload (pc := 67) C 1 rfl dX10_letters_67 ?_
                refine j_if_ne (pc := 69) C 76 rfl (by omega) dX10_letters_69 (fun h_13p69 => ?_) (fun h_13p69 => ?_)
                · skip
                  refine j_iconst (pc := 76) C dX10_letters_76 ?_
                  refine j_iadd (pc := 77) C dX10_letters_77 ?_
                  refine j_istore_n (pc := 78) (lc' := [(3, vI (m + 1)), (4, vI 1), (6, vI (codeW w i)), (0, .ref h), (1, vL w), (5, vI i)]) C 3 rfl (by decide) rfl dX10_letters_78 ?_
                  refine j_iinc (pc := 79) (lc' := [(5, vI (i + 1)), (3, vI (m + 1)), (4, vI 1), (6, vI (codeW w i)), (0, .ref h), (1, vL w)]) C 5 rfl (by decide) rfl dX10_letters_79 ?_
                  refine j_goto (pc := 82) C 8 rfl dX10_letters_82 ?_
                  refine j_locals (lc' := [(0, .ref h), (1, vL w), (3, vI (m + 1)), (4, vI 1), (5, vI (i + 1))]) [4, 5, 1, 2, 0] rfl ?_
                  exact ih8 (m + 1) 1 (i + 1) (by omega) (by omega) (by omega) (by first | (exfalso; omega) | (rw [ln_step (by omega) (by omega) i8_2 (by omega)]; first | (rw [if_pos (by omega)]; omega) | (rw [if_neg (by omega)])))
                · skip
                  refine j_iconst (pc := 72) C dX10_letters_72 ?_
                  refine j_goto (pc := 73) C 77 rfl dX10_letters_73 ?_
                  refine j_iadd (pc := 77) C dX10_letters_77 ?_
                  refine j_istore_n (pc := 78) (lc' := [(3, vI (m + 0)), (4, vI 1), (6, vI (codeW w i)), (0, .ref h), (1, vL w), (5, vI i)]) C 3 rfl (by decide) rfl dX10_letters_78 ?_
                  refine j_iinc (pc := 79) (lc' := [(5, vI (i + 1)), (3, vI (m + 0)), (4, vI 1), (6, vI (codeW w i)), (0, .ref h), (1, vL w)]) C 5 rfl (by decide) rfl dX10_letters_79 ?_
                  refine j_goto (pc := 82) C 8 rfl dX10_letters_82 ?_
                  refine j_locals (lc' := [(0, .ref h), (1, vL w), (3, vI (m + 0)), (4, vI 1), (5, vI (i + 1))]) [4, 5, 1, 2, 0] rfl ?_
                  exact ih8 (m + 0) 1 (i + 1) (by omega) (by omega) (by omega) (by first | (exfalso; omega) | (rw [ln_step (by omega) (by omega) i8_2 (by omega)]; first | (rw [if_pos (by omega)]; omega) | (rw [if_neg (by omega)])))
              · skip
                refine j_iload (pc := 54) C 0 rfl dX10_letters_54 ?_
                refine j_if_ne (pc := 56) C 63 rfl (by omega) dX10_letters_56 (fun h_14p56 => ?_) (fun h_14p56 => ?_)
                · skip
                  refine j_iconst (pc := 63) C dX10_letters_63 ?_
                  refine j_istore (pc := 64) (lc' := [(4, vI 0), (6, vI (codeW w i)), (0, .ref h), (1, vL w), (3, vI m), (5, vI i)]) C (by decide) rfl dX10_letters_64 ?_
                  refine j_iload_n (pc := 66) C 3 4 rfl rfl dX10_letters_66 ?_
                  refine j_iload (pc := 67) C 1 rfl dX10_letters_67 ?_
                  refine j_if_ne (pc := 69) C 76 rfl (by omega) dX10_letters_69 (fun h_15p69 => ?_) (fun h_15p69 => ?_)
                  · skip
                    refine j_iconst (pc := 76) C dX10_letters_76 ?_
                    refine j_iadd (pc := 77) C dX10_letters_77 ?_
                    refine j_istore_n (pc := 78) (lc' := [(3, vI (m + 1)), (4, vI 0), (6, vI (codeW w i)), (0, .ref h), (1, vL w), (5, vI i)]) C 3 rfl (by decide) rfl dX10_letters_78 ?_
                    refine j_iinc (pc := 79) (lc' := [(5, vI (i + 1)), (3, vI (m + 1)), (4, vI 0), (6, vI (codeW w i)), (0, .ref h), (1, vL w)]) C 5 rfl (by decide) rfl dX10_letters_79 ?_
                    refine j_goto (pc := 82) C 8 rfl dX10_letters_82 ?_
                    refine j_locals (lc' := [(0, .ref h), (1, vL w), (3, vI (m + 1)), (4, vI 0), (5, vI (i + 1))]) [4, 5, 1, 2, 0] rfl ?_
                    exact ih8 (m + 1) 0 (i + 1) (by omega) (by omega) (by omega) (by first | (exfalso; omega) | (rw [ln_step (by omega) (by omega) i8_2 (by omega)]; first | (rw [if_pos (by omega)]; omega) | (rw [if_neg (by omega)])))
                  · skip
                    refine j_iconst (pc := 72) C dX10_letters_72 ?_
                    refine j_goto (pc := 73) C 77 rfl dX10_letters_73 ?_
                    refine j_iadd (pc := 77) C dX10_letters_77 ?_
                    refine j_istore_n (pc := 78) (lc' := [(3, vI (m + 0)), (4, vI 0), (6, vI (codeW w i)), (0, .ref h), (1, vL w), (5, vI i)]) C 3 rfl (by decide) rfl dX10_letters_78 ?_
                    refine j_iinc (pc := 79) (lc' := [(5, vI (i + 1)), (3, vI (m + 0)), (4, vI 0), (6, vI (codeW w i)), (0, .ref h), (1, vL w)]) C 5 rfl (by decide) rfl dX10_letters_79 ?_
                    refine j_goto (pc := 82) C 8 rfl dX10_letters_82 ?_
                    refine j_locals (lc' := [(0, .ref h), (1, vL w), (3, vI (m + 0)), (4, vI 0), (5, vI (i + 1))]) [4, 5, 1, 2, 0] rfl ?_
                    exact ih8 (m + 0) 0 (i + 1) (by omega) (by omega) (by omega) (by first | (exfalso; omega) | (rw [ln_step (by omega) (by omega) i8_2 (by omega)]; first | (rw [if_pos (by omega)]; omega) | (rw [if_neg (by omega)])))
                · skip
                  refine j_iconst (pc := 59) C dX10_letters_59 ?_
                  refine j_goto (pc := 60) C 64 rfl dX10_letters_60 ?_
                  refine j_istore (pc := 64) (lc' := [(4, vI 1), (6, vI (codeW w i)), (0, .ref h), (1, vL w), (3, vI m), (5, vI i)]) C (by decide) rfl dX10_letters_64 ?_
                  refine j_iload_n (pc := 66) C 3 4 rfl rfl dX10_letters_66 ?_
                  refine j_iload (pc := 67) C 1 rfl dX10_letters_67 ?_
                  refine j_if_ne (pc := 69) C 76 rfl (by omega) dX10_letters_69 (fun h_16p69 => ?_) (fun h_16p69 => ?_)
                  · skip
                    refine j_iconst (pc := 76) C dX10_letters_76 ?_
                    refine j_iadd (pc := 77) C dX10_letters_77 ?_
                    refine j_istore_n (pc := 78) (lc' := [(3, vI (m + 1)), (4, vI 1), (6, vI (codeW w i)), (0, .ref h), (1, vL w), (5, vI i)]) C 3 rfl (by decide) rfl dX10_letters_78 ?_
                    refine j_iinc (pc := 79) (lc' := [(5, vI (i + 1)), (3, vI (m + 1)), (4, vI 1), (6, vI (codeW w i)), (0, .ref h), (1, vL w)]) C 5 rfl (by decide) rfl dX10_letters_79 ?_
                    refine j_goto (pc := 82) C 8 rfl dX10_letters_82 ?_
                    refine j_locals (lc' := [(0, .ref h), (1, vL w), (3, vI (m + 1)), (4, vI 1), (5, vI (i + 1))]) [4, 5, 1, 2, 0] rfl ?_
                    exact ih8 (m + 1) 1 (i + 1) (by omega) (by omega) (by omega) (by first | (exfalso; omega) | (rw [ln_step (by omega) (by omega) i8_2 (by omega)]; first | (rw [if_pos (by omega)]; omega) | (rw [if_neg (by omega)])))
                  · skip
                    refine j_iconst (pc := 72) C dX10_letters_72 ?_
                    refine j_goto (pc := 73) C 77 rfl dX10_letters_73 ?_
                    refine j_iadd (pc := 77) C dX10_letters_77 ?_
                    refine j_istore_n (pc := 78) (lc' := [(3, vI (m + 0)), (4, vI 1), (6, vI (codeW w i)), (0, .ref h), (1, vL w), (5, vI i)]) C 3 rfl (by decide) rfl dX10_letters_78 ?_
                    refine j_iinc (pc := 79) (lc' := [(5, vI (i + 1)), (3, vI (m + 0)), (4, vI 1), (6, vI (codeW w i)), (0, .ref h), (1, vL w)]) C 5 rfl (by decide) rfl dX10_letters_79 ?_
                    refine j_goto (pc := 82) C 8 rfl dX10_letters_82 ?_
                    refine j_locals (lc' := [(0, .ref h), (1, vL w), (3, vI (m + 0)), (4, vI 1), (5, vI (i + 1))]) [4, 5, 1, 2, 0] rfl ?_
                    exact ih8 (m + 0) 1 (i + 1) (by omega) (by omega) (by omega) (by first | (exfalso; omega) | (rw [ln_step (by omega) (by omega) i8_2 (by omega)]; first | (rw [if_pos (by omega)]; omega) | (rw [if_neg (by omega)])))
            · skip
              refine j_bipush (pc := 46) (w := (-102)) C rfl dX10_letters_46 ?_
              exact Rt _ _ _ _ _ _ (by decide) (by decide) ⟨by unfold rLetters; rw [if_pos (ln_bad (by omega) i8_2 (by omega))], by unfold sLetN sLetG; rw [if_pos (ln_bad (by omega) i8_2 (by omega)), if_pos (ln_bad (by omega) i8_2 (by omega))]; first | done | rfl⟩ dX10_letters_48
  refine j_locals (lc' := [(0, .ref h), (1, vL w), (3, vI 0), (4, vI 0), (5, vI 0)]) [3, 4, 2, 1, 0] rfl ?_
  exact hL8 _ 0 0 0 (Nat.lt_succ_self _) (by omega) (by omega) rfl
