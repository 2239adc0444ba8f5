def gPL (G : GS) (v : Int) : GS := (g_np G, g_nc G, v, g_ik G, g_ks G, g_ss G, g_fa G, g_iw G, g_nw G, g_ns G, g_ne G, g_h G)
def gCU (G : GS) : GS := (g_np G, g_nc G + 1, 0, g_ik G, g_ks G, g_ss G, g_fa G, g_iw G, g_nw G, g_ns G, g_ne G, g_h G)
theorem up_cw (cs : Int → CT) (n : Int) (C : CT) : cwof (up cs n C) = up (cwof cs) n (cw C) := by funext i; unfold cwof up; dsimp only; split <;> rfl
theorem up_cz (cs : Int → CT) (n : Int) (C : CT) : czof (up cs n C) = up (czof cs) n (cz C) := by funext i; unfold czof up; dsimp only; split <;> rfl
theorem up_ce (cs : Int → CT) (n : Int) (C : CT) : ceof (up cs n C) = up (ceof cs) n (ce C) := by funext i; unfold ceof up; dsimp only; split <;> rfl
def fitQ (i c : Int) : Prop := fitP i c
theorem fit_le {i c : Int} (h : fitQ i c) : 0 ≤ i ∧ i ≤ 5 := by unfold fitQ fitP at h; omega
theorem fitQ_of {q k c : Int} (hq : q = k) (h : ¬ (if fitP q c then q + 1 else -1) = -1) : fitQ k c := hq ▸ fit_of h
theorem fitQ_not {q k c : Int} (hq : q = k) (h0 : 0 ≤ k) (h : (if fitP q c then q + 1 else -1) = -1) : ¬ fitQ k c := by subst hq; exact fit_not h0 h
theorem fault_eqQ {pg : Int → Int} {pl k b : Int} (h0 : 0 ≤ k) (h : fstI (fun i => ¬ fitP i (pg i)) k = -1) (hk : b = 1 ∨ (b = 0 ∧ k < pl ∧ ¬ fitQ k (pg k))) (he : k ≤ pl ∧ (k = pl ∨ b = 0)) : faultI pg pl = k := by
  refine fault_eq h0 h ?_
  rcases hk with q | q
  · exact Or.inl (by omega)
  · exact Or.inr ⟨q.2.1, q.2.2⟩
theorem cus_lit1 {pg : Int → Int} {pl k : Int} (hf : faultI pg pl = k) (h : k = pl) (h4 : pl = 4 ∨ pl = 6) : (1 : Int) = if cusP pg pl then 1 else 0 := by rw [if_pos ⟨h4, by omega⟩]
theorem cus_lit0 {pg : Int → Int} {pl k : Int} (hf : faultI pg pl = k) (h : ¬ (k = pl ∧ (k = 4 ∨ k = 6))) : (0 : Int) = if cusP pg pl then 1 else 0 := by
  rw [if_neg]
  intro z
  have := z.1
  have := z.2
  omega
theorem ite_rng {P : Prop} [Decidable P] {q : Int} (h : 0 ≤ q ∧ q ≤ 6) : (-2147483648 ≤ (if P then q + 1 else -1) ∧ (if P then q + 1 else -1) ≤ 2147483647) ∧ (-2147483648 ≤ (-1 : Int) ∧ (-1 : Int) ≤ 2147483647) := by
  by_cases z : P
  · rw [if_pos z]; omega
  · rw [if_neg z]; omega
set_option maxHeartbeats 4000000 in
set_option maxRecDepth 100000 in
theorem m_ruleBy (l : Launch) (D : va_G) (Y : Nat → ClassId) (RO : va_W) (c : Int)  (hc : -2147483648 ≤ c ∧ c ≤ 2147483647) : jMi l yX10_ruleBy wsX10_ruleBy { frames := 1, cells := 0, slots := 0, locals := 22 } D Y RO [vI c] [] (fun e w1 => e = ruleI c ∧ w1 = []) := by
  refine j_ofi RX10 rfl rfl rfl (Nat.le_of_ble_eq_true rfl) (fun X C Rt => ?_)
  refine j_iload_n (pc := 0) C 0 0 rfl rfl dX10_ruleBy_0 ?_
  refine j_bipush (pc := 1) (w := 48) C rfl dX10_ruleBy_1 ?_
  refine j_bipush (pc := 3) (w := 54) C rfl dX10_ruleBy_3 ?_
  refine j_callSi (pc := 5) (As := [vI c, vI 48, vI 54]) (na := 3) (st := []) C [] [] (wr := []) (fun l => m_within l D Y _ c 48 54 (by first | assumption | omega) (by first | assumption | omega) (by first | assumption | omega)) rfl rfl rfl rfl (by decide) rfl gX10_ruleBy_X10_within (by decide +kernel) (by decide) rfl rfl (Nat.le_of_ble_eq_true rfl) (by decide) dX10_ruleBy_5 (fun e_1 w_2 h_3 => ?_)
  obtain ⟨rfl, rfl⟩ := h_3
  refine j_perm (ws' := []) [] rfl rfl ?_
  refine j_if_eqb (pc := 8) C 16 rfl dX10_ruleBy_8 (fun h_4p8 => ?_) (fun h_4p8 => ?_)
  · skip
    refine j_iload_n (pc := 16) C 0 0 rfl rfl dX10_ruleBy_16 ?_
    refine j_bipush (pc := 17) (w := 109) C rfl dX10_ruleBy_17 ?_
    refine j_icmp_ne (pc := 19) C 27 rfl (by omega) dX10_ruleBy_19 (fun h_5p19 => ?_) (fun h_5p19 => ?_)
    · skip
      refine j_iload_n (pc := 27) C 0 0 rfl rfl dX10_ruleBy_27 ?_
      refine j_bipush (pc := 28) (w := 108) C rfl dX10_ruleBy_28 ?_
      refine j_icmp_ne (pc := 30) C 38 rfl (by omega) dX10_ruleBy_30 (fun h_6p30 => ?_) (fun h_6p30 => ?_)
      · skip
        refine j_iload_n (pc := 38) C 0 0 rfl rfl dX10_ruleBy_38 ?_
        refine j_bipush (pc := 39) (w := 112) C rfl dX10_ruleBy_39 ?_
        refine j_icmp_ne (pc := 41) C 49 rfl (by omega) dX10_ruleBy_41 (fun h_7p41 => ?_) (fun h_7p41 => ?_)
        · skip
          refine j_iload_n (pc := 49) C 0 0 rfl rfl dX10_ruleBy_49 ?_
          refine j_bipush (pc := 50) (w := 110) C rfl dX10_ruleBy_50 ?_
          refine j_icmp_ne (pc := 52) C 60 rfl (by omega) dX10_ruleBy_52 (fun h_8p52 => ?_) (fun h_8p52 => ?_)
          · skip
            refine j_iconst (pc := 60) C dX10_ruleBy_60 ?_
            exact Rt _ _ _ _ _ _ (by decide) (by decide) ⟨by unfold ruleI; first | (exfalso; omega) | rw [if_pos (by omega)] | (rw [if_neg (by omega)]; first | rw [if_pos (by omega)] | (rw [if_neg (by omega)]; first | rw [if_pos (by omega)] | (rw [if_neg (by omega)]; first | rw [if_pos (by omega)] | (rw [if_neg (by omega)]; first | rw [if_pos (by omega)] | rw [if_neg (by omega)])))), rfl⟩ dX10_ruleBy_61
          · skip
            refine j_bipush (pc := 55) (w := 10) C rfl dX10_ruleBy_55 ?_
            refine j_goto (pc := 57) C 61 rfl dX10_ruleBy_57 ?_
            exact Rt _ _ _ _ _ _ (by decide) (by decide) ⟨by unfold ruleI; first | (exfalso; omega) | rw [if_pos (by omega)] | (rw [if_neg (by omega)]; first | rw [if_pos (by omega)] | (rw [if_neg (by omega)]; first | rw [if_pos (by omega)] | (rw [if_neg (by omega)]; first | rw [if_pos (by omega)] | (rw [if_neg (by omega)]; first | rw [if_pos (by omega)] | rw [if_neg (by omega)])))), rfl⟩ dX10_ruleBy_61
        · skip
          refine j_bipush (pc := 44) (w := 9) C rfl dX10_ruleBy_44 ?_
          refine j_goto (pc := 46) C 61 rfl dX10_ruleBy_46 ?_
          exact Rt _ _ _ _ _ _ (by decide) (by decide) ⟨by unfold ruleI; first | (exfalso; omega) | rw [if_pos (by omega)] | (rw [if_neg (by omega)]; first | rw [if_pos (by omega)] | (rw [if_neg (by omega)]; first | rw [if_pos (by omega)] | (rw [if_neg (by omega)]; first | rw [if_pos (by omega)] | (rw [if_neg (by omega)]; first | rw [if_pos (by omega)] | rw [if_neg (by omega)])))), rfl⟩ dX10_ruleBy_61
      · skip
        refine j_bipush (pc := 33) (w := 8) C rfl dX10_ruleBy_33 ?_
        refine j_goto (pc := 35) C 61 rfl dX10_ruleBy_35 ?_
        exact Rt _ _ _ _ _ _ (by decide) (by decide) ⟨by unfold ruleI; first | (exfalso; omega) | rw [if_pos (by omega)] | (rw [if_neg (by omega)]; first | rw [if_pos (by omega)] | (rw [if_neg (by omega)]; first | rw [if_pos (by omega)] | (rw [if_neg (by omega)]; first | rw [if_pos (by omega)] | (rw [if_neg (by omega)]; first | rw [if_pos (by omega)] | rw [if_neg (by omega)])))), rfl⟩ dX10_ruleBy_61
    · skip
      refine j_bipush (pc := 22) (w := 7) C rfl dX10_ruleBy_22 ?_
      refine j_goto (pc := 24) C 61 rfl dX10_ruleBy_24 ?_
      exact Rt _ _ _ _ _ _ (by decide) (by decide) ⟨by unfold ruleI; first | (exfalso; omega) | rw [if_pos (by omega)] | (rw [if_neg (by omega)]; first | rw [if_pos (by omega)] | (rw [if_neg (by omega)]; first | rw [if_pos (by omega)] | (rw [if_neg (by omega)]; first | rw [if_pos (by omega)] | (rw [if_neg (by omega)]; first | rw [if_pos (by omega)] | rw [if_neg (by omega)])))), rfl⟩ dX10_ruleBy_61
  · skip
    refine j_iload_n (pc := 11) C 0 0 rfl rfl dX10_ruleBy_11 ?_
    refine j_bipush (pc := 12) (w := 48) C rfl dX10_ruleBy_12 ?_
    refine j_isub (pc := 14) C dX10_ruleBy_14 ?_
    exact Rt _ _ _ _ _ _ (by decide) (by decide) ⟨by unfold ruleI; first | (exfalso; omega) | rw [if_pos (by omega)] | (rw [if_neg (by omega)]; first | rw [if_pos (by omega)] | (rw [if_neg (by omega)]; first | rw [if_pos (by omega)] | (rw [if_neg (by omega)]; first | rw [if_pos (by omega)] | (rw [if_neg (by omega)]; first | rw [if_pos (by omega)] | rw [if_neg (by omega)])))), rfl⟩ dX10_ruleBy_15

theorem fX10_nextState_X10 : ∀ w ∈ u_ws RX10 TX10 35, w ∈ wsX10_nextState := j_words [11, 12, 13, 14, 15, 16, 17, 18, 19, 20, 21, 22, 23, 24, 25, 26, 27, 28, 29, 30, 31, 32, 33, 34, 35, 36, 37, 38, 39, 40, 41, 42, 43, 44, 45] (by decide +kernel)
set_option maxHeartbeats 4000000 in
set_option maxRecDepth 100000 in
theorem m_nextState (l : Launch) (D : va_G) (Y : Nat → ClassId) (RO : va_W) (h : Nat) (r : Nat → Nat) (S : MS) (G : GS) (q : Int) (c : Int)  (hq : 0 ≤ q ∧ q ≤ 6) (hc : 1 ≤ c ∧ c ≤ 126) : jMi l yX10_nextState wsX10_nextState { frames := 2, cells := 0, slots := 0, locals := 42 } D Y RO [.ref h, vI q, vI c] [(h, oC 9 [.ref (r 0), .ref (r 1), vI (ms_w S), vI (ms_l S), vL (ms_s S), vI (ms_a S), vI (ms_t S), vI (ms_p S), vI (g_np G), .ref (r 9), .ref (r 10), .ref (r 11), .ref (r 12), .ref (r 13), vI (g_nc G), .ref (r 15), .ref (r 16), .ref (r 17), vI (g_pl G), .ref (r 19), vI (g_ik G), vL (g_ks G), .ref (r 22), vL (g_ss G), .ref (r 24), vI (g_fa G), vI (g_iw G), vI (g_nw G), vI (g_ns G), vI (g_ne G), .ref (r 30), .ref (r 31), .ref (r 32), .ref (r 33), vL (g_h G)])] (fun e w1 => e = (if fitP q c then q + 1 else -1) ∧ w1 = [(h, oC 9 [.ref (r 0), .ref (r 1), vI (ms_w S), vI (ms_l S), vL (ms_s S), vI (ms_a S), vI (ms_t S), vI (ms_p S), vI (g_np (gNX q c G)), .ref (r 9), .ref (r 10), .ref (r 11), .ref (r 12), .ref (r 13), vI (g_nc (gNX q c G)), .ref (r 15), .ref (r 16), .ref (r 17), vI (g_pl (gNX q c G)), .ref (r 19), vI (g_ik (gNX q c G)), vL (g_ks (gNX q c G)), .ref (r 22), vL (g_ss (gNX q c G)), .ref (r 24), vI (g_fa (gNX q c G)), vI (g_iw (gNX q c G)), vI (g_nw (gNX q c G)), vI (g_ns (gNX q c G)), vI (g_ne (gNX q c G)), .ref (r 30), .ref (r 31), .ref (r 32), .ref (r 33), vL (g_h (gNX q c G))])]) := by
  refine j_ofi RX10 rfl rfl rfl (Nat.le_of_ble_eq_true rfl) (fun X C Rt => ?_)
  have hru := ruleI_in c
  refine j_iload_n (pc := 0) C 1 1 rfl rfl dX10_nextState_0 ?_
  rcases (show q = 0 ∨ q = 1 ∨ q = 2 ∨ q = 3 ∨ q = 4 ∨ q = 5 ∨ (q < 0 ∨ 5 < q) by omega) with h_1p1 | h_1p1 | h_1p1 | h_1p1 | h_1p1 | h_1p1 | h_1p1
  · refine j_tableC (pc := 1) C 0 40 h_1p1 (by decide) rfl rfl dX10_nextState_1 ?_
    refine j_iload_n (pc := 40) C 2 2 rfl rfl dX10_nextState_40 ?_
    refine j_bipush (pc := 41) (w := 119) C rfl dX10_nextState_41 ?_
    refine j_icmp_ne (pc := 43) C 50 rfl (by omega) dX10_nextState_43 (fun h_2p43 => ?_) (fun h_2p43 => ?_)
    · skip
      refine j_iconst (pc := 50) C dX10_nextState_50 ?_
      exact Rt _ _ _ _ _ _ (by decide) (by decide) ⟨by unfold fitP; split <;> omega, by unfold gNX; first | (rw [if_pos (by omega), if_neg (by omega), if_neg (by omega)]; done) | (rw [if_neg (by omega), if_pos (by omega), if_neg (by omega)]; done) | (rw [if_neg (by omega), if_neg (by omega), if_pos (by omega)]; done) | (rw [if_neg (by omega), if_neg (by omega), if_neg (by omega)]; done)⟩ dX10_nextState_51
    · skip
      refine j_iconst (pc := 46) C dX10_nextState_46 ?_
      refine j_goto (pc := 47) C 51 rfl dX10_nextState_47 ?_
      exact Rt _ _ _ _ _ _ (by decide) (by decide) ⟨by unfold fitP; split <;> omega, by unfold gNX; first | (rw [if_pos (by omega), if_neg (by omega), if_neg (by omega)]; done) | (rw [if_neg (by omega), if_pos (by omega), if_neg (by omega)]; done) | (rw [if_neg (by omega), if_neg (by omega), if_pos (by omega)]; done) | (rw [if_neg (by omega), if_neg (by omega), if_neg (by omega)]; done)⟩ dX10_nextState_51
  · refine j_tableC (pc := 1) C 1 52 h_1p1 (by decide) rfl rfl dX10_nextState_1 ?_
    refine j_aload_n (pc := 52) C 0 0 rfl rfl dX10_nextState_52 ?_
    refine j_iload_n (pc := 53) C 2 2 rfl rfl dX10_nextState_53 ?_
    refine j_callSi (pc := 54) (As := [vI c]) (na := 1) (st := [.ref h]) C [] [0] (wr := [(h, oC 9 [.ref (r 0), .ref (r 1), vI (ms_w S), vI (ms_l S), vL (ms_s S), vI (ms_a S), vI (ms_t S), vI (ms_p S), vI (g_np G), .ref (r 9), .ref (r 10), .ref (r 11), .ref (r 12), .ref (r 13), vI (g_nc G), .ref (r 15), .ref (r 16), .ref (r 17), vI (g_pl G), .ref (r 19), vI (g_ik G), vL (g_ks G), .ref (r 22), vL (g_ss G), .ref (r 24), vI (g_fa G), vI (g_iw G), vI (g_nw G), vI (g_ns G), vI (g_ne G), .ref (r 30), .ref (r 31), .ref (r 32), .ref (r 33), vL (g_h G)])]) (fun l => m_ruleBy l D Y _ c (by first | assumption | omega)) rfl rfl rfl rfl (by decide) rfl gX10_nextState_X10_ruleBy (by decide +kernel) (by decide) rfl rfl (Nat.le_of_ble_eq_true rfl) (by decide) dX10_nextState_54 (fun e_3 w_4 h_5 => ?_)
    obtain ⟨rfl, rfl⟩ := h_5
    refine j_perm (ws' := [(h, oC 9 [.ref (r 0), .ref (r 1), vI (ms_w S), vI (ms_l S), vL (ms_s S), vI (ms_a S), vI (ms_t S), vI (ms_p S), vI (g_np G), .ref (r 9), .ref (r 10), .ref (r 11), .ref (r 12), .ref (r 13), vI (g_nc G), .ref (r 15), .ref (r 16), .ref (r 17), vI (g_pl G), .ref (r 19), vI (g_ik G), vL (g_ks G), .ref (r 22), vL (g_ss G), .ref (r 24), vI (g_fa G), vI (g_iw G), vI (g_nw G), vI (g_ns G), vI (g_ne G), .ref (r 30), .ref (r 31), .ref (r 32), .ref (r 33), vL (g_h G)])]) [0] rfl rfl ?_
    refine j_put (pc := 57) (ws' := [(h, oC 9 [.ref (r 0), .ref (r 1), vI (ms_w S), vI (ms_l S), vL (ms_s S), vI (ms_a S), vI (ms_t S), vI (ms_p S), vI (g_np G), .ref (r 9), .ref (r 10), .ref (r 11), .ref (r 12), .ref (r 13), vI (g_nc G), .ref (r 15), .ref (r 16), .ref (r 17), vI (g_pl G), .ref (r 19), vI (g_ik G), vL (g_ks G), .ref (r 22), vL (g_ss G), .ref (r 24), vI (g_fa G), vI (g_iw G), vI (ruleI c), vI (g_ns G), vI (g_ne G), .ref (r 30), .ref (r 31), .ref (r 32), .ref (r 33), vL (g_h G)])]) C 0 rfl rfl fX10_nextState_X10 tyX10_ok nmX10 27 (by decide) (List.mem_of_getElem? (i := 1) rfl) (Or.inl rfl) rfl rfl rfl rfl (Nat.le_of_ble_eq_true rfl) rfl dX10_nextState_57 ?_
    refine j_aload_n (pc := 60) C 0 0 rfl rfl dX10_nextState_60 ?_
    refine j_get (pc := 61) C (Or.inl (List.mem_of_getElem? (i := 0) rfl)) rfl fX10_nextState_X10 27 (by decide) (List.mem_of_getElem? (i := 1) rfl) (Or.inl rfl) rfl dX10_nextState_61 ?_
    refine j_iconst (pc := 64) C dX10_nextState_64 ?_
    refine j_icmp_ne (pc := 65) C 72 rfl (by omega) dX10_nextState_65 (fun h_6p65 => ?_) (fun h_6p65 => ?_)
    · skip
      refine j_iconst (pc := 72) C dX10_nextState_72 ?_
      exact Rt _ _ _ _ _ _ (by decide) (by decide) ⟨by unfold fitP; split <;> omega, by unfold gNX; first | (rw [if_pos (by omega), if_neg (by omega), if_neg (by omega)]; done) | (rw [if_neg (by omega), if_pos (by omega), if_neg (by omega)]; done) | (rw [if_neg (by omega), if_neg (by omega), if_pos (by omega)]; done) | (rw [if_neg (by omega), if_neg (by omega), if_neg (by omega)]; done)⟩ dX10_nextState_73
    · skip
      refine j_iconst (pc := 68) C dX10_nextState_68 ?_
      refine j_goto (pc := 69) C 73 rfl dX10_nextState_69 ?_
      exact Rt _ _ _ _ _ _ (by decide) (by decide) ⟨by unfold fitP; split <;> omega, by unfold gNX; first | (rw [if_pos (by omega), if_neg (by omega), if_neg (by omega)]; done) | (rw [if_neg (by omega), if_pos (by omega), if_neg (by omega)]; done) | (rw [if_neg (by omega), if_neg (by omega), if_pos (by omega)]; done) | (rw [if_neg (by omega), if_neg (by omega), if_neg (by omega)]; done)⟩ dX10_nextState_73
  · refine j_tableC (pc := 1) C 2 74 h_1p1 (by decide) rfl rfl dX10_nextState_1 ?_
    refine j_iload_n (pc := 74) C 2 2 rfl rfl dX10_nextState_74 ?_
    refine j_bipush (pc := 75) (w := 115) C rfl dX10_nextState_75 ?_
    refine j_icmp_ne (pc := 77) C 84 rfl (by omega) dX10_nextState_77 (fun h_7p77 => ?_) (fun h_7p77 => ?_)
    · skip
      refine j_iconst (pc := 84) C dX10_nextState_84 ?_
      exact Rt _ _ _ _ _ _ (by decide) (by decide) ⟨by unfold fitP; split <;> omega, by unfold gNX; first | (rw [if_pos (by omega), if_neg (by omega), if_neg (by omega)]; done) | (rw [if_neg (by omega), if_pos (by omega), if_neg (by omega)]; done) | (rw [if_neg (by omega), if_neg (by omega), if_pos (by omega)]; done) | (rw [if_neg (by omega), if_neg (by omega), if_neg (by omega)]; done)⟩ dX10_nextState_85
    · skip
      refine j_iconst (pc := 80) C dX10_nextState_80 ?_
      refine j_goto (pc := 81) C 85 rfl dX10_nextState_81 ?_
      exact Rt _ _ _ _ _ _ (by decide) (by decide) ⟨by unfold fitP; split <;> omega, by unfold gNX; first | (rw [if_pos (by omega), if_neg (by omega), if_neg (by omega)]; done) | (rw [if_neg (by omega), if_pos (by omega), if_neg (by omega)]; done) | (rw [if_neg (by omega), if_neg (by omega), if_pos (by omega)]; done) | (rw [if_neg (by omega), if_neg (by omega), if_neg (by omega)]; done)⟩ dX10_nextState_85
  · refine j_tableC (pc := 1) C 3 86 h_1p1 (by decide) rfl rfl dX10_nextState_1 ?_
    refine j_aload_n (pc := 86) C 0 0 rfl rfl dX10_nextState_86 ?_
    refine j_iload_n (pc := 87) C 2 2 rfl rfl dX10_nextState_87 ?_
    refine j_callSi (pc := 88) (As := [vI c]) (na := 1) (st := [.ref h]) C [] [0] (wr := [(h, oC 9 [.ref (r 0), .ref (r 1), vI (ms_w S), vI (ms_l S), vL (ms_s S), vI (ms_a S), vI (ms_t S), vI (ms_p S), vI (g_np G), .ref (r 9), .ref (r 10), .ref (r 11), .ref (r 12), .ref (r 13), vI (g_nc G), .ref (r 15), .ref (r 16), .ref (r 17), vI (g_pl G), .ref (r 19), vI (g_ik G), vL (g_ks G), .ref (r 22), vL (g_ss G), .ref (r 24), vI (g_fa G), vI (g_iw G), vI (g_nw G), vI (g_ns G), vI (g_ne G), .ref (r 30), .ref (r 31), .ref (r 32), .ref (r 33), vL (g_h G)])]) (fun l => m_ruleBy l D Y _ c (by first | assumption | omega)) rfl rfl rfl rfl (by decide) rfl gX10_nextState_X10_ruleBy (by decide +kernel) (by decide) rfl rfl (Nat.le_of_ble_eq_true rfl) (by decide) dX10_nextState_88 (fun e_8 w_9 h_10 => ?_)
    obtain ⟨rfl, rfl⟩ := h_10
    refine j_perm (ws' := [(h, oC 9 [.ref (r 0), .ref (r 1), vI (ms_w S), vI (ms_l S), vL (ms_s S), vI (ms_a S), vI (ms_t S), vI (ms_p S), vI (g_np G), .ref (r 9), .ref (r 10), .ref (r 11), .ref (r 12), .ref (r 13), vI (g_nc G), .ref (r 15), .ref (r 16), .ref (r 17), vI (g_pl G), .ref (r 19), vI (g_ik G), vL (g_ks G), .ref (r 22), vL (g_ss G), .ref (r 24), vI (g_fa G), vI (g_iw G), vI (g_nw G), vI (g_ns G), vI (g_ne G), .ref (r 30), .ref (r 31), .ref (r 32), .ref (r 33), vL (g_h G)])]) [0] rfl rfl ?_
    refine j_put (pc := 91) (ws' := [(h, oC 9 [.ref (r 0), .ref (r 1), vI (ms_w S), vI (ms_l S), vL (ms_s S), vI (ms_a S), vI (ms_t S), vI (ms_p S), vI (g_np G), .ref (r 9), .ref (r 10), .ref (r 11), .ref (r 12), .ref (r 13), vI (g_nc G), .ref (r 15), .ref (r 16), .ref (r 17), vI (g_pl G), .ref (r 19), vI (g_ik G), vL (g_ks G), .ref (r 22), vL (g_ss G), .ref (r 24), vI (g_fa G), vI (g_iw G), vI (g_nw G), vI (ruleI c), vI (g_ne G), .ref (r 30), .ref (r 31), .ref (r 32), .ref (r 33), vL (g_h G)])]) C 0 rfl rfl fX10_nextState_X10 tyX10_ok nmX10 28 (by decide) (List.mem_of_getElem? (i := 2) rfl) (Or.inl rfl) rfl rfl rfl rfl (Nat.le_of_ble_eq_true rfl) rfl dX10_nextState_91 ?_
    refine j_aload_n (pc := 94) C 0 0 rfl rfl dX10_nextState_94 ?_
    refine j_get (pc := 95) C (Or.inl (List.mem_of_getElem? (i := 0) rfl)) rfl fX10_nextState_X10 28 (by decide) (List.mem_of_getElem? (i := 2) rfl) (Or.inl rfl) rfl dX10_nextState_95 ?_
    refine j_iconst (pc := 98) C dX10_nextState_98 ?_
    refine j_icmp_ne (pc := 99) C 106 rfl (by omega) dX10_nextState_99 (fun h_11p99 => ?_) (fun h_11p99 => ?_)
    · skip
      refine j_iconst (pc := 106) C dX10_nextState_106 ?_
      exact Rt _ _ _ _ _ _ (by decide) (by decide) ⟨by unfold fitP; split <;> omega, by unfold gNX; first | (rw [if_pos (by omega), if_neg (by omega), if_neg (by omega)]; done) | (rw [if_neg (by omega), if_pos (by omega), if_neg (by omega)]; done) | (rw [if_neg (by omega), if_neg (by omega), if_pos (by omega)]; done) | (rw [if_neg (by omega), if_neg (by omega), if_neg (by omega)]; done)⟩ dX10_nextState_107
    · skip
      refine j_iconst (pc := 102) C dX10_nextState_102 ?_
      refine j_goto (pc := 103) C 107 rfl dX10_nextState_103 ?_
      exact Rt _ _ _ _ _ _ (by decide) (by decide) ⟨by unfold fitP; split <;> omega, by unfold gNX; first | (rw [if_pos (by omega), if_neg (by omega), if_neg (by omega)]; done) | (rw [if_neg (by omega), if_pos (by omega), if_neg (by omega)]; done) | (rw [if_neg (by omega), if_neg (by omega), if_pos (by omega)]; done) | (rw [if_neg (by omega), if_neg (by omega), if_neg (by omega)]; done)⟩ dX10_nextState_107
  · refine j_tableC (pc := 1) C 4 108 h_1p1 (by decide) rfl rfl dX10_nextState_1 ?_
    refine j_iload_n (pc := 108) C 2 2 rfl rfl dX10_nextState_108 ?_
    refine j_bipush (pc := 109) (w := 102) C rfl dX10_nextState_109 ?_
    refine j_icmp_ne (pc := 111) C 118 rfl (by omega) dX10_nextState_111 (fun h_12p111 => ?_) (fun h_12p111 => ?_)
    · skip
      refine j_iconst (pc := 118) C dX10_nextState_118 ?_
      exact Rt _ _ _ _ _ _ (by decide) (by decide) ⟨by unfold fitP; split <;> omega, by unfold gNX; first | (rw [if_pos (by omega), if_neg (by omega), if_neg (by omega)]; done) | (rw [if_neg (by omega), if_pos (by omega), if_neg (by omega)]; done) | (rw [if_neg (by omega), if_neg (by omega), if_pos (by omega)]; done) | (rw [if_neg (by omega), if_neg (by omega), if_neg (by omega)]; done)⟩ dX10_nextState_119
    · skip
      refine j_iconst (pc := 114) C dX10_nextState_114 ?_
      refine j_goto (pc := 115) C 119 rfl dX10_nextState_115 ?_
      exact Rt _ _ _ _ _ _ (by decide) (by decide) ⟨by unfold fitP; split <;> omega, by unfold gNX; first | (rw [if_pos (by omega), if_neg (by omega), if_neg (by omega)]; done) | (rw [if_neg (by omega), if_pos (by omega), if_neg (by omega)]; done) | (rw [if_neg (by omega), if_neg (by omega), if_pos (by omega)]; done) | (rw [if_neg (by omega), if_neg (by omega), if_neg (by omega)]; done)⟩ dX10_nextState_119
  · refine j_tableC (pc := 1) C 5 120 h_1p1 (by decide) rfl rfl dX10_nextState_1 ?_
    refine j_aload_n (pc := 120) C 0 0 rfl rfl dX10_nextState_120 ?_
    refine j_iload_n (pc := 121) C 2 2 rfl rfl dX10_nextState_121 ?_
    refine j_bipush (pc := 122) (w := 48) C rfl dX10_nextState_122 ?_
    refine j_isub (pc := 124) C dX10_nextState_124 ?_
    refine j_put (pc := 125) (ws' := [(h, oC 9 [.ref (r 0), .ref (r 1), vI (ms_w S), vI (ms_l S), vL (ms_s S), vI (ms_a S), vI (ms_t S), vI (ms_p S), vI (g_np G), .ref (r 9), .ref (r 10), .ref (r 11), .ref (r 12), .ref (r 13), vI (g_nc G), .ref (r 15), .ref (r 16), .ref (r 17), vI (g_pl G), .ref (r 19), vI (g_ik G), vL (g_ks G), .ref (r 22), vL (g_ss G), .ref (r 24), vI (g_fa G), vI (g_iw G), vI (g_nw G), vI (g_ns G), vI (c - 48), .ref (r 30), .ref (r 31), .ref (r 32), .ref (r 33), vL (g_h G)])]) C 0 rfl rfl fX10_nextState_X10 tyX10_ok nmX10 29 (by decide) (List.mem_of_getElem? (i := 3) rfl) (Or.inl rfl) rfl rfl rfl rfl (Nat.le_of_ble_eq_true rfl) rfl dX10_nextState_125 ?_
    refine j_iload_n (pc := 128) C 2 2 rfl rfl dX10_nextState_128 ?_
    refine j_bipush (pc := 129) (w := 49) C rfl dX10_nextState_129 ?_
    refine j_bipush (pc := 131) (w := 57) C rfl dX10_nextState_131 ?_
    refine j_callSi (pc := 133) (As := [vI c, vI 49, vI 57]) (na := 3) (st := []) C [] [0] (wr := [(h, oC 9 [.ref (r 0), .ref (r 1), vI (ms_w S), vI (ms_l S), vL (ms_s S), vI (ms_a S), vI (ms_t S), vI (ms_p S), vI (g_np G), .ref (r 9), .ref (r 10), .ref (r 11), .ref (r 12), .ref (r 13), vI (g_nc G), .ref (r 15), .ref (r 16), .ref (r 17), vI (g_pl G), .ref (r 19), vI (g_ik G), vL (g_ks G), .ref (r 22), vL (g_ss G), .ref (r 24), vI (g_fa G), vI (g_iw G), vI (g_nw G), vI (g_ns G), vI (c - 48), .ref (r 30), .ref (r 31), .ref (r 32), .ref (r 33), vL (g_h G)])]) (fun l => m_within l D Y _ c 49 57 (by first | assumption | omega) (by first | assumption | omega) (by first | assumption | omega)) rfl rfl rfl rfl (by decide) rfl gX10_nextState_X10_within (by decide +kernel) (by decide) rfl rfl (Nat.le_of_ble_eq_true rfl) (by decide) dX10_nextState_133 (fun e_13 w_14 h_15 => ?_)
    obtain ⟨rfl, rfl⟩ := h_15
    refine j_perm (ws' := [(h, oC 9 [.ref (r 0), .ref (r 1), vI (ms_w S), vI (ms_l S), vL (ms_s S), vI (ms_a S), vI (ms_t S), vI (ms_p S), vI (g_np G), .ref (r 9), .ref (r 10), .ref (r 11), .ref (r 12), .ref (r 13), vI (g_nc G), .ref (r 15), .ref (r 16), .ref (r 17), vI (g_pl G), .ref (r 19), vI (g_ik G), vL (g_ks G), .ref (r 22), vL (g_ss G), .ref (r 24), vI (g_fa G), vI (g_iw G), vI (g_nw G), vI (g_ns G), vI (c - 48), .ref (r 30), .ref (r 31), .ref (r 32), .ref (r 33), vL (g_h G)])]) [0] rfl rfl ?_
    refine j_if_eqb (pc := 136) C 144 rfl dX10_nextState_136 (fun h_16p136 => ?_) (fun h_16p136 => ?_)
    · skip
      refine j_iconst (pc := 144) C dX10_nextState_144 ?_
      exact Rt _ _ _ _ _ _ (by decide) (by decide) ⟨by unfold fitP; split <;> omega, by unfold gNX; first | (rw [if_pos (by omega), if_neg (by omega), if_neg (by omega)]; done) | (rw [if_neg (by omega), if_pos (by omega), if_neg (by omega)]; done) | (rw [if_neg (by omega), if_neg (by omega), if_pos (by omega)]; done) | (rw [if_neg (by omega), if_neg (by omega), if_neg (by omega)]; done)⟩ dX10_nextState_145
    · skip
      refine j_bipush (pc := 139) (w := 6) C rfl dX10_nextState_139 ?_
      refine j_goto (pc := 141) C 145 rfl dX10_nextState_141 ?_
      exact Rt _ _ _ _ _ _ (by decide) (by decide) ⟨by unfold fitP; split <;> omega, by unfold gNX; first | (rw [if_pos (by omega), if_neg (by omega), if_neg (by omega)]; done) | (rw [if_neg (by omega), if_pos (by omega), if_neg (by omega)]; done) | (rw [if_neg (by omega), if_neg (by omega), if_pos (by omega)]; done) | (rw [if_neg (by omega), if_neg (by omega), if_neg (by omega)]; done)⟩ dX10_nextState_145
  · refine j_tableD (pc := 1) C 146 (by omega) h_1p1 rfl dX10_nextState_1 ?_
    refine j_iconst (pc := 146) C dX10_nextState_146 ?_
    exact Rt _ _ _ _ _ _ (by decide) (by decide) ⟨by unfold fitP; split <;> omega, by unfold gNX; first | (rw [if_pos (by omega), if_neg (by omega), if_neg (by omega)]; done) | (rw [if_neg (by omega), if_pos (by omega), if_neg (by omega)]; done) | (rw [if_neg (by omega), if_neg (by omega), if_pos (by omega)]; done) | (rw [if_neg (by omega), if_neg (by omega), if_neg (by omega)]; done)⟩ dX10_nextState_147

theorem fX10_readCustom_X10 : ∀ w ∈ u_ws RX10 TX10 35, w ∈ wsX10_readCustom := j_words [19, 20, 21, 22, 23, 24, 25, 26, 27, 28, 29, 30, 31, 32, 33, 34, 35, 36, 37, 38, 39, 40, 41, 42, 43, 44, 45, 46, 47, 48, 49, 50, 51, 52, 53] (by decide +kernel)
set_option maxHeartbeats 500000 in
set_option maxRecDepth 100000 in
theorem m_readCustom (l : Launch) (D : va_G) (Y : Nat → ClassId) (RO : va_W) (h : Nat) (r : Nat → Nat) (S : MS) (G : GS) (pg : Int → Int) (pl : Int) (p0 : ((r 19), aI (Y 1) 16 pg) ∈ RO) (hp : okPg pg pl) (hple : g_pl G = pl) : jMv l yX10_readCustom wsX10_readCustom { frames := 3, cells := 0, slots := 0, locals := 64 } D Y RO [.ref h] [(h, oC 9 [.ref (r 0), .ref (r 1), vI (ms_w S), vI (ms_l S), vL (ms_s S), vI (ms_a S), vI (ms_t S), vI (ms_p S), vI (g_np G), .ref (r 9), .ref (r 10), .ref (r 11), .ref (r 12), .ref (r 13), vI (g_nc G), .ref (r 15), .ref (r 16), .ref (r 17), vI (g_pl G), .ref (r 19), vI (g_ik G), vL (g_ks G), .ref (r 22), vL (g_ss G), .ref (r 24), vI (g_fa G), vI (g_iw G), vI (g_nw G), vI (g_ns G), vI (g_ne G), .ref (r 30), .ref (r 31), .ref (r 32), .ref (r 33), vL (g_h G)])] (fun w1 => ∃ G1 : GS, gEq G G1 ∧ g_fa G1 = faultI pg pl ∧ g_iw G1 = (if cusP pg pl then 1 else 0) ∧ (cusP pg pl → g_nw G1 = cw (cusI pg pl) ∧ g_ns G1 = cz (cusI pg pl) ∧ g_ne G1 = ce (cusI pg pl)) ∧ w1 = [(h, oC 9 [.ref (r 0), .ref (r 1), vI (ms_w S), vI (ms_l S), vL (ms_s S), vI (ms_a S), vI (ms_t S), vI (ms_p S), vI (g_np G1), .ref (r 9), .ref (r 10), .ref (r 11), .ref (r 12), .ref (r 13), vI (g_nc G1), .ref (r 15), .ref (r 16), .ref (r 17), vI (g_pl G1), .ref (r 19), vI (g_ik G1), vL (g_ks G1), .ref (r 22), vL (g_ss G1), .ref (r 24), vI (g_fa G1), vI (g_iw G1), vI (g_nw G1), vI (g_ns G1), vI (g_ne G1), .ref (r 30), .ref (r 31), .ref (r 32), .ref (r 33), vL (g_h G1)])]) := by
  refine j_ofv RX10 rfl rfl rfl (Nat.le_of_ble_eq_true rfl) (fun X C Rt hI => ?_)
  have hpl := hp.1
  refine j_aload_n (pc := 0) C 0 0 rfl rfl dX10_readCustom_0 ?_
  refine j_iconst (pc := 1) C dX10_readCustom_1 ?_
  refine j_put (pc := 2) (ws' := [(h, oC 9 [.ref (r 0), .ref (r 1), vI (ms_w S), vI (ms_l S), vL (ms_s S), vI (ms_a S), vI (ms_t S), vI (ms_p S), vI (g_np G), .ref (r 9), .ref (r 10), .ref (r 11), .ref (r 12), .ref (r 13), vI (g_nc G), .ref (r 15), .ref (r 16), .ref (r 17), vI (g_pl G), .ref (r 19), vI (g_ik G), vL (g_ks G), .ref (r 22), vL (g_ss G), .ref (r 24), vI (g_fa G), vI (g_iw G), vI (g_nw G), vI (g_ns G), vI 0, .ref (r 30), .ref (r 31), .ref (r 32), .ref (r 33), vL (g_h G)])]) C 0 rfl rfl fX10_readCustom_X10 tyX10_ok nmX10 29 (by decide) (List.mem_of_getElem? (i := 1) rfl) (Or.inl rfl) rfl rfl rfl rfl (Nat.le_of_ble_eq_true rfl) rfl dX10_readCustom_2 ?_
  refine j_iconst (pc := 5) C dX10_readCustom_5 ?_
  refine j_istore_n (pc := 6) (lc' := [(1, vI 0), (0, .ref h)]) C 1 rfl (by decide) rfl dX10_readCustom_6 ?_
  refine j_iconst (pc := 7) C dX10_readCustom_7 ?_
  refine j_istore_n (pc := 8) (lc' := [(2, vI 0), (1, vI 0), (0, .ref h)]) C 2 rfl (by decide) rfl dX10_readCustom_8 ?_
  refine j_iconst (pc := 9) C dX10_readCustom_9 ?_
  refine j_istore_n (pc := 10) (lc' := [(3, vI 1), (2, vI 0), (1, vI 0), (0, .ref h)]) C 3 rfl (by decide) rfl dX10_readCustom_10 ?_
  have hL11 : ∀ (N11 : Nat) (q : Int) (k : Int) (b : Int) (G2 : GS), ((pl - k + b).toNat) < N11 → (0 ≤ k ∧ k ≤ pl ∧ k ≤ 6) → (q = k) → (fstI (fun i => ¬ fitP i (pg i)) k = -1) → (b = 1 ∨ (b = 0 ∧ k < pl ∧ ¬ fitQ k (pg k))) → (gEq G G2) → (rdP pg k b G2) → jW X 5 0 0 [(h, oC 9 [.ref (r 0), .ref (r 1), vI (ms_w S), vI (ms_l S), vL (ms_s S), vI (ms_a S), vI (ms_t S), vI (ms_p S), vI (g_np G2), .ref (r 9), .ref (r 10), .ref (r 11), .ref (r 12), .ref (r 13), vI (g_nc G2), .ref (r 15), .ref (r 16), .ref (r 17), vI (g_pl G2), .ref (r 19), vI (g_ik G2), vL (g_ks G2), .ref (r 22), vL (g_ss G2), .ref (r 24), vI (g_fa G2), vI (g_iw G2), vI (g_nw G2), vI (g_ns G2), vI (g_ne G2), .ref (r 30), .ref (r 31), .ref (r 32), .ref (r 33), vL (g_h G2)])] [(0, .ref h), (1, vI q), (2, vI k), (3, vI b)] 11 [] := by
    intro N11
    induction N11 with
    | zero => intro q k b G2 hm11 i11_0 i11_1 i11_2 i11_3 i11_4 i11_5; omega
    | succ N11 ih11 =>
      intro q k b G2 hm11 i11_0 i11_1 i11_2 i11_3 i11_4 i11_5
      have hgp : g_pl G2 = pl := i11_4.2.2.1.trans hple
      refine j_iload_n (pc := 11) C 2 2 rfl rfl dX10_readCustom_11 ?_
      refine j_aload_n (pc := 12) C 0 0 rfl rfl dX10_readCustom_12 ?_
      refine j_get (pc := 13) C (Or.inl (List.mem_of_getElem? (i := 0) rfl)) rfl fX10_readCustom_X10 18 (by decide) (List.mem_of_getElem? (i := 2) rfl) (Or.inl rfl) rfl dX10_readCustom_13 ?_
      refine j_icmp_ge (pc := 16) C 74 rfl (by omega) dX10_readCustom_16 (fun h_1p16 => ?_) (fun h_1p16 => ?_)
      · skip
        refine j_aload_n (pc := 74) C 0 0 rfl rfl dX10_readCustom_74 ?_
        refine j_iload_n (pc := 75) C 2 2 rfl rfl dX10_readCustom_75 ?_
        refine j_put (pc := 76) (ws' := [(h, oC 9 [.ref (r 0), .ref (r 1), vI (ms_w S), vI (ms_l S), vL (ms_s S), vI (ms_a S), vI (ms_t S), vI (ms_p S), vI (g_np G2), .ref (r 9), .ref (r 10), .ref (r 11), .ref (r 12), .ref (r 13), vI (g_nc G2), .ref (r 15), .ref (r 16), .ref (r 17), vI (g_pl G2), .ref (r 19), vI (g_ik G2), vL (g_ks G2), .ref (r 22), vL (g_ss G2), .ref (r 24), vI k, vI (g_iw G2), vI (g_nw G2), vI (g_ns G2), vI (g_ne G2), .ref (r 30), .ref (r 31), .ref (r 32), .ref (r 33), vL (g_h G2)])]) C 0 rfl rfl fX10_readCustom_X10 tyX10_ok nmX10 25 (by decide) (List.mem_of_getElem? (i := 4) rfl) (Or.inl rfl) rfl rfl rfl rfl (Nat.le_of_ble_eq_true rfl) rfl dX10_readCustom_76 ?_
        refine j_aload_n (pc := 79) C 0 0 rfl rfl dX10_readCustom_79 ?_
        refine j_iload_n (pc := 80) C 2 2 rfl rfl dX10_readCustom_80 ?_
        refine j_aload_n (pc := 81) C 0 0 rfl rfl dX10_readCustom_81 ?_
        refine j_get (pc := 82) C (Or.inl (List.mem_of_getElem? (i := 0) rfl)) rfl fX10_readCustom_X10 18 (by decide) (List.mem_of_getElem? (i := 2) rfl) (Or.inl rfl) rfl dX10_readCustom_82 ?_
        refine j_icmp_ne (pc := 85) C 103 rfl (by omega) dX10_readCustom_85 (fun h_2p85 => ?_) (fun h_2p85 => ?_)
        · skip
          refine j_iconst (pc := 103) C dX10_readCustom_103 ?_
          refine j_put (pc := 104) (ws' := [(h, oC 9 [.ref (r 0), .ref (r 1), vI (ms_w S), vI (ms_l S), vL (ms_s S), vI (ms_a S), vI (ms_t S), vI (ms_p S), vI (g_np G2), .ref (r 9), .ref (r 10), .ref (r 11), .ref (r 12), .ref (r 13), vI (g_nc G2), .ref (r 15), .ref (r 16), .ref (r 17), vI (g_pl G2), .ref (r 19), vI (g_ik G2), vL (g_ks G2), .ref (r 22), vL (g_ss G2), .ref (r 24), vI k, vI 0, vI (g_nw G2), vI (g_ns G2), vI (g_ne G2), .ref (r 30), .ref (r 31), .ref (r 32), .ref (r 33), vL (g_h G2)])]) C 0 rfl rfl fX10_readCustom_X10 tyX10_ok nmX10 26 (by decide) (List.mem_of_getElem? (i := 5) rfl) (Or.inl rfl) rfl rfl rfl rfl (Nat.le_of_ble_eq_true rfl) rfl dX10_readCustom_104 ?_
          have hfe : faultI pg pl = k := fault_eqQ (by omega) i11_2 i11_3 (by omega)
          have hre := fun hc => rd_end (pl := pl) i11_5 hfe (by omega) hc
          exact Rt _ _ _ _ _ (by decide) (by decide) ⟨(g_np G2, g_nc G2, g_pl G2, g_ik G2, g_ks G2, g_ss G2, k, 0, g_nw G2, g_ns G2, g_ne G2, g_h G2), i11_4, hfe.symm, cus_lit0 hfe (by omega), hre, rfl⟩ dX10_readCustom_107
        · skip
          refine j_iload_n (pc := 88) C 1 1 rfl rfl dX10_readCustom_88 ?_
          refine j_iconst (pc := 89) C dX10_readCustom_89 ?_
          refine j_icmp_eq (pc := 90) C 99 rfl (by omega) dX10_readCustom_90 (fun h_3p90 => ?_) (fun h_3p90 => ?_)
          · skip
            refine j_iconst (pc := 99) C dX10_readCustom_99 ?_
            refine j_goto (pc := 100) C 104 rfl dX10_readCustom_100 ?_
            refine j_put (pc := 104) (ws' := [(h, oC 9 [.ref (r 0), .ref (r 1), vI (ms_w S), vI (ms_l S), vL (ms_s S), vI (ms_a S), vI (ms_t S), vI (ms_p S), vI (g_np G2), .ref (r 9), .ref (r 10), .ref (r 11), .ref (r 12), .ref (r 13), vI (g_nc G2), .ref (r 15), .ref (r 16), .ref (r 17), vI (g_pl G2), .ref (r 19), vI (g_ik G2), vL (g_ks G2), .ref (r 22), vL (g_ss G2), .ref (r 24), vI k, vI 1, vI (g_nw G2), vI (g_ns G2), vI (g_ne G2), .ref (r 30), .ref (r 31), .ref (r 32), .ref (r 33), vL (g_h G2)])]) C 0 rfl rfl fX10_readCustom_X10 tyX10_ok nmX10 26 (by decide) (List.mem_of_getElem? (i := 5) rfl) (Or.inl rfl) rfl rfl rfl rfl (Nat.le_of_ble_eq_true rfl) rfl dX10_readCustom_104 ?_
            have hfe : faultI pg pl = k := fault_eqQ (by omega) i11_2 i11_3 (by omega)
            have hre := fun hc => rd_end (pl := pl) i11_5 hfe (by omega) hc
            exact Rt _ _ _ _ _ (by decide) (by decide) ⟨(g_np G2, g_nc G2, g_pl G2, g_ik G2, g_ks G2, g_ss G2, k, 1, g_nw G2, g_ns G2, g_ne G2, g_h G2), i11_4, hfe.symm, cus_lit1 hfe (by omega) (by omega), hre, rfl⟩ dX10_readCustom_107
          · skip
            refine j_iload_n (pc := 93) C 1 1 rfl rfl dX10_readCustom_93 ?_
            refine j_bipush (pc := 94) (w := 6) C rfl dX10_readCustom_94 ?_
            refine j_icmp_ne (pc := 96) C 103 rfl (by omega) dX10_readCustom_96 (fun h_4p96 => ?_) (fun h_4p96 => ?_)
            · skip
              refine j_iconst (pc := 103) C dX10_readCustom_103 ?_
              refine j_put (pc := 104) (ws' := [(h, oC 9 [.ref (r 0), .ref (r 1), vI (ms_w S), vI (ms_l S), vL (ms_s S), vI (ms_a S), vI (ms_t S), vI (ms_p S), vI (g_np G2), .ref (r 9), .ref (r 10), .ref (r 11), .ref (r 12), .ref (r 13), vI (g_nc G2), .ref (r 15), .ref (r 16), .ref (r 17), vI (g_pl G2), .ref (r 19), vI (g_ik G2), vL (g_ks G2), .ref (r 22), vL (g_ss G2), .ref (r 24), vI k, vI 0, vI (g_nw G2), vI (g_ns G2), vI (g_ne G2), .ref (r 30), .ref (r 31), .ref (r 32), .ref (r 33), vL (g_h G2)])]) C 0 rfl rfl fX10_readCustom_X10 tyX10_ok nmX10 26 (by decide) (List.mem_of_getElem? (i := 5) rfl) (Or.inl rfl) rfl rfl rfl rfl (Nat.le_of_ble_eq_true rfl) rfl dX10_readCustom_104 ?_
              have hfe : faultI pg pl = k := fault_eqQ (by omega) i11_2 i11_3 (by omega)
              have hre := fun hc => rd_end (pl := pl) i11_5 hfe (by omega) hc
              exact Rt _ _ _ _ _ (by decide) (by decide) ⟨(g_np G2, g_nc G2, g_pl G2, g_ik G2, g_ks G2, g_ss G2, k, 0, g_nw G2, g_ns G2, g_ne G2, g_h G2), i11_4, hfe.symm, cus_lit0 hfe (by omega), hre, rfl⟩ dX10_readCustom_107
            · skip
              refine j_iconst (pc := 99) C dX10_readCustom_99 ?_
              refine j_goto (pc := 100) C 104 rfl dX10_readCustom_100 ?_
              refine j_put (pc := 104) (ws' := [(h, oC 9 [.ref (r 0), .ref (r 1), vI (ms_w S), vI (ms_l S), vL (ms_s S), vI (ms_a S), vI (ms_t S), vI (ms_p S), vI (g_np G2), .ref (r 9), .ref (r 10), .ref (r 11), .ref (r 12), .ref (r 13), vI (g_nc G2), .ref (r 15), .ref (r 16), .ref (r 17), vI (g_pl G2), .ref (r 19), vI (g_ik G2), vL (g_ks G2), .ref (r 22), vL (g_ss G2), .ref (r 24), vI k, vI 1, vI (g_nw G2), vI (g_ns G2), vI (g_ne G2), .ref (r 30), .ref (r 31), .ref (r 32), .ref (r 33), vL (g_h G2)])]) C 0 rfl rfl fX10_readCustom_X10 tyX10_ok nmX10 26 (by decide) (List.mem_of_getElem? (i := 5) rfl) (Or.inl rfl) rfl rfl rfl rfl (Nat.le_of_ble_eq_true rfl) rfl dX10_readCustom_104 ?_
              have hfe : faultI pg pl = k := fault_eqQ (by omega) i11_2 i11_3 (by omega)
              have hre := fun hc => rd_end (pl := pl) i11_5 hfe (by omega) hc
              exact Rt _ _ _ _ _ (by decide) (by decide) ⟨(g_np G2, g_nc G2, g_pl G2, g_ik G2, g_ks G2, g_ss G2, k, 1, g_nw G2, g_ns G2, g_ne G2, g_h G2), i11_4, hfe.symm, cus_lit1 hfe (by omega) (by omega), hre, rfl⟩ dX10_readCustom_107
      · skip
        refine j_iload_n (pc := 19) C 3 3 rfl rfl dX10_readCustom_19 ?_
        refine j_if_eq (pc := 20) C 74 rfl (by omega) dX10_readCustom_20 (fun h_5p20 => ?_) (fun h_5p20 => ?_)
        · skip
          refine j_aload_n (pc := 74) C 0 0 rfl rfl dX10_readCustom_74 ?_
          refine j_iload_n (pc := 75) C 2 2 rfl rfl dX10_readCustom_75 ?_
          refine j_put (pc := 76) (ws' := [(h, oC 9 [.ref (r 0), .ref (r 1), vI (ms_w S), vI (ms_l S), vL (ms_s S), vI (ms_a S), vI (ms_t S), vI (ms_p S), vI (g_np G2), .ref (r 9), .ref (r 10), .ref (r 11), .ref (r 12), .ref (r 13), vI (g_nc G2), .ref (r 15), .ref (r 16), .ref (r 17), vI (g_pl G2), .ref (r 19), vI (g_ik G2), vL (g_ks G2), .ref (r 22), vL (g_ss G2), .ref (r 24), vI k, vI (g_iw G2), vI (g_nw G2), vI (g_ns G2), vI (g_ne G2), .ref (r 30), .ref (r 31), .ref (r 32), .ref (r 33), vL (g_h G2)])]) C 0 rfl rfl fX10_readCustom_X10 tyX10_ok nmX10 25 (by decide) (List.mem_of_getElem? (i := 4) rfl) (Or.inl rfl) rfl rfl rfl rfl (Nat.le_of_ble_eq_true rfl) rfl dX10_readCustom_76 ?_
          refine j_aload_n (pc := 79) C 0 0 rfl rfl dX10_readCustom_79 ?_
          refine j_iload_n (pc := 80) C 2 2 rfl rfl dX10_readCustom_80 ?_
          refine j_aload_n (pc := 81) C 0 0 rfl rfl dX10_readCustom_81 ?_
          refine j_get (pc := 82) C (Or.inl (List.mem_of_getElem? (i := 0) rfl)) rfl fX10_readCustom_X10 18 (by decide) (List.mem_of_getElem? (i := 2) rfl) (Or.inl rfl) rfl dX10_readCustom_82 ?_
          refine j_icmp_ne (pc := 85) C 103 rfl (by omega) dX10_readCustom_85 (fun h_6p85 => ?_) (fun h_6p85 => ?_)
          · skip
            refine j_iconst (pc := 103) C dX10_readCustom_103 ?_
            refine j_put (pc := 104) (ws' := [(h, oC 9 [.ref (r 0), .ref (r 1), vI (ms_w S), vI (ms_l S), vL (ms_s S), vI (ms_a S), vI (ms_t S), vI (ms_p S), vI (g_np G2), .ref (r 9), .ref (r 10), .ref (r 11), .ref (r 12), .ref (r 13), vI (g_nc G2), .ref (r 15), .ref (r 16), .ref (r 17), vI (g_pl G2), .ref (r 19), vI (g_ik G2), vL (g_ks G2), .ref (r 22), vL (g_ss G2), .ref (r 24), vI k, vI 0, vI (g_nw G2), vI (g_ns G2), vI (g_ne G2), .ref (r 30), .ref (r 31), .ref (r 32), .ref (r 33), vL (g_h G2)])]) C 0 rfl rfl fX10_readCustom_X10 tyX10_ok nmX10 26 (by decide) (List.mem_of_getElem? (i := 5) rfl) (Or.inl rfl) rfl rfl rfl rfl (Nat.le_of_ble_eq_true rfl) rfl dX10_readCustom_104 ?_
            have hfe : faultI pg pl = k := fault_eqQ (by omega) i11_2 i11_3 (by omega)
            have hre := fun hc => rd_end (pl := pl) i11_5 hfe (by omega) hc
            exact Rt _ _ _ _ _ (by decide) (by decide) ⟨(g_np G2, g_nc G2, g_pl G2, g_ik G2, g_ks G2, g_ss G2, k, 0, g_nw G2, g_ns G2, g_ne G2, g_h G2), i11_4, hfe.symm, cus_lit0 hfe (by omega), hre, rfl⟩ dX10_readCustom_107
          · skip
            refine j_iload_n (pc := 88) C 1 1 rfl rfl dX10_readCustom_88 ?_
            refine j_iconst (pc := 89) C dX10_readCustom_89 ?_
            refine j_icmp_eq (pc := 90) C 99 rfl (by omega) dX10_readCustom_90 (fun h_7p90 => ?_) (fun h_7p90 => ?_)
            · skip
              refine j_iconst (pc := 99) C dX10_readCustom_99 ?_
              refine j_goto (pc := 100) C 104 rfl dX10_readCustom_100 ?_
              refine j_put (pc := 104) (ws' := [(h, oC 9 [.ref (r 0), .ref (r 1), vI (ms_w S), vI (ms_l S), vL (ms_s S), vI (ms_a S), vI (ms_t S), vI (ms_p S), vI (g_np G2), .ref (r 9), .ref (r 10), .ref (r 11), .ref (r 12), .ref (r 13), vI (g_nc G2), .ref (r 15), .ref (r 16), .ref (r 17), vI (g_pl G2), .ref (r 19), vI (g_ik G2), vL (g_ks G2), .ref (r 22), vL (g_ss G2), .ref (r 24), vI k, vI 1, vI (g_nw G2), vI (g_ns G2), vI (g_ne G2), .ref (r 30), .ref (r 31), .ref (r 32), .ref (r 33), vL (g_h G2)])]) C 0 rfl rfl fX10_readCustom_X10 tyX10_ok nmX10 26 (by decide) (List.mem_of_getElem? (i := 5) rfl) (Or.inl rfl) rfl rfl rfl rfl (Nat.le_of_ble_eq_true rfl) rfl dX10_readCustom_104 ?_
              have hfe : faultI pg pl = k := fault_eqQ (by omega) i11_2 i11_3 (by omega)
              have hre := fun hc => rd_end (pl := pl) i11_5 hfe (by omega) hc
              exact Rt _ _ _ _ _ (by decide) (by decide) ⟨(g_np G2, g_nc G2, g_pl G2, g_ik G2, g_ks G2, g_ss G2, k, 1, g_nw G2, g_ns G2, g_ne G2, g_h G2), i11_4, hfe.symm, cus_lit1 hfe (by omega) (by omega), hre, rfl⟩ dX10_readCustom_107
            · skip
              refine j_iload_n (pc := 93) C 1 1 rfl rfl dX10_readCustom_93 ?_
              refine j_bipush (pc := 94) (w := 6) C rfl dX10_readCustom_94 ?_
              refine j_icmp_ne (pc := 96) C 103 rfl (by omega) dX10_readCustom_96 (fun h_8p96 => ?_) (fun h_8p96 => ?_)
              · skip
                refine j_iconst (pc := 103) C dX10_readCustom_103 ?_
                refine j_put (pc := 104) (ws' := [(h, oC 9 [.ref (r 0), .ref (r 1), vI (ms_w S), vI (ms_l S), vL (ms_s S), vI (ms_a S), vI (ms_t S), vI (ms_p S), vI (g_np G2), .ref (r 9), .ref (r 10), .ref (r 11), .ref (r 12), .ref (r 13), vI (g_nc G2), .ref (r 15), .ref (r 16), .ref (r 17), vI (g_pl G2), .ref (r 19), vI (g_ik G2), vL (g_ks G2), .ref (r 22), vL (g_ss G2), .ref (r 24), vI k, vI 0, vI (g_nw G2), vI (g_ns G2), vI (g_ne G2), .ref (r 30), .ref (r 31), .ref (r 32), .ref (r 33), vL (g_h G2)])]) C 0 rfl rfl fX10_readCustom_X10 tyX10_ok nmX10 26 (by decide) (List.mem_of_getElem? (i := 5) rfl) (Or.inl rfl) rfl rfl rfl rfl (Nat.le_of_ble_eq_true rfl) rfl dX10_readCustom_104 ?_
                have hfe : faultI pg pl = k := fault_eqQ (by omega) i11_2 i11_3 (by omega)
                have hre := fun hc => rd_end (pl := pl) i11_5 hfe (by omega) hc
                exact Rt _ _ _ _ _ (by decide) (by decide) ⟨(g_np G2, g_nc G2, g_pl G2, g_ik G2, g_ks G2, g_ss G2, k, 0, g_nw G2, g_ns G2, g_ne G2, g_h G2), i11_4, hfe.symm, cus_lit0 hfe (by omega), hre, rfl⟩ dX10_readCustom_107
              · skip
                refine j_iconst (pc := 99) C dX10_readCustom_99 ?_
                refine j_goto (pc := 100) C 104 rfl dX10_readCustom_100 ?_
                refine j_put (pc := 104) (ws' := [(h, oC 9 [.ref (r 0), .ref (r 1), vI (ms_w S), vI (ms_l S), vL (ms_s S), vI (ms_a S), vI (ms_t S), vI (ms_p S), vI (g_np G2), .ref (r 9), .ref (r 10), .ref (r 11), .ref (r 12), .ref (r 13), vI (g_nc G2), .ref (r 15), .ref (r 16), .ref (r 17), vI (g_pl G2), .ref (r 19), vI (g_ik G2), vL (g_ks G2), .ref (r 22), vL (g_ss G2), .ref (r 24), vI k, vI 1, vI (g_nw G2), vI (g_ns G2), vI (g_ne G2), .ref (r 30), .ref (r 31), .ref (r 32), .ref (r 33), vL (g_h G2)])]) C 0 rfl rfl fX10_readCustom_X10 tyX10_ok nmX10 26 (by decide) (List.mem_of_getElem? (i := 5) rfl) (Or.inl rfl) rfl rfl rfl rfl (Nat.le_of_ble_eq_true rfl) rfl dX10_readCustom_104 ?_
                have hfe : faultI pg pl = k := fault_eqQ (by omega) i11_2 i11_3 (by omega)
                have hre := fun hc => rd_end (pl := pl) i11_5 hfe (by omega) hc
                exact Rt _ _ _ _ _ (by decide) (by decide) ⟨(g_np G2, g_nc G2, g_pl G2, g_ik G2, g_ks G2, g_ss G2, k, 1, g_nw G2, g_ns G2, g_ne G2, g_h G2), i11_4, hfe.symm, cus_lit1 hfe (by omega) (by omega), hre, rfl⟩ dX10_readCustom_107
        · skip
          refine j_aload_n (pc := 23) C 0 0 rfl rfl dX10_readCustom_23 ?_
          refine j_iload_n (pc := 24) C 1 1 rfl rfl dX10_readCustom_24 ?_
          refine j_aload_n (pc := 25) C 0 0 rfl rfl dX10_readCustom_25 ?_
          have hb1 : b = 1 := by omega
          have h15 : rdP pg k 1 G2 := hb1 ▸ i11_5
          have hpk := hp.2 k (by omega) (by omega)
          refine j_get (pc := 26) C (Or.inl (List.mem_of_getElem? (i := 0) rfl)) rfl fX10_readCustom_X10 19 (by decide) (List.mem_of_getElem? (i := 3) rfl) (Or.inl rfl) rfl dX10_readCustom_26 ?_
          refine j_iload_n (pc := 29) C 2 2 rfl rfl dX10_readCustom_29 ?_
          refine j_bald (pc := 30) C (Or.inr p0) rfl (by omega) (by decide) dX10_readCustom_30 ?_
          refine j_callVi (pc := 31) (As := [vI q, vI (pg k)]) (na := 2) (st := []) C [0] [] (wr := []) (fun l => m_nextState l D Y _ h r S G2 q (pg k) (by first | assumption | omega) (by first | assumption | omega)) rfl rfl rfl rfl (by decide) rfl (Or.inl (List.mem_of_getElem? (i := 0) rfl)) rfl gX10_readCustom_X10_nextState ⟨rfl, by decide +kernel⟩ (by decide) rfl rfl (Nat.le_of_ble_eq_true rfl) (by decide) dX10_readCustom_31 (fun e_9 w_10 h_11 => ?_)
          obtain ⟨rfl, rfl⟩ := h_11
          refine j_perm (ws' := [(h, oC 9 [.ref (r 0), .ref (r 1), vI (ms_w S), vI (ms_l S), vL (ms_s S), vI (ms_a S), vI (ms_t S), vI (ms_p S), vI (g_np (gNX q (pg k) G2)), .ref (r 9), .ref (r 10), .ref (r 11), .ref (r 12), .ref (r 13), vI (g_nc (gNX q (pg k) G2)), .ref (r 15), .ref (r 16), .ref (r 17), vI (g_pl (gNX q (pg k) G2)), .ref (r 19), vI (g_ik (gNX q (pg k) G2)), vL (g_ks (gNX q (pg k) G2)), .ref (r 22), vL (g_ss (gNX q (pg k) G2)), .ref (r 24), vI (g_fa (gNX q (pg k) G2)), vI (g_iw (gNX q (pg k) G2)), vI (g_nw (gNX q (pg k) G2)), vI (g_ns (gNX q (pg k) G2)), vI (g_ne (gNX q (pg k) G2)), .ref (r 30), .ref (r 31), .ref (r 32), .ref (r 33), vL (g_h (gNX q (pg k) G2))])]) [0] rfl rfl ?_
          refine j_istore (pc := 34) (lc' := [(4, vI (if fitP q (pg k) then q + 1 else -1)), (0, .ref h), (1, vI q), (2, vI k), (3, vI b)]) C (by decide) rfl dX10_readCustom_34 ?_
          refine j_iload (pc := 36) C 0 rfl dX10_readCustom_36 ?_
          refine j_iconst (pc := 38) C dX10_readCustom_38 ?_
          refine j_icmp_eq (pc := 39) C 46 rfl (ite_rng (by omega)) dX10_readCustom_39 (fun h_12p39 => ?_) (fun h_12p39 => ?_)
          · skip
            have hf : ¬ fitQ k (pg k) := fitQ_not i11_1 i11_0.1 h_12p39
            clear h_12p39
            refine j_iconst (pc := 46) C dX10_readCustom_46 ?_
            refine j_istore_n (pc := 47) (lc' := [(3, vI 0), (4, vI (if fitP q (pg k) then q + 1 else -1)), (0, .ref h), (1, vI q), (2, vI k)]) C 3 rfl (by decide) rfl dX10_readCustom_47 ?_
            refine j_iload_n (pc := 48) C 3 0 rfl rfl dX10_readCustom_48 ?_
            refine j_if_eq (pc := 49) C 57 rfl (by omega) dX10_readCustom_49 (fun _ => ?_) (fun h_13 => absurd h_13 (by decide))
            refine j_iload_n (pc := 57) C 1 3 rfl rfl dX10_readCustom_57 ?_
            refine j_istore_n (pc := 58) (lc' := [(1, vI q), (3, vI 0), (4, vI (if fitP q (pg k) then q + 1 else -1)), (0, .ref h), (2, vI k)]) C 1 rfl (by decide) rfl dX10_readCustom_58 ?_
            refine j_iload_n (pc := 59) C 2 4 rfl rfl dX10_readCustom_59 ?_
            refine j_iload_n (pc := 60) C 3 1 rfl rfl dX10_readCustom_60 ?_
            refine j_if_eq (pc := 61) C 68 rfl (by omega) dX10_readCustom_61 (fun _ => ?_) (fun h_14 => absurd h_14 (by decide))
            refine j_iconst (pc := 68) C dX10_readCustom_68 ?_
            refine j_iadd (pc := 69) C dX10_readCustom_69 ?_
            rw [Int.add_zero]
            refine j_istore_n (pc := 70) (lc' := [(2, vI k), (1, vI q), (3, vI 0), (4, vI (if fitP q (pg k) then q + 1 else -1)), (0, .ref h)]) C 2 rfl (by decide) rfl dX10_readCustom_70 ?_
            refine j_goto (pc := 71) C 11 rfl dX10_readCustom_71 ?_
            refine j_locals (lc' := [(0, .ref h), (1, vI q), (2, vI k), (3, vI 0)]) [4, 1, 0, 2] rfl ?_
            exact ih11 q k 0 (gNX q (pg k) G2) (by omega) (by omega) i11_1 i11_2 (Or.inr ⟨rfl, by omega, hf⟩) (i11_4.tr (gEq.nx _ _ _)) (rd_bad i11_1 h15 (by omega))
          · skip
            have hf : fitQ k (pg k) := fitQ_of i11_1 h_12p39
            clear h_12p39
            have hfl := fit_le hf
            refine j_iconst (pc := 42) C dX10_readCustom_42 ?_
            refine j_goto (pc := 43) C 47 rfl dX10_readCustom_43 ?_
            refine j_istore_n (pc := 47) (lc' := [(3, vI 1), (4, vI (if fitP q (pg k) then q + 1 else -1)), (0, .ref h), (1, vI q), (2, vI k)]) C 3 rfl (by decide) rfl dX10_readCustom_47 ?_
            refine j_iload_n (pc := 48) C 3 0 rfl rfl dX10_readCustom_48 ?_
            refine j_if_eq (pc := 49) C 57 rfl (by omega) dX10_readCustom_49 (fun h_15 => absurd h_15 (by decide)) (fun _ => ?_)
            refine j_iload (pc := 52) C 1 rfl dX10_readCustom_52 ?_
            refine j_goto (pc := 54) C 58 rfl dX10_readCustom_54 ?_
            refine j_istore_n (pc := 58) (lc' := [(1, vI (if fitP q (pg k) then q + 1 else -1)), (3, vI 1), (4, vI (if fitP q (pg k) then q + 1 else -1)), (0, .ref h), (2, vI k)]) C 1 rfl (by decide) rfl dX10_readCustom_58 ?_
            refine j_iload_n (pc := 59) C 2 4 rfl rfl dX10_readCustom_59 ?_
            refine j_iload_n (pc := 60) C 3 1 rfl rfl dX10_readCustom_60 ?_
            refine j_if_eq (pc := 61) C 68 rfl (by omega) dX10_readCustom_61 (fun h_16 => absurd h_16 (by decide)) (fun _ => ?_)
            refine j_iconst (pc := 64) C dX10_readCustom_64 ?_
            refine j_goto (pc := 65) C 69 rfl dX10_readCustom_65 ?_
            refine j_iadd (pc := 69) C dX10_readCustom_69 ?_
            refine j_istore_n (pc := 70) (lc' := [(2, vI (k + 1)), (1, vI (if fitP q (pg k) then q + 1 else -1)), (3, vI 1), (4, vI (if fitP q (pg k) then q + 1 else -1)), (0, .ref h)]) C 2 rfl (by decide) rfl dX10_readCustom_70 ?_
            refine j_goto (pc := 71) C 11 rfl dX10_readCustom_71 ?_
            refine j_locals (lc' := [(0, .ref h), (1, vI (if fitP q (pg k) then q + 1 else -1)), (2, vI (k + 1)), (3, vI 1)]) [4, 1, 0, 2] rfl ?_
            exact ih11 (if fitP q (pg k) then q + 1 else -1) (k + 1) 1 (gNX q (pg k) G2) (by omega) (by omega) (by rw [i11_1]; exact if_pos hf) (fst_step (P := (fun i => ¬ fitP i (pg i))) (by omega) i11_2 (not_not_intro hf)) (Or.inl rfl) (i11_4.tr (gEq.nx _ _ _)) (rd_step i11_1 h15 hfl)
  refine j_locals (lc' := [(0, .ref h), (1, vI 0), (2, vI 0), (3, vI 1)]) [3, 2, 1, 0] rfl ?_
  exact hL11 _ 0 0 1 (g_np G, g_nc G, g_pl G, g_ik G, g_ks G, g_ss G, g_fa G, g_iw G, g_nw G, g_ns G, 0, g_h G) (Nat.lt_succ_self _) (by omega) rfl rfl (Or.inl rfl) (gEq.rf G) ⟨fun z => by omega, fun z => by omega, fun _ _ => rfl, fun z => by omega⟩
