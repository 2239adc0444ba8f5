/-! digest -/
def n32 (e : Int) : Int := (Int32.ofInt e).toInt
theorem n32_in (e : Int) : -2147483648 ≤ n32 e ∧ n32 e ≤ 2147483647 := by
  have h1 := Int32.le_toInt (Int32.ofInt e)
  have h2 := Int32.toInt_lt (Int32.ofInt e)
  unfold n32
  omega
theorem vI_n32 (e : Int) : vI e = vI (n32 e) := by
  unfold vI n32
  rw [Int32.ofInt_toInt]
def gH (G : GS) (v : Int) : GS := (g_np G, g_nc G, g_pl G, g_ik G, g_ks G, g_ss G, g_fa G, g_iw G, g_nw G, g_ns G, g_ne G, v)
theorem gEq.hh (G : GS) (v : Int) : gEq G (gH G v) := ⟨rfl, rfl, rfl, rfl, rfl⟩
def markF (S : MS) (c d h : Int) : Int := 31 * h + n32 (markS c d S)
def cairnF (S : MS) (c h : Int) : Int := fo (markF S c) (ms_h S c) (31 * h + n32 (ms_h S c))
def tolF (P : PT) (w h : Int) : Int := 31 * h + n32 (toldP P w)
def parF (ps : Int → PT) (p h : Int) : Int := fo (tolF (ps p)) 6 h
def ctlF (C : CT) (w h : Int) : Int := 31 * h + n32 (toldC C w)
def lookF (T : MS) (k h : Int) : Int := 31 * h + n32 (ms_h T k)
def cusF (cs : Int → CT) (ps : Int → PT) (np : Int) (S : MS) (c h : Int) : Int := fo (lookF (weeksS (cs c) ps np 2 S)) 7 (fo (ctlF (cs c)) 3 h)
noncomputable def bndF (ps : Int → PT) (np w h : Int) : Int := 31 * h + n32 (rBounds 1 w np ps)
def pgF (pg : Int → Int) (i h : Int) : Int := 31 * h + n32 (pg i)
def couF (np nc pl : Int) (S : MS) (w h : Int) : Int := 31 * h + n32 (rCount w np nc pl S)
noncomputable def rDig (np nc pl : Int) (cs : Int → CT) (ps : Int → PT) (pg : Int → Int) (S : MS) : Int := fo (couF np nc pl S) 10 (fo (pgF pg) pl (fo (bndF ps np) 4 (fo (cusF cs ps np S) nc (fo (parF ps) np (fo (cairnF S) 7 563)))))
theorem weeks_2 (C : CT) (ps : Int → PT) (np : Int) (S : MS) : weeksS C ps np 2 S = goS C ps np (goS C ps np S) := rfl
theorem fX9_withCairns_X2 : ∀ w ∈ u_ws RX2 TX2 8, w ∈ wsX9_withCairns := j_words [25, 26, 27, 28, 29, 30, 31, 32] (by decide +kernel)
theorem fX9_withCairns_X9 : ∀ w ∈ u_ws RX9 TX9 11, w ∈ wsX9_withCairns := j_words [14, 15, 16, 17, 18, 19, 20, 21, 22, 23, 24] (by decide +kernel)
set_option maxHeartbeats 4000000 in
set_option maxRecDepth 100000 in
theorem k_withCairns (l : Launch) (D : va_G) (Y : Nat → ClassId) (RO : va_W) (k : Nat → Nat) (nc : Int) (np : Int) (ik : Int) (S : MS) (h0 : Int) (ko : ((k 0), oC 8 [.ref (k 1), .ref (k 2), vI nc, .ref (k 3), vI np, .ref (k 4), .ref (k 7), vI ik, .ref (k 10), .ref (k 13), .ref (k 14)]) ∈ RO) (n0 : ((k 4), oC 2 [.ref (k 5), .ref (k 6), vI (ms_w S), vI (ms_l S), vI (ms_s S), vI (ms_a S), vI (ms_t S), vI (ms_p S)]) ∈ RO) (n1 : ((k 5), aI (Y 0) 7 (ms_h S)) ∈ RO) (n2 : ((k 6), aI (Y 0) 420 (ms_m S)) ∈ RO) (hS : okS S) : jMl l yX9_withCairns wsX9_withCairns { frames := 2, cells := 0, slots := 0, locals := 43 } D Y RO [.ref (k 0), vL h0] [] (fun e w1 => e = (fo (cairnF S) 7 h0) ∧ w1 = []) := by
  refine j_ofl RX9 rfl rfl rfl (Nat.le_of_ble_eq_true rfl) (fun X C Rt => ?_)
  refine j_lload_n (pc := 0) C 1 1 rfl rfl dX9_withCairns_0 ?_
  refine j_lstore_n (pc := 1) (lc' := [(3, vL h0), (0, .ref (k 0)), (1, vL h0)]) C 3 rfl (by decide) rfl dX9_withCairns_1 ?_
  refine j_iconst (pc := 2) C dX9_withCairns_2 ?_
  refine j_istore (pc := 3) (lc' := [(5, vI 0), (3, vL h0), (0, .ref (k 0)), (1, vL h0)]) C (by decide) rfl dX9_withCairns_3 ?_
  have hL5 : ∀ (N5 : Nat) (u : Int) (c : Int), ((7 - c).toNat) < N5 → (0 ≤ c ∧ c ≤ 7) → (u = fo (cairnF S) c h0) → jW X 7 0 0 [] [(0, .ref (k 0)), (1, vL h0), (3, vL u), (5, vI c)] 5 [] := by
    intro N5
    induction N5 with
    | zero => intro u c hm5 i5_0 i5_1; omega
    | succ N5 ih5 =>
      intro u c hm5 i5_0 i5_1
      refine j_iload (pc := 5) C 3 rfl dX9_withCairns_5 ?_
      refine j_bipush (pc := 7) (w := 7) C rfl dX9_withCairns_7 ?_
      refine j_icmp_ge (pc := 9) C 79 rfl (by omega) dX9_withCairns_9 (fun h_1p9 => ?_) (fun h_1p9 => ?_)
      · skip
        refine j_lload_n (pc := 79) C 3 2 rfl rfl dX9_withCairns_79 ?_
        exact Rt _ _ _ _ _ _ (by decide) (by decide) ⟨by rw [i5_1, show c = 7 by omega], rfl⟩ dX9_withCairns_80
      · skip
        refine j_ldc2 (pc := 12) (w := 31) C (List.mem_of_getElem? (i := 1) rfl) dX9_withCairns_12 ?_
        refine j_lload_n (pc := 15) C 3 2 rfl rfl dX9_withCairns_15 ?_
        refine j_lmul (pc := 16) C dX9_withCairns_16 ?_
        refine j_aload_n (pc := 17) C 0 0 rfl rfl dX9_withCairns_17 ?_
        refine j_get (pc := 18) C (Or.inr ko) rfl fX9_withCairns_X9 5 (by decide) (List.mem_of_getElem? (i := 2) rfl) (Or.inl rfl) rfl dX9_withCairns_18 ?_
        refine j_get (pc := 21) C (Or.inr n0) rfl fX9_withCairns_X2 0 (by decide) (List.mem_of_getElem? (i := 3) rfl) (Or.inl rfl) rfl dX9_withCairns_21 ?_
        refine j_iload (pc := 24) C 3 rfl dX9_withCairns_24 ?_
        refine j_iald (pc := 26) C (Or.inr n1) rfl (by omega) (by decide) dX9_withCairns_26 ?_
        have f_2 := hS.1 c (by omega)
        rw [vI_n32 (ms_h S c)]
        have hn_3 := n32_in (ms_h S c)
        refine j_i2l (pc := 27) C (by omega) dX9_withCairns_27 ?_
        refine j_ladd (pc := 28) C dX9_withCairns_28 ?_
        refine j_lstore_n (pc := 29) (lc' := [(3, vL ((31 * u) + (n32 (ms_h S c)))), (0, .ref (k 0)), (1, vL h0), (5, vI c)]) C 3 rfl (by decide) rfl dX9_withCairns_29 ?_
        refine j_iconst (pc := 30) C dX9_withCairns_30 ?_
        refine j_istore (pc := 31) (lc' := [(6, vI 0), (3, vL ((31 * u) + (n32 (ms_h S c)))), (0, .ref (k 0)), (1, vL h0), (5, vI c)]) C (by decide) rfl dX9_withCairns_31 ?_
        have hL33 : ∀ (N33 : Nat) (t : Int) (d : Int), ((ms_h S c - d).toNat) < N33 → (0 ≤ d ∧ d ≤ ms_h S c) → (t = fo (markF S c) d (31 * u + n32 (ms_h S c))) → jW X 7 0 0 [] [(0, .ref (k 0)), (1, vL h0), (3, vL t), (5, vI c), (6, vI d)] 33 [] := by
          intro N33
          induction N33 with
          | zero => intro t d hm33 i33_0 i33_1; omega
          | succ N33 ih33 =>
            intro t d hm33 i33_0 i33_1
            refine j_iload (pc := 33) C 4 rfl dX9_withCairns_33 ?_
            refine j_aload_n (pc := 35) C 0 0 rfl rfl dX9_withCairns_35 ?_
            refine j_get (pc := 36) C (Or.inr ko) rfl fX9_withCairns_X9 5 (by decide) (List.mem_of_getElem? (i := 2) rfl) (Or.inl rfl) rfl dX9_withCairns_36 ?_
            refine j_get (pc := 39) C (Or.inr n0) rfl fX9_withCairns_X2 0 (by decide) (List.mem_of_getElem? (i := 3) rfl) (Or.inl rfl) rfl dX9_withCairns_39 ?_
            refine j_iload (pc := 42) C 3 rfl dX9_withCairns_42 ?_
            refine j_iald (pc := 44) C (Or.inr n1) rfl (by omega) (by decide) dX9_withCairns_44 ?_
            have f_4 := hS.1 c (by omega)
            refine j_icmp_ge (pc := 45) C 73 rfl (by omega) dX9_withCairns_45 (fun h_5p45 => ?_) (fun h_5p45 => ?_)
            · skip
              refine j_iinc (pc := 73) (lc' := [(5, vI (c + 1)), (0, .ref (k 0)), (1, vL h0), (3, vL t), (6, vI d)]) C 3 rfl (by decide) rfl dX9_withCairns_73 ?_
              refine j_goto (pc := 76) C 5 rfl dX9_withCairns_76 ?_
              refine j_locals (lc' := [(0, .ref (k 0)), (1, vL h0), (3, vL t), (5, vI (c + 1))]) [1, 2, 3, 0] rfl ?_
              exact ih5 t (c + 1) (by omega) (by omega) (by rw [fo_succ _ (by omega), ← i5_1, i33_1, show d = ms_h S c by omega]; rfl)
            · skip
              refine j_ldc2 (pc := 48) (w := 31) C (List.mem_of_getElem? (i := 1) rfl) dX9_withCairns_48 ?_
              refine j_lload_n (pc := 51) C 3 2 rfl rfl dX9_withCairns_51 ?_
              refine j_lmul (pc := 52) C dX9_withCairns_52 ?_
              refine j_aload_n (pc := 53) C 0 0 rfl rfl dX9_withCairns_53 ?_
              refine j_get (pc := 54) C (Or.inr ko) rfl fX9_withCairns_X9 5 (by decide) (List.mem_of_getElem? (i := 2) rfl) (Or.inl rfl) rfl dX9_withCairns_54 ?_
              refine j_iload (pc := 57) C 3 rfl dX9_withCairns_57 ?_
              refine j_iload (pc := 59) C 4 rfl dX9_withCairns_59 ?_
              refine j_callVi (pc := 61) (As := [vI c, vI d]) (na := 2) (st := [vL (31 * t)]) C [] [] (wr := []) (fun l => c_markAt l D Y _ (k 4) (k 5) (k 6) S c d (List.mem_append_right _ n0) (List.mem_append_right _ n1) (List.mem_append_right _ n2) hS (by first | assumption | omega) (by first | assumption | omega)) rfl rfl rfl rfl (by decide) rfl (Or.inr (List.mem_append_right _ n0)) rfl gX9_withCairns_X2_markAt ⟨rfl, by decide +kernel⟩ (by decide) rfl rfl (Nat.le_of_ble_eq_true rfl) (by decide) dX9_withCairns_61 (fun e_6 w_7 h_8 => ?_)
              obtain ⟨rfl, rfl⟩ := h_8
              refine j_perm (ws' := []) [] rfl rfl ?_
              rw [vI_n32 (markS c d S)]
              have hn_9 := n32_in (markS c d S)
              refine j_i2l (pc := 64) C (by omega) dX9_withCairns_64 ?_
              refine j_ladd (pc := 65) C dX9_withCairns_65 ?_
              refine j_lstore_n (pc := 66) (lc' := [(3, vL ((31 * t) + (n32 (markS c d S)))), (0, .ref (k 0)), (1, vL h0), (5, vI c), (6, vI d)]) C 3 rfl (by decide) rfl dX9_withCairns_66 ?_
              refine j_iinc (pc := 67) (lc' := [(6, vI (d + 1)), (3, vL ((31 * t) + (n32 (markS c d S)))), (0, .ref (k 0)), (1, vL h0), (5, vI c)]) C 4 rfl (by decide) rfl dX9_withCairns_67 ?_
              refine j_goto (pc := 70) C 33 rfl dX9_withCairns_70 ?_
              refine j_locals (lc' := [(0, .ref (k 0)), (1, vL h0), (3, vL ((31 * t) + (n32 (markS c d S)))), (5, vI c), (6, vI (d + 1))]) [2, 3, 1, 4, 0] rfl ?_
              exact ih33 ((31 * t) + (n32 (markS c d S))) (d + 1) (by omega) (by omega) (by rw [fo_succ _ (by omega), ← i33_1]; rfl)
        refine j_locals (lc' := [(0, .ref (k 0)), (1, vL h0), (3, vL ((31 * u) + (n32 (ms_h S c)))), (5, vI c), (6, vI 0)]) [2, 3, 1, 4, 0] rfl ?_
        exact hL33 _ ((31 * u) + (n32 (ms_h S c))) 0 (Nat.lt_succ_self _) (by omega) rfl
  refine j_locals (lc' := [(0, .ref (k 0)), (1, vL h0), (3, vL h0), (5, vI 0)]) [2, 3, 1, 0] rfl ?_
  exact hL5 _ h0 0 (Nat.lt_succ_self _) (by omega) rfl

theorem fX9_withParishes_X9 : ∀ w ∈ u_ws RX9 TX9 11, w ∈ wsX9_withParishes := j_words [50, 51, 52, 53, 54, 55, 56, 57, 58, 59, 60] (by decide +kernel)
set_option maxHeartbeats 4000000 in
set_option maxRecDepth 100000 in
theorem k_withParishes (l : Launch) (D : va_G) (Y : Nat → ClassId) (RO : va_W) (k : Nat → Nat) (nc : Int) (np : Int) (ik : Int) (pad : Int → Nat) (ps : Int → PT) (h0 : Int) (ko : ((k 0), oC 8 [.ref (k 1), .ref (k 2), vI nc, .ref (k 3), vI np, .ref (k 4), .ref (k 7), vI ik, .ref (k 10), .ref (k 13), .ref (k 14)]) ∈ RO) (kp : ((k 3), aQ (Y 3) 6 (orow np pad)) ∈ RO) (hpc : ∀ i, 0 ≤ i ∧ i < np → pC (pad i) (ps i) ∈ RO) (hnp : 0 ≤ np ∧ np ≤ 6) (hps : ∀ i, 0 ≤ i ∧ i < np → okP (ps i)) : jMl l yX9_withParishes wsX9_withParishes { frames := 2, cells := 0, slots := 0, locals := 41 } D Y RO [.ref (k 0), vL h0] [] (fun e w1 => e = (fo (parF ps) np h0) ∧ w1 = []) := by
  refine j_ofl RX9 rfl rfl rfl (Nat.le_of_ble_eq_true rfl) (fun X C Rt => ?_)
  refine j_lload_n (pc := 0) C 1 1 rfl rfl dX9_withParishes_0 ?_
  refine j_lstore_n (pc := 1) (lc' := [(3, vL h0), (0, .ref (k 0)), (1, vL h0)]) C 3 rfl (by decide) rfl dX9_withParishes_1 ?_
  refine j_iconst (pc := 2) C dX9_withParishes_2 ?_
  refine j_istore (pc := 3) (lc' := [(5, vI 0), (3, vL h0), (0, .ref (k 0)), (1, vL h0)]) C (by decide) rfl dX9_withParishes_3 ?_
  have hL5 : ∀ (N5 : Nat) (u : Int) (i : Int), ((np - i).toNat) < N5 → (0 ≤ i ∧ i ≤ np) → (u = fo (parF ps) i h0) → jW X 8 0 0 [] [(0, .ref (k 0)), (1, vL h0), (3, vL u), (5, vI i)] 5 [] := by
    intro N5
    induction N5 with
    | zero => intro u i hm5 i5_0 i5_1; omega
    | succ N5 ih5 =>
      intro u i hm5 i5_0 i5_1
      refine j_iload (pc := 5) C 3 rfl dX9_withParishes_5 ?_
      refine j_bipush (pc := 7) (w := 6) C rfl dX9_withParishes_7 ?_
      refine j_icmp_ge (pc := 9) C 65 rfl (by omega) dX9_withParishes_9 (fun h_1p9 => ?_) (fun h_1p9 => ?_)
      · skip
        refine j_lload_n (pc := 65) C 3 2 rfl rfl dX9_withParishes_65 ?_
        exact Rt _ _ _ _ _ _ (by decide) (by decide) ⟨by rw [i5_1, show i = np by omega], rfl⟩ dX9_withParishes_66
      · skip
        refine j_aload_n (pc := 12) C 0 0 rfl rfl dX9_withParishes_12 ?_
        refine j_get (pc := 13) C (Or.inr ko) rfl fX9_withParishes_X9 3 (by decide) (List.mem_of_getElem? (i := 1) rfl) (Or.inl rfl) rfl dX9_withParishes_13 ?_
        refine j_iload (pc := 16) C 3 rfl dX9_withParishes_16 ?_
        refine j_aaldP (pc := 18) C (Or.inr kp) rfl (by omega) (by decide) dX9_withParishes_18 ?_
        by_cases hq_2 : i < np
        · rw [show orow np pad i = some (pad i) from orow_in ⟨by omega, hq_2⟩]
          have hp2 := hpc i ⟨by omega, hq_2⟩
          have hP2 := hps i ⟨by omega, hq_2⟩
          have hw2 := hP2.2.2.2.2.1
          refine j_astore (pc := 19) (lc' := [(6, .ref (pad i)), (0, .ref (k 0)), (1, vL h0), (3, vL u), (5, vI i)]) C (by decide) rfl dX9_withParishes_19 ?_
          refine j_aload (pc := 21) C 0 rfl dX9_withParishes_21 ?_
          refine j_ifnonnull (pc := 23) C 29 rfl dX9_withParishes_23 ?_
          refine j_iconst (pc := 29) C dX9_withParishes_29 ?_
          refine j_istore (pc := 30) (lc' := [(7, vI 0), (6, .ref (pad i)), (0, .ref (k 0)), (1, vL h0), (3, vL u), (5, vI i)]) C (by decide) rfl dX9_withParishes_30 ?_
          have hL32 : ∀ (N32 : Nat) (t : Int) (w : Int), ((6 - w).toNat) < N32 → (0 ≤ w ∧ w ≤ 6) → (t = fo (tolF (ps i)) w u) → jW X 8 0 0 [] [(0, .ref (k 0)), (1, vL h0), (3, vL t), (5, vI i), (6, .ref (pad i)), (7, vI w)] 32 [] := by
            intro N32
            induction N32 with
            | zero => intro t w hm32 i32_0 i32_1; omega
            | succ N32 ih32 =>
              intro t w hm32 i32_0 i32_1
              refine j_iload (pc := 32) C 5 rfl dX9_withParishes_32 ?_
              refine j_iconst (pc := 34) C dX9_withParishes_34 ?_
              refine j_icmp_gt (pc := 35) C 59 rfl (by omega) dX9_withParishes_35 (fun h_3p35 => ?_) (fun h_3p35 => ?_)
              · skip
                refine j_iinc (pc := 59) (lc' := [(5, vI (i + 1)), (0, .ref (k 0)), (1, vL h0), (3, vL t), (6, .ref (pad i)), (7, vI w)]) C 3 rfl (by decide) rfl dX9_withParishes_59 ?_
                refine j_goto (pc := 62) C 5 rfl dX9_withParishes_62 ?_
                refine j_locals (lc' := [(0, .ref (k 0)), (1, vL h0), (3, vL t), (5, vI (i + 1))]) [1, 2, 3, 0] rfl ?_
                exact ih5 t (i + 1) (by omega) (by omega) (by rw [fo_succ _ (by omega), ← i5_1, i32_1, show w = 6 by omega]; rfl)
              · skip
                refine j_ldc2 (pc := 38) (w := 31) C (List.mem_of_getElem? (i := 2) rfl) dX9_withParishes_38 ?_
                refine j_lload_n (pc := 41) C 3 2 rfl rfl dX9_withParishes_41 ?_
                refine j_lmul (pc := 42) C dX9_withParishes_42 ?_
                refine j_aload (pc := 43) C 4 rfl dX9_withParishes_43 ?_
                refine j_iload (pc := 45) C 5 rfl dX9_withParishes_45 ?_
                have kk_4 : jW X 8 0 0 [] [(0, .ref (k 0)), (1, vL h0), (3, vL t), (5, vI i), (6, .ref (pad i)), (7, vI w)] 50 [vI (toldP (ps i) w), vL (31 * t)] := by
                  rw [vI_n32 (toldP (ps i) w)]
                  have hn_5 := n32_in (toldP (ps i) w)
                  refine j_i2l (pc := 50) C (by omega) dX9_withParishes_50 ?_
                  refine j_ladd (pc := 51) C dX9_withParishes_51 ?_
                  refine j_lstore_n (pc := 52) (lc' := [(3, vL ((31 * t) + (n32 (toldP (ps i) w)))), (0, .ref (k 0)), (1, vL h0), (5, vI i), (6, .ref (pad i)), (7, vI w)]) C 3 rfl (by decide) rfl dX9_withParishes_52 ?_
                  refine j_iinc (pc := 53) (lc' := [(7, vI (w + 1)), (3, vL ((31 * t) + (n32 (toldP (ps i) w)))), (0, .ref (k 0)), (1, vL h0), (5, vI i), (6, .ref (pad i))]) C 5 rfl (by decide) rfl dX9_withParishes_53 ?_
                  refine j_goto (pc := 56) C 32 rfl dX9_withParishes_56 ?_
                  refine j_locals (lc' := [(0, .ref (k 0)), (1, vL h0), (3, vL ((31 * t) + (n32 (toldP (ps i) w)))), (5, vI i), (6, .ref (pad i)), (7, vI (w + 1))]) [2, 3, 1, 4, 5, 0] rfl ?_
                  exact ih32 ((31 * t) + (n32 (toldP (ps i) w))) (w + 1) (by omega) (by omega) (by rw [fo_succ _ (by omega), ← i32_1]; rfl)
                rcases (show pk (ps i) = 0 ∨ pk (ps i) = 1 ∨ pk (ps i) = 2 ∨ pk (ps i) = 3 by have := hP2.1; omega) with h_6 | h_6 | h_6 | h_6
                · have hpm := hp2
                  rw [pC_0 h_6] at hpm
                  refine j_callVi (pc := 47) (As := [vI w]) (na := 1) (st := [vL (31 * t)]) C [] [] (wr := []) (fun l => c_told l D Y _ (pad i) (ps i) w (List.mem_append_right _ hp2) hP2 (by omega)) rfl rfl rfl rfl (by decide) rfl (Or.inr (List.mem_append_right _ hpm)) rfl gX9_withParishes_X5_told ⟨rfl, by decide +kernel⟩ (by decide) rfl rfl (Nat.le_of_ble_eq_true rfl) (by decide) dX9_withParishes_47 (fun e w1 hq => ?_)
                  obtain ⟨rfl, rfl⟩ := hq
                  refine j_perm (ws' := []) [] rfl rfl ?_
                  exact j_st rfl rfl (by rfl) kk_4
                · have hpm := hp2
                  rw [pC_1 h_6] at hpm
                  refine j_callUi (pc := 47) (As := [vI w]) (na := 1) (st := [vL (31 * t)]) C [] [] (wr := []) (fun l => c_told l D Y _ (pad i) (ps i) w (List.mem_append_right _ hp2) hP2 (by omega)) rfl rfl rfl rfl (by decide) rfl (Or.inr (List.mem_append_right _ hpm)) rfl gX9_withParishes_X5_told_u118X6 rfl (by decide +kernel) (by decide) rfl rfl (Nat.le_of_ble_eq_true rfl) (by decide) dX9_withParishes_47 (fun e w1 hq => ?_)
                  obtain ⟨rfl, rfl⟩ := hq
                  refine j_perm (ws' := []) [] rfl rfl ?_
                  exact j_st rfl rfl (by rfl) kk_4
                · have hpm := hp2
                  rw [pC_2 h_6] at hpm
                  refine j_callUi (pc := 47) (As := [vI w]) (na := 1) (st := [vL (31 * t)]) C [] [] (wr := []) (fun l => c_told l D Y _ (pad i) (ps i) w (List.mem_append_right _ hp2) hP2 (by omega)) rfl rfl rfl rfl (by decide) rfl (Or.inr (List.mem_append_right _ hpm)) rfl gX9_withParishes_X5_told_u118X7 rfl (by decide +kernel) (by decide) rfl rfl (Nat.le_of_ble_eq_true rfl) (by decide) dX9_withParishes_47 (fun e w1 hq => ?_)
                  obtain ⟨rfl, rfl⟩ := hq
                  refine j_perm (ws' := []) [] rfl rfl ?_
                  exact j_st rfl rfl (by rfl) kk_4
                · have hpm := hp2
                  rw [pC_3 h_6] at hpm
                  refine j_callUi (pc := 47) (As := [vI w]) (na := 1) (st := [vL (31 * t)]) C [] [] (wr := []) (fun l => c_told l D Y _ (pad i) (ps i) w (List.mem_append_right _ hp2) hP2 (by omega)) rfl rfl rfl rfl (by decide) rfl (Or.inr (List.mem_append_right _ hpm)) rfl gX9_withParishes_X5_told_u118X0 rfl (by decide +kernel) (by decide) rfl rfl (Nat.le_of_ble_eq_true rfl) (by decide) dX9_withParishes_47 (fun e w1 hq => ?_)
                  obtain ⟨rfl, rfl⟩ := hq
                  refine j_perm (ws' := []) [] rfl rfl ?_
                  exact j_st rfl rfl (by rfl) kk_4
          refine j_locals (lc' := [(0, .ref (k 0)), (1, vL h0), (3, vL u), (5, vI i), (6, .ref (pad i)), (7, vI 0)]) [2, 3, 4, 5, 1, 0] rfl ?_
          exact hL32 _ u 0 (Nat.lt_succ_self _) (by omega) rfl
        · rw [show orow np pad i = none from orow_out (by omega)]
          refine j_astoreN (pc := 19) (lc' := [(6, .null), (0, .ref (k 0)), (1, vL h0), (3, vL u), (5, vI i)]) C (by decide) rfl dX9_withParishes_19 ?_
          refine j_aloadN (pc := 21) C 0 rfl dX9_withParishes_21 ?_
          refine j_ifnonnullN (pc := 23) C dX9_withParishes_23 ?_
          refine j_goto (pc := 26) C 65 rfl dX9_withParishes_26 ?_
          refine j_lload_n (pc := 65) C 3 3 rfl rfl dX9_withParishes_65 ?_
          exact Rt _ _ _ _ _ _ (by decide) (by decide) ⟨by rw [i5_1, show i = np by omega], rfl⟩ dX9_withParishes_66
  refine j_locals (lc' := [(0, .ref (k 0)), (1, vL h0), (3, vL h0), (5, vI 0)]) [2, 3, 1, 0] rfl ?_
  exact hL5 _ h0 0 (Nat.lt_succ_self _) (by omega) rfl

theorem fX9_withCustoms_X2 : ∀ w ∈ u_ws RX2 TX2 8, w ∈ wsX9_withCustoms := j_words [154, 155, 156, 157, 158, 159, 160, 161] (by decide +kernel)
theorem fX9_withCustoms_X9 : ∀ w ∈ u_ws RX9 TX9 11, w ∈ wsX9_withCustoms := j_words [143, 144, 145, 146, 147, 148, 149, 150, 151, 152, 153] (by decide +kernel)
set_option maxHeartbeats 4000000 in
set_option maxRecDepth 100000 in
theorem k_withCustoms (l : Launch) (D : va_G) (Y : Nat → ClassId) (RO : va_W) (k : Nat → Nat) (nc : Int) (np : Int) (ik : Int) (cad : Int → Nat) (cs : Int → CT) (pad : Int → Nat) (ps : Int → PT) (S : MS) (U : MS) (h0 : Int) (ko : ((k 0), oC 8 [.ref (k 1), .ref (k 2), vI nc, .ref (k 3), vI np, .ref (k 4), .ref (k 7), vI ik, .ref (k 10), .ref (k 13), .ref (k 14)]) ∈ RO) (kc : ((k 2), aQ (Y 2) 4 (orow nc cad)) ∈ RO) (hcc : ∀ i, 0 ≤ i ∧ i < nc → (cad i, oC 1 [vI (cw (cs i)), vI (cz (cs i)), vI (ce (cs i))]) ∈ RO) (kp : ((k 3), aQ (Y 3) 6 (orow np pad)) ∈ RO) (hpc : ∀ i, 0 ≤ i ∧ i < np → pC (pad i) (ps i) ∈ RO) (hS : okS S) (hw : ms_w S ≤ 9999) (hnc : 0 ≤ nc ∧ nc ≤ 4) (hcs : ∀ i, 0 ≤ i ∧ i < nc → okC (cs i)) (hnp : 0 ≤ np ∧ np ≤ 6) (hps : ∀ i, 0 ≤ i ∧ i < np → okP (ps i)) : jMl l yX9_withCustoms wsX9_withCustoms { frames := 5, cells := 0, slots := 0, locals := 116 } D Y RO [.ref (k 0), vL h0] [((k 4), oC 2 [.ref (k 5), .ref (k 6), vI (ms_w S), vI (ms_l S), vI (ms_s S), vI (ms_a S), vI (ms_t S), vI (ms_p S)]), ((k 5), aI (Y 0) 7 (ms_h S)), ((k 6), aI (Y 0) 420 (ms_m S)), ((k 10), oC 2 [.ref (k 11), .ref (k 12), vI (ms_w U), vI (ms_l U), vI (ms_s U), vI (ms_a U), vI (ms_t U), vI (ms_p U)]), ((k 11), aI (Y 0) 7 (ms_h U)), ((k 12), aI (Y 0) 420 (ms_m U))] (fun e w1 => e = (fo (cusF cs ps np S) nc h0) ∧ ∃ V : MS, w1 = [((k 4), oC 2 [.ref (k 5), .ref (k 6), vI (ms_w S), vI (ms_l S), vI (ms_s S), vI (ms_a S), vI (ms_t S), vI (ms_p S)]), ((k 5), aI (Y 0) 7 (ms_h S)), ((k 6), aI (Y 0) 420 (ms_m S)), ((k 10), oC 2 [.ref (k 11), .ref (k 12), vI (ms_w V), vI (ms_l V), vI (ms_s V), vI (ms_a V), vI (ms_t V), vI (ms_p V)]), ((k 11), aI (Y 0) 7 (ms_h V)), ((k 12), aI (Y 0) 420 (ms_m V))]) := by
  refine j_ofl RX9 rfl rfl rfl (Nat.le_of_ble_eq_true rfl) (fun X C Rt => ?_)
  refine j_lload_n (pc := 0) C 1 1 rfl rfl dX9_withCustoms_0 ?_
  refine j_lstore_n (pc := 1) (lc' := [(3, vL h0), (0, .ref (k 0)), (1, vL h0)]) C 3 rfl (by decide) rfl dX9_withCustoms_1 ?_
  refine j_iconst (pc := 2) C dX9_withCustoms_2 ?_
  refine j_istore (pc := 3) (lc' := [(5, vI 0), (3, vL h0), (0, .ref (k 0)), (1, vL h0)]) C (by decide) rfl dX9_withCustoms_3 ?_
  have hL5 : ∀ (N5 : Nat) (u : Int) (i : Int) (V : MS), ((nc - i).toNat) < N5 → (0 ≤ i ∧ i ≤ nc) → (u = fo (cusF cs ps np S) i h0) → jW X 8 0 0 [((k 4), oC 2 [.ref (k 5), .ref (k 6), vI (ms_w S), vI (ms_l S), vI (ms_s S), vI (ms_a S), vI (ms_t S), vI (ms_p S)]), ((k 5), aI (Y 0) 7 (ms_h S)), ((k 6), aI (Y 0) 420 (ms_m S)), ((k 10), oC 2 [.ref (k 11), .ref (k 12), vI (ms_w V), vI (ms_l V), vI (ms_s V), vI (ms_a V), vI (ms_t V), vI (ms_p V)]), ((k 11), aI (Y 0) 7 (ms_h V)), ((k 12), aI (Y 0) 420 (ms_m V))] [(0, .ref (k 0)), (1, vL h0), (3, vL u), (5, vI i)] 5 [] := by
    intro N5
    induction N5 with
    | zero => intro u i V hm5 i5_0 i5_1; omega
    | succ N5 ih5 =>
      intro u i V hm5 i5_0 i5_1
      refine j_iload (pc := 5) C 3 rfl dX9_withCustoms_5 ?_
      refine j_iconst (pc := 7) C dX9_withCustoms_7 ?_
      refine j_icmp_ge (pc := 8) C 135 rfl (by omega) dX9_withCustoms_8 (fun h_1p8 => ?_) (fun h_1p8 => ?_)
      · skip
        refine j_lload_n (pc := 135) C 3 2 rfl rfl dX9_withCustoms_135 ?_
        exact Rt _ _ _ _ _ _ (by decide) (by decide) ⟨by rw [i5_1, show i = nc by omega], _, rfl⟩ dX9_withCustoms_136
      · skip
        refine j_aload_n (pc := 11) C 0 0 rfl rfl dX9_withCustoms_11 ?_
        refine j_get (pc := 12) C (Or.inr ko) rfl fX9_withCustoms_X9 1 (by decide) (List.mem_of_getElem? (i := 1) rfl) (Or.inl rfl) rfl dX9_withCustoms_12 ?_
        refine j_iload (pc := 15) C 3 rfl dX9_withCustoms_15 ?_
        refine j_aaldC (pc := 17) C (Or.inr kc) rfl (by omega) (by decide) dX9_withCustoms_17 ?_
        by_cases hq_2 : i < nc
        · rw [show orow nc cad i = some (cad i) from orow_in ⟨by omega, hq_2⟩]
          have hc2 := hcc i ⟨by omega, hq_2⟩
          have hC2 := hcs i ⟨by omega, hq_2⟩
          refine j_astore (pc := 18) (lc' := [(6, .ref (cad i)), (0, .ref (k 0)), (1, vL h0), (3, vL u), (5, vI i)]) C (by decide) rfl dX9_withCustoms_18 ?_
          refine j_aload (pc := 20) C 0 rfl dX9_withCustoms_20 ?_
          refine j_ifnonnull (pc := 22) C 28 rfl dX9_withCustoms_22 ?_
          refine j_iconst (pc := 28) C dX9_withCustoms_28 ?_
          refine j_istore (pc := 29) (lc' := [(7, vI 0), (6, .ref (cad i)), (0, .ref (k 0)), (1, vL h0), (3, vL u), (5, vI i)]) C (by decide) rfl dX9_withCustoms_29 ?_
          have hL31 : ∀ (N31 : Nat) (t : Int) (w : Int), ((3 - w).toNat) < N31 → (0 ≤ w ∧ w ≤ 3) → (t = fo (ctlF (cs i)) w u) → jW X 8 0 0 [((k 4), oC 2 [.ref (k 5), .ref (k 6), vI (ms_w S), vI (ms_l S), vI (ms_s S), vI (ms_a S), vI (ms_t S), vI (ms_p S)]), ((k 5), aI (Y 0) 7 (ms_h S)), ((k 6), aI (Y 0) 420 (ms_m S)), ((k 10), oC 2 [.ref (k 11), .ref (k 12), vI (ms_w V), vI (ms_l V), vI (ms_s V), vI (ms_a V), vI (ms_t V), vI (ms_p V)]), ((k 11), aI (Y 0) 7 (ms_h V)), ((k 12), aI (Y 0) 420 (ms_m V))] [(0, .ref (k 0)), (1, vL h0), (3, vL t), (5, vI i), (6, .ref (cad i)), (7, vI w)] 31 [] := by
            intro N31
            induction N31 with
            | zero => intro t w hm31 i31_0 i31_1; omega
            | succ N31 ih31 =>
              intro t w hm31 i31_0 i31_1
              refine j_iload (pc := 31) C 5 rfl dX9_withCustoms_31 ?_
              refine j_iconst (pc := 33) C dX9_withCustoms_33 ?_
              refine j_icmp_gt (pc := 34) C 58 rfl (by omega) dX9_withCustoms_34 (fun h_3p34 => ?_) (fun h_3p34 => ?_)
              · skip
                refine j_aload_n (pc := 58) C 0 0 rfl rfl dX9_withCustoms_58 ?_
                refine j_get (pc := 59) C (Or.inr ko) rfl fX9_withCustoms_X9 8 (by decide) (List.mem_of_getElem? (i := 3) rfl) (Or.inl rfl) rfl dX9_withCustoms_59 ?_
                refine j_aload_n (pc := 62) C 0 0 rfl rfl dX9_withCustoms_62 ?_
                refine j_get (pc := 63) C (Or.inr ko) rfl fX9_withCustoms_X9 5 (by decide) (List.mem_of_getElem? (i := 4) rfl) (Or.inl rfl) rfl dX9_withCustoms_63 ?_
                refine j_callVv (pc := 66) (As := [.ref (k 4)]) (na := 1) (st := []) C [3, 4, 5, 0, 1, 2] [] (wr := []) (fun l => c_become l D Y _ (k 10) (k 11) (k 12) V (k 4) (k 5) (k 6) S ) rfl rfl rfl rfl (by decide) rfl (Or.inl (List.mem_of_getElem? (i := 0) rfl)) rfl gX9_withCustoms_X2_become ⟨rfl, by decide +kernel⟩ (by decide) rfl rfl (Nat.le_of_ble_eq_true rfl) (by decide) dX9_withCustoms_66 (fun w_5 h_6 => ?_)
                subst h_6
                refine j_perm (ws' := [((k 4), oC 2 [.ref (k 5), .ref (k 6), vI (ms_w S), vI (ms_l S), vI (ms_s S), vI (ms_a S), vI (ms_t S), vI (ms_p S)]), ((k 5), aI (Y 0) 7 (ms_h S)), ((k 6), aI (Y 0) 420 (ms_m S)), ((k 10), oC 2 [.ref (k 11), .ref (k 12), vI (ms_w S), vI (ms_l S), vI (ms_s S), vI (ms_a S), vI (ms_t S), vI (ms_p S)]), ((k 11), aI (Y 0) 7 (ms_h S)), ((k 12), aI (Y 0) 420 (ms_m S))]) [3, 4, 5, 0, 1, 2] rfl rfl ?_
                have hCi := hcs i (by omega)
                have hg1 := okS_go hS hCi hps hnp
                refine j_aload_n (pc := 69) C 0 0 rfl rfl dX9_withCustoms_69 ?_
                refine j_get (pc := 70) C (Or.inr ko) rfl fX9_withCustoms_X9 8 (by decide) (List.mem_of_getElem? (i := 3) rfl) (Or.inl rfl) rfl dX9_withCustoms_70 ?_
                refine j_aload (pc := 73) C 4 rfl dX9_withCustoms_73 ?_
                refine j_aload_n (pc := 75) C 0 0 rfl rfl dX9_withCustoms_75 ?_
                refine j_get (pc := 76) C (Or.inr ko) rfl fX9_withCustoms_X9 3 (by decide) (List.mem_of_getElem? (i := 5) rfl) (Or.inl rfl) rfl dX9_withCustoms_76 ?_
                refine j_callVv (pc := 79) (As := [.ref (cad i), .ref (k 3)]) (na := 2) (st := []) C [3, 4, 5] [0, 1, 2] (wr := [((k 4), oC 2 [.ref (k 5), .ref (k 6), vI (ms_w S), vI (ms_l S), vI (ms_s S), vI (ms_a S), vI (ms_t S), vI (ms_p S)]), ((k 5), aI (Y 0) 7 (ms_h S)), ((k 6), aI (Y 0) 420 (ms_m S))]) (fun l => c_goOneWeek l D Y _ (k 10) (k 11) (k 12) S (cad i) (cs i) (k 3) pad np ps (List.mem_append_right _ hc2) (List.mem_append_right _ kp) (fun i hi => List.mem_append_right _ (hpc i hi)) hS hCi (by first | assumption | omega) (by first | assumption | omega) (by omega)) rfl rfl rfl rfl (by decide) rfl (Or.inl (List.mem_of_getElem? (i := 0) rfl)) rfl gX9_withCustoms_X2_goOneWeek ⟨rfl, by decide +kernel⟩ (by decide) rfl rfl (Nat.le_of_ble_eq_true rfl) (by decide) dX9_withCustoms_79 (fun w_8 h_9 => ?_)
                subst h_9
                refine j_perm (ws' := [((k 4), oC 2 [.ref (k 5), .ref (k 6), vI (ms_w S), vI (ms_l S), vI (ms_s S), vI (ms_a S), vI (ms_t S), vI (ms_p S)]), ((k 5), aI (Y 0) 7 (ms_h S)), ((k 6), aI (Y 0) 420 (ms_m S)), ((k 10), oC 2 [.ref (k 11), .ref (k 12), vI (ms_w (goS (cs i) ps np S)), vI (ms_l (goS (cs i) ps np S)), vI (ms_s (goS (cs i) ps np S)), vI (ms_a (goS (cs i) ps np S)), vI (ms_t (goS (cs i) ps np S)), vI (ms_p (goS (cs i) ps np S))]), ((k 11), aI (Y 0) 7 (ms_h (goS (cs i) ps np S))), ((k 12), aI (Y 0) 420 (ms_m (goS (cs i) ps np S)))]) [0, 1, 2, 3, 4, 5] rfl rfl ?_
                refine j_aload_n (pc := 82) C 0 0 rfl rfl dX9_withCustoms_82 ?_
                refine j_get (pc := 83) C (Or.inr ko) rfl fX9_withCustoms_X9 8 (by decide) (List.mem_of_getElem? (i := 3) rfl) (Or.inl rfl) rfl dX9_withCustoms_83 ?_
                refine j_aload (pc := 86) C 4 rfl dX9_withCustoms_86 ?_
                refine j_aload_n (pc := 88) C 0 0 rfl rfl dX9_withCustoms_88 ?_
                refine j_get (pc := 89) C (Or.inr ko) rfl fX9_withCustoms_X9 3 (by decide) (List.mem_of_getElem? (i := 5) rfl) (Or.inl rfl) rfl dX9_withCustoms_89 ?_
                refine j_callVv (pc := 92) (As := [.ref (cad i), .ref (k 3)]) (na := 2) (st := []) C [3, 4, 5] [0, 1, 2] (wr := [((k 4), oC 2 [.ref (k 5), .ref (k 6), vI (ms_w S), vI (ms_l S), vI (ms_s S), vI (ms_a S), vI (ms_t S), vI (ms_p S)]), ((k 5), aI (Y 0) 7 (ms_h S)), ((k 6), aI (Y 0) 420 (ms_m S))]) (fun l => c_goOneWeek l D Y _ (k 10) (k 11) (k 12) (goS (cs i) ps np S) (cad i) (cs i) (k 3) pad np ps (List.mem_append_right _ hc2) (List.mem_append_right _ kp) (fun i hi => List.mem_append_right _ (hpc i hi)) hg1.1 hCi (by first | assumption | omega) (by first | assumption | omega) (by rw [hg1.2]; omega)) rfl rfl rfl rfl (by decide) rfl (Or.inl (List.mem_of_getElem? (i := 0) rfl)) rfl gX9_withCustoms_X2_goOneWeek ⟨rfl, by decide +kernel⟩ (by decide) rfl rfl (Nat.le_of_ble_eq_true rfl) (by decide) dX9_withCustoms_92 (fun w_11 h_12 => ?_)
                subst h_12
                refine j_perm (ws' := [((k 4), oC 2 [.ref (k 5), .ref (k 6), vI (ms_w S), vI (ms_l S), vI (ms_s S), vI (ms_a S), vI (ms_t S), vI (ms_p S)]), ((k 5), aI (Y 0) 7 (ms_h S)), ((k 6), aI (Y 0) 420 (ms_m S)), ((k 10), oC 2 [.ref (k 11), .ref (k 12), vI (ms_w (goS (cs i) ps np (goS (cs i) ps np S))), vI (ms_l (goS (cs i) ps np (goS (cs i) ps np S))), vI (ms_s (goS (cs i) ps np (goS (cs i) ps np S))), vI (ms_a (goS (cs i) ps np (goS (cs i) ps np S))), vI (ms_t (goS (cs i) ps np (goS (cs i) ps np S))), vI (ms_p (goS (cs i) ps np (goS (cs i) ps np S)))]), ((k 11), aI (Y 0) 7 (ms_h (goS (cs i) ps np (goS (cs i) ps np S)))), ((k 12), aI (Y 0) 420 (ms_m (goS (cs i) ps np (goS (cs i) ps np S))))]) [0, 1, 2, 3, 4, 5] rfl rfl ?_
                refine j_iconst (pc := 95) C dX9_withCustoms_95 ?_
                refine j_istore (pc := 96) (lc' := [(7, vI 0), (0, .ref (k 0)), (1, vL h0), (3, vL t), (5, vI i), (6, .ref (cad i))]) C (by decide) rfl dX9_withCustoms_96 ?_
                have hL98 : ∀ (N98 : Nat) (t2 : Int) (kk : Int), ((7 - kk).toNat) < N98 → (0 ≤ kk ∧ kk ≤ 7) → (t2 = fo (lookF (goS (cs i) ps np (goS (cs i) ps np S))) kk t) → jW X 8 0 0 [((k 4), oC 2 [.ref (k 5), .ref (k 6), vI (ms_w S), vI (ms_l S), vI (ms_s S), vI (ms_a S), vI (ms_t S), vI (ms_p S)]), ((k 5), aI (Y 0) 7 (ms_h S)), ((k 6), aI (Y 0) 420 (ms_m S)), ((k 10), oC 2 [.ref (k 11), .ref (k 12), vI (ms_w ((goS (cs i) ps np (goS (cs i) ps np S)))), vI (ms_l ((goS (cs i) ps np (goS (cs i) ps np S)))), vI (ms_s ((goS (cs i) ps np (goS (cs i) ps np S)))), vI (ms_a ((goS (cs i) ps np (goS (cs i) ps np S)))), vI (ms_t ((goS (cs i) ps np (goS (cs i) ps np S)))), vI (ms_p ((goS (cs i) ps np (goS (cs i) ps np S))))]), ((k 11), aI (Y 0) 7 (ms_h ((goS (cs i) ps np (goS (cs i) ps np S))))), ((k 12), aI (Y 0) 420 (ms_m ((goS (cs i) ps np (goS (cs i) ps np S)))))] [(0, .ref (k 0)), (1, vL h0), (3, vL t2), (5, vI i), (6, .ref (cad i)), (7, vI kk)] 98 [] := by
                  intro N98
                  induction N98 with
                  | zero => intro t2 kk hm98 i98_0 i98_1; omega
                  | succ N98 ih98 =>
                    intro t2 kk hm98 i98_0 i98_1
                    refine j_iload (pc := 98) C 5 rfl dX9_withCustoms_98 ?_
                    refine j_bipush (pc := 100) (w := 7) C rfl dX9_withCustoms_100 ?_
                    refine j_icmp_ge (pc := 102) C 129 rfl (by omega) dX9_withCustoms_102 (fun h_13p102 => ?_) (fun h_13p102 => ?_)
                    · skip
                      refine j_iinc (pc := 129) (lc' := [(5, vI (i + 1)), (0, .ref (k 0)), (1, vL h0), (3, vL t2), (6, .ref (cad i)), (7, vI kk)]) C 3 rfl (by decide) rfl dX9_withCustoms_129 ?_
                      refine j_goto (pc := 132) C 5 rfl dX9_withCustoms_132 ?_
                      refine j_locals (lc' := [(0, .ref (k 0)), (1, vL h0), (3, vL t2), (5, vI (i + 1))]) [1, 2, 3, 0] rfl ?_
                      exact ih5 t2 (i + 1) ((goS (cs i) ps np (goS (cs i) ps np S))) (by omega) (by omega) (by rw [fo_succ _ (by omega), ← i5_1, i98_1, show kk = 7 by omega, i31_1, show w = 3 by omega]; unfold cusF; rw [weeks_2])
                    · skip
                      refine j_ldc2 (pc := 105) (w := 31) C (List.mem_of_getElem? (i := 2) rfl) dX9_withCustoms_105 ?_
                      refine j_lload_n (pc := 108) C 3 2 rfl rfl dX9_withCustoms_108 ?_
                      refine j_lmul (pc := 109) C dX9_withCustoms_109 ?_
                      refine j_aload_n (pc := 110) C 0 0 rfl rfl dX9_withCustoms_110 ?_
                      refine j_get (pc := 111) C (Or.inr ko) rfl fX9_withCustoms_X9 8 (by decide) (List.mem_of_getElem? (i := 3) rfl) (Or.inl rfl) rfl dX9_withCustoms_111 ?_
                      refine j_get (pc := 114) C (Or.inl (List.mem_of_getElem? (i := 3) rfl)) rfl fX9_withCustoms_X2 0 (by decide) (List.mem_of_getElem? (i := 6) rfl) (Or.inl rfl) rfl dX9_withCustoms_114 ?_
                      refine j_iload (pc := 117) C 5 rfl dX9_withCustoms_117 ?_
                      refine j_iald (pc := 119) C (Or.inl (List.mem_of_getElem? (i := 4) rfl)) rfl (by omega) (by decide) dX9_withCustoms_119 ?_
                      rw [vI_n32 (ms_h ((goS (cs i) ps np (goS (cs i) ps np S))) kk)]
                      have hn_14 := n32_in (ms_h ((goS (cs i) ps np (goS (cs i) ps np S))) kk)
                      refine j_i2l (pc := 120) C (by omega) dX9_withCustoms_120 ?_
                      refine j_ladd (pc := 121) C dX9_withCustoms_121 ?_
                      refine j_lstore_n (pc := 122) (lc' := [(3, vL ((31 * t2) + (n32 (ms_h ((goS (cs i) ps np (goS (cs i) ps np S))) kk)))), (0, .ref (k 0)), (1, vL h0), (5, vI i), (6, .ref (cad i)), (7, vI kk)]) C 3 rfl (by decide) rfl dX9_withCustoms_122 ?_
                      refine j_iinc (pc := 123) (lc' := [(7, vI (kk + 1)), (3, vL ((31 * t2) + (n32 (ms_h ((goS (cs i) ps np (goS (cs i) ps np S))) kk)))), (0, .ref (k 0)), (1, vL h0), (5, vI i), (6, .ref (cad i))]) C 5 rfl (by decide) rfl dX9_withCustoms_123 ?_
                      refine j_goto (pc := 126) C 98 rfl dX9_withCustoms_126 ?_
                      refine j_locals (lc' := [(0, .ref (k 0)), (1, vL h0), (3, vL ((31 * t2) + (n32 (ms_h ((goS (cs i) ps np (goS (cs i) ps np S))) kk)))), (5, vI i), (6, .ref (cad i)), (7, vI (kk + 1))]) [2, 3, 1, 4, 5, 0] rfl ?_
                      exact ih98 ((31 * t2) + (n32 (ms_h ((goS (cs i) ps np (goS (cs i) ps np S))) kk))) (kk + 1) (by omega) (by omega) (by rw [fo_succ _ (by omega), ← i98_1]; rfl)
                refine j_locals (lc' := [(0, .ref (k 0)), (1, vL h0), (3, vL t), (5, vI i), (6, .ref (cad i)), (7, vI 0)]) [1, 2, 3, 4, 5, 0] rfl ?_
                exact hL98 _ t 0 (Nat.lt_succ_self _) (by omega) rfl
              · skip
                refine j_ldc2 (pc := 37) (w := 31) C (List.mem_of_getElem? (i := 2) rfl) dX9_withCustoms_37 ?_
                refine j_lload_n (pc := 40) C 3 2 rfl rfl dX9_withCustoms_40 ?_
                refine j_lmul (pc := 41) C dX9_withCustoms_41 ?_
                refine j_aload (pc := 42) C 4 rfl dX9_withCustoms_42 ?_
                refine j_iload (pc := 44) C 5 rfl dX9_withCustoms_44 ?_
                refine j_callVi (pc := 46) (As := [vI w]) (na := 1) (st := [vL (31 * t)]) C [] [0, 1, 2, 3, 4, 5] (wr := [((k 4), oC 2 [.ref (k 5), .ref (k 6), vI (ms_w S), vI (ms_l S), vI (ms_s S), vI (ms_a S), vI (ms_t S), vI (ms_p S)]), ((k 5), aI (Y 0) 7 (ms_h S)), ((k 6), aI (Y 0) 420 (ms_m S)), ((k 10), oC 2 [.ref (k 11), .ref (k 12), vI (ms_w V), vI (ms_l V), vI (ms_s V), vI (ms_a V), vI (ms_t V), vI (ms_p V)]), ((k 11), aI (Y 0) 7 (ms_h V)), ((k 12), aI (Y 0) 420 (ms_m V))]) (fun l => c_ctold l D Y _ (cad i) (cs i) w (List.mem_append_right _ hc2) (by first | assumption | omega)) rfl rfl rfl rfl (by decide) rfl (Or.inr (List.mem_append_right _ hc2)) rfl gX9_withCustoms_X1_told ⟨rfl, by decide +kernel⟩ (by decide) rfl rfl (Nat.le_of_ble_eq_true rfl) (by decide) dX9_withCustoms_46 (fun e_15 w_16 h_17 => ?_)
                obtain ⟨rfl, rfl⟩ := h_17
                refine j_perm (ws' := [((k 4), oC 2 [.ref (k 5), .ref (k 6), vI (ms_w S), vI (ms_l S), vI (ms_s S), vI (ms_a S), vI (ms_t S), vI (ms_p S)]), ((k 5), aI (Y 0) 7 (ms_h S)), ((k 6), aI (Y 0) 420 (ms_m S)), ((k 10), oC 2 [.ref (k 11), .ref (k 12), vI (ms_w V), vI (ms_l V), vI (ms_s V), vI (ms_a V), vI (ms_t V), vI (ms_p V)]), ((k 11), aI (Y 0) 7 (ms_h V)), ((k 12), aI (Y 0) 420 (ms_m V))]) [0, 1, 2, 3, 4, 5] rfl rfl ?_
                rw [vI_n32 (toldC (cs i) w)]
                have hn_18 := n32_in (toldC (cs i) w)
                refine j_i2l (pc := 49) C (by omega) dX9_withCustoms_49 ?_
                refine j_ladd (pc := 50) C dX9_withCustoms_50 ?_
                refine j_lstore_n (pc := 51) (lc' := [(3, vL ((31 * t) + (n32 (toldC (cs i) w)))), (0, .ref (k 0)), (1, vL h0), (5, vI i), (6, .ref (cad i)), (7, vI w)]) C 3 rfl (by decide) rfl dX9_withCustoms_51 ?_
                refine j_iinc (pc := 52) (lc' := [(7, vI (w + 1)), (3, vL ((31 * t) + (n32 (toldC (cs i) w)))), (0, .ref (k 0)), (1, vL h0), (5, vI i), (6, .ref (cad i))]) C 5 rfl (by decide) rfl dX9_withCustoms_52 ?_
                refine j_goto (pc := 55) C 31 rfl dX9_withCustoms_55 ?_
                refine j_locals (lc' := [(0, .ref (k 0)), (1, vL h0), (3, vL ((31 * t) + (n32 (toldC (cs i) w)))), (5, vI i), (6, .ref (cad i)), (7, vI (w + 1))]) [2, 3, 1, 4, 5, 0] rfl ?_
                exact ih31 ((31 * t) + (n32 (toldC (cs i) w))) (w + 1) (by omega) (by omega) (by rw [fo_succ _ (by omega), ← i31_1]; rfl)
          refine j_locals (lc' := [(0, .ref (k 0)), (1, vL h0), (3, vL u), (5, vI i), (6, .ref (cad i)), (7, vI 0)]) [2, 3, 4, 5, 1, 0] rfl ?_
          exact hL31 _ u 0 (Nat.lt_succ_self _) (by omega) rfl
        · rw [show orow nc cad i = none from orow_out (by omega)]
          refine j_astoreN (pc := 18) (lc' := [(6, .null), (0, .ref (k 0)), (1, vL h0), (3, vL u), (5, vI i)]) C (by decide) rfl dX9_withCustoms_18 ?_
          refine j_aloadN (pc := 20) C 0 rfl dX9_withCustoms_20 ?_
          refine j_ifnonnullN (pc := 22) C dX9_withCustoms_22 ?_
          refine j_goto (pc := 25) C 135 rfl dX9_withCustoms_25 ?_
          refine j_lload_n (pc := 135) C 3 3 rfl rfl dX9_withCustoms_135 ?_
          exact Rt _ _ _ _ _ _ (by decide) (by decide) ⟨by rw [i5_1, show i = nc by omega], _, rfl⟩ dX9_withCustoms_136
  refine j_locals (lc' := [(0, .ref (k 0)), (1, vL h0), (3, vL h0), (5, vI 0)]) [2, 3, 1, 0] rfl ?_
  exact hL5 _ h0 0 U (Nat.lt_succ_self _) (by omega) rfl
