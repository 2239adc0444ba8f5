set_option maxHeartbeats 4000000 in
set_option maxRecDepth 100000 in
theorem j_fill (l : Launch) (D : va_G) (Y : Nat → ClassId) (RO : va_W) (a : Nat) (g : Int → Int) (v : Int)   : jMv l yJ7_fill_53178 wsJ7_fill_53178 { frames := 0, cells := 0, slots := 0, locals := 0 } D Y RO [.ref a, vI v] [(a, aI (Y 0) 271 g)] (fun w1 => w1 = [(a, aI (Y 0) 271 (fun _ => v))]) := by
  refine j_ofv RJ7 rfl rfl rfl (Nat.le_of_ble_eq_true rfl) (fun X C Rt hI => ?_)
  refine j_iconst (pc := 0) C dJ7_fill_53178_0 ?_
  refine j_istore_n (pc := 1) (lc' := [(2, vI 0), (0, .ref a), (1, vI v)]) C 2 rfl (by decide) rfl dJ7_fill_53178_1 ?_
  refine j_aload_n (pc := 2) C 0 1 rfl rfl dJ7_fill_53178_2 ?_
  refine j_alenI (pc := 3) C (Or.inl (List.mem_of_getElem? (i := 0) rfl)) rfl dJ7_fill_53178_3 ?_
  refine j_istore_n (pc := 4) (lc' := [(3, vI 271), (2, vI 0), (0, .ref a), (1, vI v)]) C 3 rfl (by decide) rfl dJ7_fill_53178_4 ?_
  have hL5 : ∀ (N5 : Nat) (i : Int) (z : Int → Int), ((271 - i).toNat) < N5 → (0 ≤ i ∧ i ≤ 271) → (∀ j : Int, 0 ≤ j → j < i → z j = v) → jW X 4 0 0 [(a, aI (Y 0) 271 z)] [(0, .ref a), (1, vI v), (2, vI i), (3, vI 271)] 5 [] := by
    intro N5
    induction N5 with
    | zero => intro i z hm5 i5_0 i5_1; omega
    | succ N5 ih5 =>
      intro i z hm5 i5_0 i5_1
      refine j_iload_n (pc := 5) C 2 2 rfl rfl dJ7_fill_53178_5 ?_
      refine j_iload_n (pc := 6) C 3 3 rfl rfl dJ7_fill_53178_6 ?_
      refine j_icmp_ge (pc := 7) C 20 rfl (by omega) dJ7_fill_53178_7 (fun h_1p7 => ?_) (fun h_1p7 => ?_)
      · skip
        refine j_ext (ws' := [(a, aI (Y 0) 271 (fun _ => v))]) 0 rfl (fun j hj => i5_1 j hj.1 (by omega)) rfl ?_
        exact Rt _ _ _ _ _ (by decide) (by decide) rfl dJ7_fill_53178_20
      · skip
        refine j_aload_n (pc := 10) C 0 0 rfl rfl dJ7_fill_53178_10 ?_
        refine j_iload_n (pc := 11) C 2 2 rfl rfl dJ7_fill_53178_11 ?_
        refine j_iload_n (pc := 12) C 1 1 rfl rfl dJ7_fill_53178_12 ?_
        refine j_iast (pc := 13) (ws' := [(a, aI (Y 0) 271 (up z i v))]) C 0 rfl rfl (by omega) (by decide) rfl dJ7_fill_53178_13 ?_
        refine j_iinc (pc := 14) (lc' := [(2, vI (i + 1)), (0, .ref a), (1, vI v), (3, vI 271)]) C 2 rfl (by decide) rfl dJ7_fill_53178_14 ?_
        refine j_goto (pc := 17) C 5 rfl dJ7_fill_53178_17 ?_
        refine j_locals (lc' := [(0, .ref a), (1, vI v), (2, vI (i + 1)), (3, vI 271)]) [1, 2, 0, 3] rfl ?_
        exact ih5 (i + 1) (up z i v) (by omega) (by omega) (up_agree (f := fun _ => v) i5_1)
  refine j_locals (lc' := [(0, .ref a), (1, vI v), (2, vI 0), (3, vI 271)]) [2, 3, 1, 0] rfl ?_
  exact hL5 _ 0 g (Nat.lt_succ_self _) (by omega) (fun j h0 h1 => by omega)

theorem fX8_start_X8 : ∀ w ∈ u_ws RX8 TX8 2, w ∈ wsX8_start := j_words [6, 7] (by decide +kernel)
set_option maxHeartbeats 4000000 in
set_option maxRecDepth 100000 in
theorem c_start (l : Launch) (D : va_G) (Y : Nat → ClassId) (RO : va_W) (h : Nat) (x : Nat) (y : Nat) (g : Int → Int) (r0 : (h, oC 7 [.ref x, .ref y]) ∈ RO)  : jMv l yX8_start wsX8_start { frames := 1, cells := 0, slots := 0, locals := 23 } D Y RO [.ref h] [(x, aI (Y 0) 271 g)] (fun w1 => w1 = [(x, aI (Y 0) 271 row0)]) := by
  refine j_ofv RX8 rfl rfl rfl (Nat.le_of_ble_eq_true rfl) (fun X C Rt hI => ?_)
  refine j_aload_n (pc := 0) C 0 0 rfl rfl dX8_start_0 ?_
  refine j_get (pc := 1) C (Or.inr r0) rfl fX8_start_X8 0 (by decide) (List.mem_of_getElem? (i := 1) rfl) (Or.inl rfl) rfl dX8_start_1 ?_
  refine j_sipush (pc := 4) (w := 1000) C rfl dX8_start_4 ?_
  refine j_callSv (pc := 7) (As := [.ref x, vI 1000]) (na := 2) (st := []) C [0] [] (wr := []) (fun l => j_fill l D Y _ x g 1000 ) rfl rfl rfl rfl (by decide) rfl gX8_start_J7_fill_53178 (by decide +kernel) (by decide) rfl rfl (Nat.le_of_ble_eq_true rfl) (by decide) dX8_start_7 (fun w_2 h_3 => ?_)
  subst h_3
  refine j_perm (ws' := [(x, aI (Y 0) 271 (fun _ => 1000))]) [0] rfl rfl ?_
  refine j_aload_n (pc := 10) C 0 0 rfl rfl dX8_start_10 ?_
  refine j_get (pc := 11) C (Or.inr r0) rfl fX8_start_X8 0 (by decide) (List.mem_of_getElem? (i := 1) rfl) (Or.inl rfl) rfl dX8_start_11 ?_
  refine j_bipush (pc := 14) (w := 54) C rfl dX8_start_14 ?_
  refine j_iconst (pc := 16) C dX8_start_16 ?_
  refine j_iast (pc := 17) (ws' := [(x, aI (Y 0) 271 (up (fun _ => 1000) 54 0))]) C 0 rfl rfl (by omega) (by decide) rfl dX8_start_17 ?_
  exact Rt _ _ _ _ _ (by decide) (by decide) rfl dX8_start_18

theorem fX8_costOf_X8 : ∀ w ∈ u_ws RX8 TX8 2, w ∈ wsX8_costOf := j_words [2, 3] (by decide +kernel)
set_option maxHeartbeats 4000000 in
set_option maxRecDepth 100000 in
theorem c_costOf (l : Launch) (D : va_G) (Y : Nat → ClassId) (RO : va_W) (h : Nat) (x : Nat) (y : Nat) (g : Int → Int) (n : Int) (r0 : (h, oC 7 [.ref x, .ref y]) ∈ RO) (r1 : (x, aI (Y 0) 271 g) ∈ RO) (hn : -100 ≤ n ∧ n ≤ 1000) : jMi l yX8_costOf wsX8_costOf { frames := 0, cells := 0, slots := 0, locals := 0 } D Y RO [.ref h, vI n] [] (fun e w1 => e = (costI n g) ∧ w1 = []) := by
  refine j_ofi RX8 rfl rfl rfl (Nat.le_of_ble_eq_true rfl) (fun X C Rt => ?_)
  refine j_iload_n (pc := 0) C 1 1 rfl rfl dX8_costOf_0 ?_
  refine j_bipush (pc := 1) (w := (-54)) C rfl dX8_costOf_1 ?_
  refine j_isub (pc := 3) C dX8_costOf_3 ?_
  refine j_istore_n (pc := 4) (lc' := [(2, vI (n - (-54))), (0, .ref h), (1, vI n)]) C 2 rfl (by decide) rfl dX8_costOf_4 ?_
  refine j_iload_n (pc := 5) C 2 0 rfl rfl dX8_costOf_5 ?_
  refine j_if_lt (pc := 6) C 16 rfl (by omega) dX8_costOf_6 (fun h_1p6 => ?_) (fun h_1p6 => ?_)
  · skip
    refine j_sipush (pc := 16) (w := 1000) C rfl dX8_costOf_16 ?_
    refine j_goto (pc := 19) C 28 rfl dX8_costOf_19 ?_
    exact Rt _ _ _ _ _ _ (by decide) (by decide) ⟨by unfold costI; first | (rw [if_neg (by omega)]; done) | (rw [if_pos (by omega), show n + 54 = n - (-54) by omega]), rfl⟩ dX8_costOf_28
  · skip
    refine j_iload_n (pc := 9) C 2 0 rfl rfl dX8_costOf_9 ?_
    refine j_sipush (pc := 10) (w := 271) C rfl dX8_costOf_10 ?_
    refine j_icmp_lt (pc := 13) C 22 rfl (by omega) dX8_costOf_13 (fun h_2p13 => ?_) (fun h_2p13 => ?_)
    · skip
      refine j_aload_n (pc := 22) C 0 1 rfl rfl dX8_costOf_22 ?_
      refine j_get (pc := 23) C (Or.inr r0) rfl fX8_costOf_X8 0 (by decide) (List.mem_of_getElem? (i := 1) rfl) (Or.inl rfl) rfl dX8_costOf_23 ?_
      refine j_iload_n (pc := 26) C 2 0 rfl rfl dX8_costOf_26 ?_
      refine j_iald (pc := 27) C (Or.inr r1) rfl (by omega) (by decide) dX8_costOf_27 ?_
      exact Rt _ _ _ _ _ _ (by decide) (by decide) ⟨by unfold costI; first | (rw [if_neg (by omega)]; done) | (rw [if_pos (by omega), show n + 54 = n - (-54) by omega]), rfl⟩ dX8_costOf_28
    · skip
      refine j_sipush (pc := 16) (w := 1000) C rfl dX8_costOf_16 ?_
      refine j_goto (pc := 19) C 28 rfl dX8_costOf_19 ?_
      exact Rt _ _ _ _ _ _ (by decide) (by decide) ⟨by unfold costI; first | (rw [if_neg (by omega)]; done) | (rw [if_pos (by omega), show n + 54 = n - (-54) by omega]), rfl⟩ dX8_costOf_28

theorem fX8_offer_X8 : ∀ w ∈ u_ws RX8 TX8 2, w ∈ wsX8_offer := j_words [2, 3] (by decide +kernel)
set_option maxHeartbeats 4000000 in
set_option maxRecDepth 100000 in
theorem c_offer (l : Launch) (D : va_G) (Y : Nat → ClassId) (RO : va_W) (h : Nat) (x : Nat) (y : Nat) (g : Int → Int) (p : Int) (c : Int) (r0 : (h, oC 7 [.ref x, .ref y]) ∈ RO) (hp : -2147483648 ≤ p ∧ p ≤ 2147483647) (hc : -501 ≤ c ∧ c ≤ 1000) (hg : ∀ j, -501 ≤ g j ∧ g j ≤ 1000) : jMv l yX8_offer wsX8_offer { frames := 0, cells := 0, slots := 0, locals := 0 } D Y RO [.ref h, vI p, vI c] [(y, aI (Y 0) 271 g)] (fun w1 => w1 = [(y, aI (Y 0) 271 (offF p c g))]) := by
  refine j_ofv RX8 rfl rfl rfl (Nat.le_of_ble_eq_true rfl) (fun X C Rt hI => ?_)
  refine j_iload_n (pc := 0) C 1 1 rfl rfl dX8_offer_0 ?_
  refine j_if_lt (pc := 1) C 28 rfl (by omega) dX8_offer_1 (fun h_1p1 => ?_) (fun h_1p1 => ?_)
  · skip
    exact Rt _ _ _ _ _ (by decide) (by decide) (by unfold offF; first | (rw [if_pos (by omega)]; done) | (rw [if_neg (by omega)]; done)) dX8_offer_28
  · skip
    refine j_iload_n (pc := 4) C 1 1 rfl rfl dX8_offer_4 ?_
    refine j_sipush (pc := 5) (w := 271) C rfl dX8_offer_5 ?_
    refine j_icmp_ge (pc := 8) C 28 rfl (by omega) dX8_offer_8 (fun h_2p8 => ?_) (fun h_2p8 => ?_)
    · skip
      exact Rt _ _ _ _ _ (by decide) (by decide) (by unfold offF; first | (rw [if_pos (by omega)]; done) | (rw [if_neg (by omega)]; done)) dX8_offer_28
    · skip
      refine j_iload_n (pc := 11) C 2 2 rfl rfl dX8_offer_11 ?_
      refine j_aload_n (pc := 12) C 0 0 rfl rfl dX8_offer_12 ?_
      refine j_get (pc := 13) C (Or.inr r0) rfl fX8_offer_X8 1 (by decide) (List.mem_of_getElem? (i := 1) rfl) (Or.inl rfl) rfl dX8_offer_13 ?_
      refine j_iload_n (pc := 16) C 1 1 rfl rfl dX8_offer_16 ?_
      refine j_iald (pc := 17) C (Or.inl (List.mem_of_getElem? (i := 0) rfl)) rfl (by omega) (by decide) dX8_offer_17 ?_
      have f_3 := hg p
      refine j_icmp_ge (pc := 18) C 28 rfl (by omega) dX8_offer_18 (fun h_4p18 => ?_) (fun h_4p18 => ?_)
      · skip
        exact Rt _ _ _ _ _ (by decide) (by decide) (by unfold offF; first | (rw [if_pos (by omega)]; done) | (rw [if_neg (by omega)]; done)) dX8_offer_28
      · skip
        refine j_aload_n (pc := 21) C 0 0 rfl rfl dX8_offer_21 ?_
        refine j_get (pc := 22) C (Or.inr r0) rfl fX8_offer_X8 1 (by decide) (List.mem_of_getElem? (i := 1) rfl) (Or.inl rfl) rfl dX8_offer_22 ?_
        refine j_iload_n (pc := 25) C 1 1 rfl rfl dX8_offer_25 ?_
        refine j_iload_n (pc := 26) C 2 2 rfl rfl dX8_offer_26 ?_
        refine j_iast (pc := 27) (ws' := [(y, aI (Y 0) 271 (up g p c))]) C 0 rfl rfl (by omega) (by decide) rfl dX8_offer_27 ?_
        exact Rt _ _ _ _ _ (by decide) (by decide) (by unfold offF; first | (rw [if_pos (by omega)]; done) | (rw [if_neg (by omega)]; done)) dX8_offer_28
