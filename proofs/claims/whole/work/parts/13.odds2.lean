set_option maxHeartbeats 4000000 in
set_option maxRecDepth 100000 in
theorem c_choices (l : Launch) (D : va_G) (Y : Nat → ClassId) (RO : va_W) (n : Int) (m : Int)  (hn : 0 ≤ n ∧ n ≤ 9) (hm : 0 ≤ m ∧ m ≤ n) : jMl l yX3_choices wsX3_choices { frames := 0, cells := 0, slots := 0, locals := 0 } D Y RO [vI n, vI m] [] (fun e w1 => e = (choI n m) ∧ w1 = []) := by
  refine j_ofl RX3 rfl rfl rfl (Nat.le_of_ble_eq_true rfl) (fun X C Rt => ?_)
  refine j_lconst (pc := 0) (w := 1) C rfl dX3_choices_0 ?_
  refine j_lstore_n (pc := 1) (lc' := [(2, vL 1), (0, vI n), (1, vI m)]) C 2 rfl (by decide) rfl dX3_choices_1 ?_
  refine j_iconst (pc := 2) C dX3_choices_2 ?_
  refine j_istore (pc := 3) (lc' := [(4, vI 1), (2, vL 1), (0, vI n), (1, vI m)]) C (by decide) rfl dX3_choices_3 ?_
  have hL5 : ∀ (N5 : Nat) (d : Int) (i : Int), ((m + 1 - i).toNat) < N5 → (1 ≤ i ∧ i ≤ m + 1) → (d = choI n (i - 1)) → jW X 5 0 0 [] [(0, vI n), (1, vI m), (2, vL d), (4, vI i)] 5 [] := by
    intro N5
    induction N5 with
    | zero => intro d i hm5 i5_0 i5_1; omega
    | succ N5 ih5 =>
      intro d i hm5 i5_0 i5_1
      refine j_iload (pc := 5) C 3 rfl dX3_choices_5 ?_
      refine j_iload_n (pc := 7) C 1 1 rfl rfl dX3_choices_7 ?_
      refine j_icmp_gt (pc := 8) C 31 rfl (by omega) dX3_choices_8 (fun h_1p8 => ?_) (fun h_1p8 => ?_)
      · skip
        refine j_lload_n (pc := 31) C 2 2 rfl rfl dX3_choices_31 ?_
        exact Rt _ _ _ _ _ _ (by decide) (by decide) ⟨by rw [i5_1, show i - 1 = m by omega], rfl⟩ dX3_choices_32
      · skip
        refine j_lload_n (pc := 11) C 2 2 rfl rfl dX3_choices_11 ?_
        refine j_iload_n (pc := 12) C 0 0 rfl rfl dX3_choices_12 ?_
        refine j_iconst (pc := 13) C dX3_choices_13 ?_
        refine j_iadd (pc := 14) C dX3_choices_14 ?_
        refine j_iload (pc := 15) C 3 rfl dX3_choices_15 ?_
        refine j_isub (pc := 17) C dX3_choices_17 ?_
        refine j_i2l (pc := 18) C (by omega) dX3_choices_18 ?_
        refine j_lmul (pc := 19) C dX3_choices_19 ?_
        refine j_iload (pc := 20) C 3 rfl dX3_choices_20 ?_
        refine j_i2l (pc := 22) C (by omega) dX3_choices_22 ?_
        refine j_ldiv (pc := 23) C (by have hq := cho_rng (n := n) (i := i - 1) (by omega) (by omega) (by omega); rw [← i5_1, show n - (i - 1) = n + 1 - i by omega, show i - 1 + 1 = i by omega] at hq; exact hq) dX3_choices_23 ?_
        refine j_lstore_n (pc := 24) (lc' := [(2, vL ((d * ((n + 1) - i)) / i)), (0, vI n), (1, vI m), (4, vI i)]) C 2 rfl (by decide) rfl dX3_choices_24 ?_
        refine j_iinc (pc := 25) (lc' := [(4, vI (i + 1)), (2, vL ((d * ((n + 1) - i)) / i)), (0, vI n), (1, vI m)]) C 3 rfl (by decide) rfl dX3_choices_25 ?_
        refine j_goto (pc := 28) C 5 rfl dX3_choices_28 ?_
        refine j_locals (lc' := [(0, vI n), (1, vI m), (2, vL ((d * ((n + 1) - i)) / i)), (4, vI (i + 1))]) [2, 3, 1, 0] rfl ?_
        exact ih5 ((d * ((n + 1) - i)) / i) (i + 1) (by omega) (by omega) (by rw [show i + 1 - 1 = (i - 1) + 1 by omega, choI_succ (by omega), ← i5_1, show n - (i - 1) = n + 1 - i by omega, show i - 1 + 1 = i by omega])
  refine j_locals (lc' := [(0, vI n), (1, vI m), (2, vL 1), (4, vI 1)]) [2, 3, 1, 0] rfl ?_
  exact hL5 _ 1 1 (Nat.lt_succ_self _) (by omega) rfl

set_option maxHeartbeats 4000000 in
set_option maxRecDepth 100000 in
theorem c_power (l : Launch) (D : va_G) (Y : Nat → ClassId) (RO : va_W) (b : Int) (n : Int)  (hb : -2147483648 ≤ b ∧ b ≤ 2147483647) (hn : 0 ≤ n ∧ n ≤ 9) : jMl l yX3_power wsX3_power { frames := 0, cells := 0, slots := 0, locals := 0 } D Y RO [vI b, vI n] [] (fun e w1 => e = (powI b n) ∧ w1 = []) := by
  refine j_ofl RX3 rfl rfl rfl (Nat.le_of_ble_eq_true rfl) (fun X C Rt => ?_)
  refine j_lconst (pc := 0) (w := 1) C rfl dX3_power_0 ?_
  refine j_lstore_n (pc := 1) (lc' := [(2, vL 1), (0, vI b), (1, vI n)]) C 2 rfl (by decide) rfl dX3_power_1 ?_
  refine j_iconst (pc := 2) C dX3_power_2 ?_
  refine j_istore (pc := 3) (lc' := [(4, vI 0), (2, vL 1), (0, vI b), (1, vI n)]) C (by decide) rfl dX3_power_3 ?_
  have hL5 : ∀ (N5 : Nat) (d : Int) (i : Int), ((n - i).toNat) < N5 → (0 ≤ i ∧ i ≤ n) → (d = powI b i) → jW X 5 0 0 [] [(0, vI b), (1, vI n), (2, vL d), (4, vI i)] 5 [] := by
    intro N5
    induction N5 with
    | zero => intro d i hm5 i5_0 i5_1; omega
    | succ N5 ih5 =>
      intro d i hm5 i5_0 i5_1
      refine j_iload (pc := 5) C 3 rfl dX3_power_5 ?_
      refine j_iload_n (pc := 7) C 1 1 rfl rfl dX3_power_7 ?_
      refine j_icmp_ge (pc := 8) C 22 rfl (by omega) dX3_power_8 (fun h_1p8 => ?_) (fun h_1p8 => ?_)
      · skip
        refine j_lload_n (pc := 22) C 2 2 rfl rfl dX3_power_22 ?_
        exact Rt _ _ _ _ _ _ (by decide) (by decide) ⟨by rw [i5_1, show i = n by omega], rfl⟩ dX3_power_23
      · skip
        refine j_lload_n (pc := 11) C 2 2 rfl rfl dX3_power_11 ?_
        refine j_iload_n (pc := 12) C 0 0 rfl rfl dX3_power_12 ?_
        refine j_i2l (pc := 13) C (by omega) dX3_power_13 ?_
        refine j_lmul (pc := 14) C dX3_power_14 ?_
        refine j_lstore_n (pc := 15) (lc' := [(2, vL (d * b)), (0, vI b), (1, vI n), (4, vI i)]) C 2 rfl (by decide) rfl dX3_power_15 ?_
        refine j_iinc (pc := 16) (lc' := [(4, vI (i + 1)), (2, vL (d * b)), (0, vI b), (1, vI n)]) C 3 rfl (by decide) rfl dX3_power_16 ?_
        refine j_goto (pc := 19) C 5 rfl dX3_power_19 ?_
        refine j_locals (lc' := [(0, vI b), (1, vI n), (2, vL (d * b)), (4, vI (i + 1))]) [2, 3, 1, 0] rfl ?_
        exact ih5 (d * b) (i + 1) (by omega) (by omega) (by rw [powI_succ (by omega), ← i5_1])
  refine j_locals (lc' := [(0, vI b), (1, vI n), (2, vL 1), (4, vI 0)]) [2, 3, 1, 0] rfl ?_
  exact hL5 _ 1 0 (Nat.lt_succ_self _) (by omega) rfl

set_option maxHeartbeats 4000000 in
set_option maxRecDepth 100000 in
theorem m_choose (l : Launch) (D : va_G) (Y : Nat → ClassId) (RO : va_W) (n : Int) (m : Int)  (hn : 0 ≤ n ∧ n ≤ 9) (hm : 0 ≤ m ∧ m ≤ n) : jMl l yX10_choose wsX10_choose { frames := 0, cells := 0, slots := 0, locals := 0 } D Y RO [vI n, vI m] [] (fun e w1 => e = (choI n m) ∧ w1 = []) := by
  refine j_ofl RX10 rfl rfl rfl (Nat.le_of_ble_eq_true rfl) (fun X C Rt => ?_)
  refine j_lconst (pc := 0) (w := 1) C rfl dX10_choose_0 ?_
  refine j_lstore_n (pc := 1) (lc' := [(2, vL 1), (0, vI n), (1, vI m)]) C 2 rfl (by decide) rfl dX10_choose_1 ?_
  refine j_iconst (pc := 2) C dX10_choose_2 ?_
  refine j_istore (pc := 3) (lc' := [(4, vI 0), (2, vL 1), (0, vI n), (1, vI m)]) C (by decide) rfl dX10_choose_3 ?_
  have hL5 : ∀ (N5 : Nat) (d : Int) (i : Int), ((m - i).toNat) < N5 → (0 ≤ i ∧ i ≤ m) → (d = choI n i) → jW X 5 0 0 [] [(0, vI n), (1, vI m), (2, vL d), (4, vI i)] 5 [] := by
    intro N5
    induction N5 with
    | zero => intro d i hm5 i5_0 i5_1; omega
    | succ N5 ih5 =>
      intro d i hm5 i5_0 i5_1
      refine j_iload (pc := 5) C 3 rfl dX10_choose_5 ?_
      refine j_iload_n (pc := 7) C 1 1 rfl rfl dX10_choose_7 ?_
      refine j_icmp_ge (pc := 8) C 31 rfl (by omega) dX10_choose_8 (fun h_1p8 => ?_) (fun h_1p8 => ?_)
      · skip
        refine j_lload_n (pc := 31) C 2 2 rfl rfl dX10_choose_31 ?_
        exact Rt _ _ _ _ _ _ (by decide) (by decide) ⟨by rw [i5_1, show i = m by omega], rfl⟩ dX10_choose_32
      · skip
        refine j_lload_n (pc := 11) C 2 2 rfl rfl dX10_choose_11 ?_
        refine j_iload_n (pc := 12) C 0 0 rfl rfl dX10_choose_12 ?_
        refine j_iload (pc := 13) C 3 rfl dX10_choose_13 ?_
        refine j_isub (pc := 15) C dX10_choose_15 ?_
        refine j_i2l (pc := 16) C (by omega) dX10_choose_16 ?_
        refine j_lmul (pc := 17) C dX10_choose_17 ?_
        refine j_iload (pc := 18) C 3 rfl dX10_choose_18 ?_
        refine j_iconst (pc := 20) C dX10_choose_20 ?_
        refine j_iadd (pc := 21) C dX10_choose_21 ?_
        refine j_i2l (pc := 22) C (by omega) dX10_choose_22 ?_
        refine j_ldiv (pc := 23) C (by have hq := cho_rng (n := n) (i := i) (by omega) (by omega) (by omega); rw [← i5_1] at hq; exact hq) dX10_choose_23 ?_
        refine j_lstore_n (pc := 24) (lc' := [(2, vL ((d * (n - i)) / (i + 1))), (0, vI n), (1, vI m), (4, vI i)]) C 2 rfl (by decide) rfl dX10_choose_24 ?_
        refine j_iinc (pc := 25) (lc' := [(4, vI (i + 1)), (2, vL ((d * (n - i)) / (i + 1))), (0, vI n), (1, vI m)]) C 3 rfl (by decide) rfl dX10_choose_25 ?_
        refine j_goto (pc := 28) C 5 rfl dX10_choose_28 ?_
        refine j_locals (lc' := [(0, vI n), (1, vI m), (2, vL ((d * (n - i)) / (i + 1))), (4, vI (i + 1))]) [2, 3, 1, 0] rfl ?_
        exact ih5 ((d * (n - i)) / (i + 1)) (i + 1) (by omega) (by omega) (by rw [choI_succ (by omega), ← i5_1])
  refine j_locals (lc' := [(0, vI n), (1, vI m), (2, vL 1), (4, vI 0)]) [2, 3, 1, 0] rfl ?_
  exact hL5 _ 1 0 (Nat.lt_succ_self _) (by omega) rfl

set_option maxHeartbeats 4000000 in
set_option maxRecDepth 100000 in
theorem m_power (l : Launch) (D : va_G) (Y : Nat → ClassId) (RO : va_W) (b : Int) (n : Int)  (hn : 0 ≤ n ∧ n ≤ 9) : jMl l yX10_power wsX10_power { frames := 0, cells := 0, slots := 0, locals := 0 } D Y RO [vL b, vI n] [] (fun e w1 => e = (powI b n) ∧ w1 = []) := by
  refine j_ofl RX10 rfl rfl rfl (Nat.le_of_ble_eq_true rfl) (fun X C Rt => ?_)
  refine j_lconst (pc := 0) (w := 1) C rfl dX10_power_0 ?_
  refine j_lstore_n (pc := 1) (lc' := [(3, vL 1), (0, vL b), (2, vI n)]) C 3 rfl (by decide) rfl dX10_power_1 ?_
  refine j_iconst (pc := 2) C dX10_power_2 ?_
  refine j_istore (pc := 3) (lc' := [(5, vI 0), (3, vL 1), (0, vL b), (2, vI n)]) C (by decide) rfl dX10_power_3 ?_
  have hL5 : ∀ (N5 : Nat) (d : Int) (i : Int), ((n - i).toNat) < N5 → (0 ≤ i ∧ i ≤ n) → (d = powI b i) → jW X 6 0 0 [] [(0, vL b), (2, vI n), (3, vL d), (5, vI i)] 5 [] := by
    intro N5
    induction N5 with
    | zero => intro d i hm5 i5_0 i5_1; omega
    | succ N5 ih5 =>
      intro d i hm5 i5_0 i5_1
      refine j_iload (pc := 5) C 3 rfl dX10_power_5 ?_
      refine j_iload_n (pc := 7) C 2 1 rfl rfl dX10_power_7 ?_
      refine j_icmp_ge (pc := 8) C 21 rfl (by omega) dX10_power_8 (fun h_1p8 => ?_) (fun h_1p8 => ?_)
      · skip
        refine j_lload_n (pc := 21) C 3 2 rfl rfl dX10_power_21 ?_
        exact Rt _ _ _ _ _ _ (by decide) (by decide) ⟨by rw [i5_1, show i = n by omega], rfl⟩ dX10_power_22
      · skip
        refine j_lload_n (pc := 11) C 3 2 rfl rfl dX10_power_11 ?_
        refine j_lload_n (pc := 12) C 0 0 rfl rfl dX10_power_12 ?_
        refine j_lmul (pc := 13) C dX10_power_13 ?_
        refine j_lstore_n (pc := 14) (lc' := [(3, vL (d * b)), (0, vL b), (2, vI n), (5, vI i)]) C 3 rfl (by decide) rfl dX10_power_14 ?_
        refine j_iinc (pc := 15) (lc' := [(5, vI (i + 1)), (3, vL (d * b)), (0, vL b), (2, vI n)]) C 3 rfl (by decide) rfl dX10_power_15 ?_
        refine j_goto (pc := 18) C 5 rfl dX10_power_18 ?_
        refine j_locals (lc' := [(0, vL b), (2, vI n), (3, vL (d * b)), (5, vI (i + 1))]) [2, 3, 1, 0] rfl ?_
        exact ih5 (d * b) (i + 1) (by omega) (by omega) (by rw [powI_succ (by omega), ← i5_1])
  refine j_locals (lc' := [(0, vL b), (2, vI n), (3, vL 1), (5, vI 0)]) [2, 3, 1, 0] rfl ?_
  exact hL5 _ 1 0 (Nat.lt_succ_self _) (by omega) rfl

set_option maxHeartbeats 4000000 in
set_option maxRecDepth 100000 in
theorem k_isNetOfOne (l : Launch) (D : va_G) (Y : Nat → ClassId) (RO : va_W) (n : Int)  (hn : -2147483648 ≤ n ∧ n ≤ 2147483647) : jMi l yX9_isNetOfOne wsX9_isNetOfOne { frames := 0, cells := 0, slots := 0, locals := 0 } D Y RO [vI n] [] (fun e w1 => e = (if -9 ≤ n ∧ n ≤ 36 then 1 else 0) ∧ w1 = []) := by
  refine j_ofz RX9 rfl rfl rfl (Nat.le_of_ble_eq_true rfl) (fun X C Rt => ?_)
  refine j_iload_n (pc := 0) C 0 0 rfl rfl dX9_isNetOfOne_0 ?_
  refine j_bipush (pc := 1) (w := (-9)) C rfl dX9_isNetOfOne_1 ?_
  refine j_icmp_lt (pc := 3) C 16 rfl (by omega) dX9_isNetOfOne_3 (fun h_1p3 => ?_) (fun h_1p3 => ?_)
  · skip
    refine j_iconst (pc := 16) C dX9_isNetOfOne_16 ?_
    exact Rt _ _ _ _ _ _ (by decide) (by decide) (by decide) ⟨by split <;> omega, rfl⟩ dX9_isNetOfOne_17
  · skip
    refine j_iload_n (pc := 6) C 0 0 rfl rfl dX9_isNetOfOne_6 ?_
    refine j_bipush (pc := 7) (w := 36) C rfl dX9_isNetOfOne_7 ?_
    refine j_icmp_gt (pc := 9) C 16 rfl (by omega) dX9_isNetOfOne_9 (fun h_2p9 => ?_) (fun h_2p9 => ?_)
    · skip
      refine j_iconst (pc := 16) C dX9_isNetOfOne_16 ?_
      exact Rt _ _ _ _ _ _ (by decide) (by decide) (by decide) ⟨by split <;> omega, rfl⟩ dX9_isNetOfOne_17
    · skip
      refine j_iconst (pc := 12) C dX9_isNetOfOne_12 ?_
      refine j_goto (pc := 13) C 17 rfl dX9_isNetOfOne_13 ?_
      exact Rt _ _ _ _ _ _ (by decide) (by decide) (by decide) ⟨by split <;> omega, rfl⟩ dX9_isNetOfOne_17

set_option maxHeartbeats 4000000 in
set_option maxRecDepth 100000 in
theorem m_isNet (l : Launch) (D : va_G) (Y : Nat → ClassId) (RO : va_W) (n : Int) (s : Int)  (hn : -2147483648 ≤ n ∧ n ≤ 2147483647) (hs : -2147483648 ≤ s ∧ s ≤ 2147483647) : jMi l yX10_isNet wsX10_isNet { frames := 1, cells := 0, slots := 0, locals := 22 } D Y RO [vI n, vI s] [] (fun e w1 => e = (if (-9 ≤ n ∧ n ≤ 36) ∧ (0 ≤ s ∧ s ≤ 1) then 1 else 0) ∧ w1 = []) := by
  refine j_ofz RX10 rfl rfl rfl (Nat.le_of_ble_eq_true rfl) (fun X C Rt => ?_)
  refine j_iload_n (pc := 0) C 0 0 rfl rfl dX10_isNet_0 ?_
  refine j_bipush (pc := 1) (w := (-9)) C rfl dX10_isNet_1 ?_
  refine j_bipush (pc := 3) (w := 36) C rfl dX10_isNet_3 ?_
  refine j_callSi (pc := 5) (As := [vI n, vI (-9), vI 36]) (na := 3) (st := []) C [] [] (wr := []) (fun l => m_within l D Y _ n (-9) 36 (by first | assumption | omega) (by first | assumption | omega) (by first | assumption | omega)) rfl rfl rfl rfl (by decide) rfl gX10_isNet_X10_within (by decide +kernel) (by decide) rfl rfl (Nat.le_of_ble_eq_true rfl) (by decide) dX10_isNet_5 (fun e_1 w_2 h_3 => ?_)
  obtain ⟨rfl, rfl⟩ := h_3
  refine j_perm (ws' := []) [] rfl rfl ?_
  refine j_if_eqb (pc := 8) C 24 rfl dX10_isNet_8 (fun h_4p8 => ?_) (fun h_4p8 => ?_)
  · skip
    refine j_iconst (pc := 24) C dX10_isNet_24 ?_
    exact Rt _ _ _ _ _ _ (by decide) (by decide) (by decide) ⟨by (repeat' split) <;> first | rfl | omega | (exfalso; omega), rfl⟩ dX10_isNet_25
  · skip
    refine j_iload_n (pc := 11) C 1 1 rfl rfl dX10_isNet_11 ?_
    refine j_iconst (pc := 12) C dX10_isNet_12 ?_
    refine j_iconst (pc := 13) C dX10_isNet_13 ?_
    refine j_callSi (pc := 14) (As := [vI s, vI 0, vI 1]) (na := 3) (st := []) C [] [] (wr := []) (fun l => m_within l D Y _ s 0 1 (by first | assumption | omega) (by first | assumption | omega) (by first | assumption | omega)) rfl rfl rfl rfl (by decide) rfl gX10_isNet_X10_within (by decide +kernel) (by decide) rfl rfl (Nat.le_of_ble_eq_true rfl) (by decide) dX10_isNet_14 (fun e_5 w_6 h_7 => ?_)
    obtain ⟨rfl, rfl⟩ := h_7
    refine j_perm (ws' := []) [] rfl rfl ?_
    refine j_if_eqb (pc := 17) C 24 rfl dX10_isNet_17 (fun h_8p17 => ?_) (fun h_8p17 => ?_)
    · skip
      refine j_iconst (pc := 24) C dX10_isNet_24 ?_
      exact Rt _ _ _ _ _ _ (by decide) (by decide) (by decide) ⟨by (repeat' split) <;> first | rfl | omega | (exfalso; omega), rfl⟩ dX10_isNet_25
    · skip
      refine j_iconst (pc := 20) C dX10_isNet_20 ?_
      refine j_goto (pc := 21) C 25 rfl dX10_isNet_21 ?_
      exact Rt _ _ _ _ _ _ (by decide) (by decide) (by decide) ⟨by (repeat' split) <;> first | rfl | omega | (exfalso; omega), rfl⟩ dX10_isNet_25

theorem fX10_netOf_X10 : ∀ w ∈ u_ws RX10 TX10 35, w ∈ wsX10_netOf := j_words [8, 9, 10, 11, 12, 13, 14, 15, 16, 17, 18, 19, 20, 21, 22, 23, 24, 25, 26, 27, 28, 29, 30, 31, 32, 33, 34, 35, 36, 37, 38, 39, 40, 41, 42] (by decide +kernel)
set_option maxHeartbeats 4000000 in
set_option maxRecDepth 100000 in
theorem m_netOf (l : Launch) (D : va_G) (Y : Nat → ClassId) (RO : va_W) (h : Nat) (r : Nat → Nat) (S : MS) (G : GS) (ps : Int → PT) (p : Int) (w : Int) (s : Int) (r0 : (h, oC 9 [.ref (r 0), .ref (r 1), vI (ms_w S), vI (ms_l S), vL (ms_s S), vI (ms_a S), vI (ms_t S), vI (ms_p S), vI (g_np G), .ref (r 9), .ref (r 10), .ref (r 11), .ref (r 12), .ref (r 13), vI (g_nc G), .ref (r 15), .ref (r 16), .ref (r 17), vI (g_pl G), .ref (r 19), vI (g_ik G), vL (g_ks G), .ref (r 22), vL (g_ss G), .ref (r 24), vI (g_fa G), vI (g_iw G), vI (g_nw G), vI (g_ns G), vI (g_ne G), .ref (r 30), .ref (r 31), .ref (r 32), .ref (r 33), vL (g_h G)]) ∈ RO) (k0 : ((r 9), aI (Y 0) 6 (kof ps)) ∈ RO) (k1 : ((r 10), aI (Y 0) 6 (nof ps)) ∈ RO) (hp : 0 ≤ p ∧ p < 6) (hP : okP (ps p)) (hw : 0 ≤ w ∧ w ≤ 9) (hs : 0 ≤ s ∧ s ≤ 9) : jMi l yX10_netOf wsX10_netOf { frames := 1, cells := 0, slots := 0, locals := 21 } D Y RO [.ref h, vI p, vI w, vI s] [] (fun e w1 => e = (giftP (ps p) * w - lossP (ps p) * s) ∧ w1 = []) := by
  refine j_ofi RX10 rfl rfl rfl (Nat.le_of_ble_eq_true rfl) (fun X C Rt => ?_)
  have hPk := hP.1
  have hg := giftP_in hP
  refine j_aload_n (pc := 0) C 0 0 rfl rfl dX10_netOf_0 ?_
  refine j_iload_n (pc := 1) C 1 1 rfl rfl dX10_netOf_1 ?_
  refine j_callVi (pc := 2) (As := [vI p]) (na := 1) (st := []) C [] [] (wr := []) (fun l => m_gift l D Y _ h r S G ps p (List.mem_append_right _ r0) (List.mem_append_right _ k0) (List.mem_append_right _ k1) (by first | assumption | omega) (by first | assumption | omega)) rfl rfl rfl rfl (by decide) rfl (Or.inr (List.mem_append_right _ r0)) rfl gX10_netOf_X10_gift ⟨rfl, by decide +kernel⟩ (by decide) rfl rfl (Nat.le_of_ble_eq_true rfl) (by decide) dX10_netOf_2 (fun e_1 w_2 h_3 => ?_)
  obtain ⟨rfl, rfl⟩ := h_3
  refine j_perm (ws' := []) [] rfl rfl ?_
  refine j_iload_n (pc := 5) C 2 2 rfl rfl dX10_netOf_5 ?_
  refine j_imul (pc := 6) C dX10_netOf_6 ?_
  refine j_aload_n (pc := 7) C 0 0 rfl rfl dX10_netOf_7 ?_
  refine j_get (pc := 8) C (Or.inr r0) rfl fX10_netOf_X10 9 (by decide) (List.mem_of_getElem? (i := 1) rfl) (Or.inl rfl) rfl dX10_netOf_8 ?_
  refine j_iload_n (pc := 11) C 1 1 rfl rfl dX10_netOf_11 ?_
  refine j_iald (pc := 12) C (Or.inr k0) rfl (by omega) (by decide) dX10_netOf_12 ?_
  refine j_st (st' := [vI (pk (ps p)), vI (giftP (ps p) * w)]) rfl rfl rfl ?_
  refine j_iconst (pc := 13) C dX10_netOf_13 ?_
  refine j_icmp_eq (pc := 14) C 27 rfl (by omega) dX10_netOf_14 (fun h_4p14 => ?_) (fun h_4p14 => ?_)
  · skip
    refine j_iconst (pc := 27) C dX10_netOf_27 ?_
    refine j_goto (pc := 28) C 32 rfl dX10_netOf_28 ?_
    refine j_isub (pc := 32) C dX10_netOf_32 ?_
    exact Rt _ _ _ _ _ _ (by decide) (by decide) ⟨by unfold lossP; first | (rw [if_pos (by omega)]; omega) | (rw [if_neg (by omega)]; omega), rfl⟩ dX10_netOf_33
  · skip
    refine j_aload_n (pc := 17) C 0 0 rfl rfl dX10_netOf_17 ?_
    refine j_get (pc := 18) C (Or.inr r0) rfl fX10_netOf_X10 9 (by decide) (List.mem_of_getElem? (i := 1) rfl) (Or.inl rfl) rfl dX10_netOf_18 ?_
    refine j_iload_n (pc := 21) C 1 1 rfl rfl dX10_netOf_21 ?_
    refine j_iald (pc := 22) C (Or.inr k0) rfl (by omega) (by decide) dX10_netOf_22 ?_
    refine j_st (st' := [vI (pk (ps p)), vI (giftP (ps p) * w)]) rfl rfl rfl ?_
    refine j_iconst (pc := 23) C dX10_netOf_23 ?_
    refine j_icmp_ne (pc := 24) C 31 rfl (by omega) dX10_netOf_24 (fun h_5p24 => ?_) (fun h_5p24 => ?_)
    · skip
      refine j_iload_n (pc := 31) C 3 3 rfl rfl dX10_netOf_31 ?_
      refine j_isub (pc := 32) C dX10_netOf_32 ?_
      exact Rt _ _ _ _ _ _ (by decide) (by decide) ⟨by unfold lossP; first | (rw [if_pos (by omega)]; omega) | (rw [if_neg (by omega)]; omega), rfl⟩ dX10_netOf_33
    · skip
      refine j_iconst (pc := 27) C dX10_netOf_27 ?_
      refine j_goto (pc := 28) C 32 rfl dX10_netOf_28 ?_
      refine j_isub (pc := 32) C dX10_netOf_32 ?_
      exact Rt _ _ _ _ _ _ (by decide) (by decide) ⟨by unfold lossP; first | (rw [if_pos (by omega)]; omega) | (rw [if_neg (by omega)]; omega), rfl⟩ dX10_netOf_33
