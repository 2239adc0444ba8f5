theorem eu_ne (k : Nat) : ∀ {a b : Int}, rch k a b → a ≠ 0 ∨ b ≠ 0 → euI k a b ≠ 0 := by
  induction k with
  | zero => intro a b h q; change b = 0 at h; show a ≠ 0; omega
  | succ k ih =>
    intro a b h q
    show (if b = 0 then a else euI k b (a.tmod b)) ≠ 0
    by_cases e : b = 0
    · rw [if_pos e]; omega
    · rw [if_neg e]
      rcases h with h | h
      · exact absurd h e
      · exact ih h (Or.inl e)
theorem eu_rng (k : Nat) : ∀ {a b : Int}, (-9223372036854775808 ≤ a ∧ a ≤ 9223372036854775807) → (-9223372036854775808 ≤ b ∧ b ≤ 9223372036854775807) → -9223372036854775808 ≤ euI k a b ∧ euI k a b ≤ 9223372036854775807 := by
  induction k with
  | zero => intro a b h q; exact h
  | succ k ih =>
    intro a b h q
    show -9223372036854775808 ≤ (if b = 0 then a else euI k b (a.tmod b)) ∧ (if b = 0 then a else euI k b (a.tmod b)) ≤ 9223372036854775807
    by_cases e : b = 0
    · rw [if_pos e]; exact h
    · rw [if_neg e]; exact ih q (tmod_rng h)
set_option maxHeartbeats 4000000 in
set_option maxRecDepth 100000 in
theorem k_inLowest (l : Launch) (D : va_G) (Y : Nat → ClassId) (RO : va_W) (a : Int) (b : Int) (pt : Int)  (ha : -9223372036854775808 ≤ a ∧ a ≤ 9223372036854775807) (hb : -9223372036854775808 ≤ b ∧ b ≤ 9223372036854775807) (hab : a ≠ 0 ∨ b ≠ 0) (hpt : 0 ≤ pt ∧ pt ≤ 1) : jMl l yX9_inLowest wsX9_inLowest { frames := 1, cells := 0, slots := 0, locals := 30 } D Y RO [vL a, vL b, vI pt] [] (fun e w1 => e = (lowI a b pt) ∧ w1 = []) := by
  refine j_ofl RX9 rfl rfl rfl (Nat.le_of_ble_eq_true rfl) (fun X C Rt => ?_)
  have hg0 := eu_ne 200 (rch_200 (a := a) hb) hab
  have hgr := eu_rng 200 ha hb
  refine j_lload_n (pc := 0) C 0 0 rfl rfl dX9_inLowest_0 ?_
  refine j_lload_n (pc := 1) C 2 1 rfl rfl dX9_inLowest_1 ?_
  refine j_callSl (pc := 2) (As := [vL a, vL b]) (na := 2) (st := []) C [] [] (wr := []) (fun l => k_divisor l D Y _ a b (by first | assumption | omega) (by first | assumption | omega)) rfl rfl rfl rfl (by decide) rfl gX9_inLowest_X9_commonDivisor (by decide +kernel) (by decide) rfl rfl (Nat.le_of_ble_eq_true rfl) (by decide) dX9_inLowest_2 (fun e_1 w_2 h_3 => ?_)
  obtain ⟨rfl, rfl⟩ := h_3
  refine j_perm (ws' := []) [] rfl rfl ?_
  refine j_lstore (pc := 5) (lc' := [(5, vL (euI 200 a b)), (0, vL a), (2, vL b), (4, vI pt)]) C (by decide) rfl dX9_inLowest_5 ?_
  refine j_lload (pc := 7) C 0 rfl dX9_inLowest_7 ?_
  refine j_lconst (pc := 9) (w := 0) C rfl dX9_inLowest_9 ?_
  refine j_lcmp (pc := 10) C (by omega) dX9_inLowest_10 ?_
  refine j_if_ne (pc := 11) C 18 rfl (by unfold cmpI; omega) dX9_inLowest_11 (fun h_4p11 => ?_) (fun h_4p11 => ?_)
  · skip
    unfold cmpI at h_4p11
    refine j_iload (pc := 18) C 3 rfl dX9_inLowest_18 ?_
    refine j_if_ne (pc := 20) C 30 rfl (by omega) dX9_inLowest_20 (fun h_5p20 => ?_) (fun h_5p20 => ?_)
    · skip
      refine j_lload_n (pc := 30) C 2 2 rfl rfl dX9_inLowest_30 ?_
      refine j_lload (pc := 31) C 0 rfl dX9_inLowest_31 ?_
      refine j_ldivT (pc := 33) C ⟨hb, hg0, hgr⟩ dX9_inLowest_33 ?_
      exact Rt _ _ _ _ _ _ (by decide) (by decide) ⟨by unfold lowI; first | (rw [if_pos (by omega)]; done) | (rw [if_neg (by omega)]; done), rfl⟩ dX9_inLowest_34
    · skip
      refine j_lload_n (pc := 23) C 0 1 rfl rfl dX9_inLowest_23 ?_
      refine j_lload (pc := 24) C 0 rfl dX9_inLowest_24 ?_
      refine j_ldivT (pc := 26) C ⟨ha, hg0, hgr⟩ dX9_inLowest_26 ?_
      refine j_goto (pc := 27) C 34 rfl dX9_inLowest_27 ?_
      exact Rt _ _ _ _ _ _ (by decide) (by decide) ⟨by unfold lowI; first | (rw [if_pos (by omega)]; done) | (rw [if_neg (by omega)]; done), rfl⟩ dX9_inLowest_34
  · skip
    unfold cmpI at h_4p11
    exfalso; omega
