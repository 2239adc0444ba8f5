theorem eu_stepx {e x y : Int} (hy : y ≠ 0) (h : ∃ j : Nat, e = euI j x y ∧ rch j x y) : ∃ j : Nat, e = euI j y (x.tmod y) ∧ rch j y (x.tmod y) := by
  obtain ⟨j, h1, h2⟩ := h
  cases j with
  | zero => exact absurd h2 hy
  | succ j =>
    refine ⟨j, ?_, ?_⟩
    · rw [h1]
      show (if y = 0 then x else euI j y (x.tmod y)) = _
      rw [if_neg hy]
    · rcases h2 with q | q
      · exact absurd q hy
      · exact q
theorem eu_endx {e x y : Int} (hy : y = 0) (h : ∃ j : Nat, e = euI j x y ∧ rch j x y) : e = x := by
  obtain ⟨j, h1, h2⟩ := h
  rw [h1, hy, eu_zero]
set_option maxHeartbeats 4000000 in
set_option maxRecDepth 100000 in
theorem m_lowest (l : Launch) (D : va_G) (Y : Nat → ClassId) (RO : va_W) (a : Int) (b : Int) (pt : Int)  (ha : -9223372036854775808 ≤ a ∧ a ≤ 9223372036854775807) (hb : -9223372036854775808 ≤ b ∧ b ≤ 9223372036854775807) (hab : a ≠ 0 ∨ b ≠ 0) (hpt : 0 ≤ pt ∧ pt ≤ 1) : jMl l yX10_lowest wsX10_lowest { frames := 0, cells := 0, slots := 0, locals := 0 } D Y RO [vL a, vL b, vI pt] [] (fun e w1 => e = (lowI a b pt) ∧ w1 = []) := by
  refine j_ofl RX10 rfl rfl rfl (Nat.le_of_ble_eq_true rfl) (fun X C Rt => ?_)
  have hg0 := eu_ne 200 (rch_200 (a := a) hb) hab
  have hgr := eu_rng 200 ha hb
  refine j_lload_n (pc := 0) C 0 0 rfl rfl dX10_lowest_0 ?_
  refine j_lstore (pc := 1) (lc' := [(5, vL a), (0, vL a), (2, vL b), (4, vI pt)]) C (by decide) rfl dX10_lowest_1 ?_
  refine j_lload_n (pc := 3) C 2 2 rfl rfl dX10_lowest_3 ?_
  refine j_lstore (pc := 4) (lc' := [(7, vL b), (5, vL a), (0, vL a), (2, vL b), (4, vI pt)]) C (by decide) rfl dX10_lowest_4 ?_
  have hL6 : ∀ (N6 : Nat) (x : Int) (y : Int), (y.natAbs) < N6 → ((-9223372036854775808 ≤ x ∧ x ≤ 9223372036854775807) ∧ (-9223372036854775808 ≤ y ∧ y ≤ 9223372036854775807)) → (∃ j : Nat, euI 200 a b = euI j x y ∧ rch j x y) → jW X 11 0 0 [] [(0, vL a), (2, vL b), (4, vI pt), (5, vL x), (7, vL y)] 6 [] := by
    intro N6
    induction N6 with
    | zero => intro x y hm6 i6_0 i6_1; omega
    | succ N6 ih6 =>
      intro x y hm6 i6_0 i6_1
      refine j_lload (pc := 6) C 4 rfl dX10_lowest_6 ?_
      refine j_lconst (pc := 8) (w := 0) C rfl dX10_lowest_8 ?_
      refine j_lcmp (pc := 9) C (by omega) dX10_lowest_9 ?_
      refine j_if_eq (pc := 10) C 31 rfl (by unfold cmpI; omega) dX10_lowest_10 (fun h_1p10 => ?_) (fun h_1p10 => ?_)
      · skip
        unfold cmpI at h_1p10
        have hx : euI 200 a b = x := eu_endx (by omega) i6_1
        refine j_iload (pc := 31) C 2 rfl dX10_lowest_31 ?_
        refine j_if_ne (pc := 33) C 43 rfl (by omega) dX10_lowest_33 (fun h_2p33 => ?_) (fun h_2p33 => ?_)
        · skip
          refine j_lload_n (pc := 43) C 2 1 rfl rfl dX10_lowest_43 ?_
          refine j_lload (pc := 44) C 3 rfl dX10_lowest_44 ?_
          refine j_ldivT (pc := 46) C ⟨hb, by omega, i6_0.1⟩ dX10_lowest_46 ?_
          exact Rt _ _ _ _ _ _ (by decide) (by decide) ⟨by unfold lowI; rw [hx]; first | (rw [if_pos (by omega)]; done) | (rw [if_neg (by omega)]; done), rfl⟩ dX10_lowest_47
        · skip
          refine j_lload_n (pc := 36) C 0 0 rfl rfl dX10_lowest_36 ?_
          refine j_lload (pc := 37) C 3 rfl dX10_lowest_37 ?_
          refine j_ldivT (pc := 39) C ⟨ha, by omega, i6_0.1⟩ dX10_lowest_39 ?_
          refine j_goto (pc := 40) C 47 rfl dX10_lowest_40 ?_
          exact Rt _ _ _ _ _ _ (by decide) (by decide) ⟨by unfold lowI; rw [hx]; first | (rw [if_pos (by omega)]; done) | (rw [if_neg (by omega)]; done), rfl⟩ dX10_lowest_47
      · skip
        unfold cmpI at h_1p10
        refine j_lload (pc := 13) C 3 rfl dX10_lowest_13 ?_
        refine j_lload (pc := 15) C 4 rfl dX10_lowest_15 ?_
        have hlt := tmod_lt (a := x) (b := y) (by omega)
        refine j_lremT (pc := 17) C ⟨i6_0.1, by omega, i6_0.2⟩ dX10_lowest_17 ?_
        refine j_lstore (pc := 18) (lc' := [(9, vL (x.tmod y)), (0, vL a), (2, vL b), (4, vI pt), (5, vL x), (7, vL y)]) C (by decide) rfl dX10_lowest_18 ?_
        refine j_lload (pc := 20) C 5 rfl dX10_lowest_20 ?_
        refine j_lstore (pc := 22) (lc' := [(5, vL y), (9, vL (x.tmod y)), (0, vL a), (2, vL b), (4, vI pt), (7, vL y)]) C (by decide) rfl dX10_lowest_22 ?_
        refine j_lload (pc := 24) C 1 rfl dX10_lowest_24 ?_
        refine j_lstore (pc := 26) (lc' := [(7, vL (x.tmod y)), (5, vL y), (9, vL (x.tmod y)), (0, vL a), (2, vL b), (4, vI pt)]) C (by decide) rfl dX10_lowest_26 ?_
        refine j_goto (pc := 28) C 6 rfl dX10_lowest_28 ?_
        refine j_locals (lc' := [(0, vL a), (2, vL b), (4, vI pt), (5, vL y), (7, vL (x.tmod y))]) [3, 4, 5, 1, 0] rfl ?_
        exact ih6 y (x.tmod y) (by omega) ⟨i6_0.2, tmod_rng i6_0.1⟩ (eu_stepx (by omega) i6_1)
  refine j_locals (lc' := [(0, vL a), (2, vL b), (4, vI pt), (5, vL a), (7, vL b)]) [2, 3, 4, 1, 0] rfl ?_
  exact hL6 _ a b (Nat.lt_succ_self _) ⟨ha, hb⟩ ⟨200, rfl, rch_200 hb⟩
