theorem nz64 {b : Int} (h : b ≠ 0) (hr : -9223372036854775808 ≤ b ∧ b ≤ 9223372036854775807) : Int64.ofInt b ≠ 0 := by
  intro e
  have q := congrArg Int64.toInt e
  rw [Int64.toInt_ofInt_of_le (by omega) (by omega)] at q
  exact h q
theorem j_lremT {X : jX} {cc : ByteArray} {nL : Nat} {own : String} {Ts : List Cond} {rm : Room} {D : va_G} {Y : Nat → ClassId} {RO : va_W} {k n : Nat} {ws : va_W} {lc : List (Nat × Value)} {pc : Nat} {st : List Value} (C : jC X cc nL own Ts rm D Y RO) {a b : Int} (h : (-9223372036854775808 ≤ a ∧ a ≤ 9223372036854775807) ∧ b ≠ 0 ∧ (-9223372036854775808 ≤ b ∧ b ≤ 9223372036854775807)) (hd : decode cc pc = .ok (.lrem, 1)) (kk : jW X nL k n ws lc (pc + 1) (vL (a.tmod b) :: st)) : jW X nL k n ws lc pc (vL b :: vL a :: st) := by
  obtain ⟨p, l, e, R, s, m, args, below, meth, c, Q, D', Y', A, H0, RO'⟩ := X
  obtain ⟨⟨hx, hb, hml, hown, hts⟩, hK, hA, ⟨rfl, rfl, rfl, rfl⟩, hR, hRA, hN⟩ := C
  intro H locs ls hP hD hS hl
  have m1 : Int64.minValue.toInt = -9223372036854775808 := rfl
  have m2 : Int64.maxValue.toInt = 9223372036854775807 := rfl
  exact lv_lrem hx hb hd (nz64 h.2.1 h.2.2) (by rw [← Int64.ofInt_tdiv (by omega) (by omega) (by omega) (by omega), ← Int64.ofInt_mul, ← Int64.ofInt_sub, Int.mul_comm (a.tdiv b) b, ← Int.tmod_def]; exact (kk H locs ls hP hD hS hl))
theorem j_ldivT {X : jX} {cc : ByteArray} {nL : Nat} {own : String} {Ts : List Cond} {rm : Room} {D : va_G} {Y : Nat → ClassId} {RO : va_W} {k n : Nat} {ws : va_W} {lc : List (Nat × Value)} {pc : Nat} {st : List Value} (C : jC X cc nL own Ts rm D Y RO) {a b : Int} (h : (-9223372036854775808 ≤ a ∧ a ≤ 9223372036854775807) ∧ b ≠ 0 ∧ (-9223372036854775808 ≤ b ∧ b ≤ 9223372036854775807)) (hd : decode cc pc = .ok (.ldiv, 1)) (kk : jW X nL k n ws lc (pc + 1) (vL (a.tdiv b) :: st)) : jW X nL k n ws lc pc (vL b :: vL a :: st) := by
  obtain ⟨p, l, e, R, s, m, args, below, meth, c, Q, D', Y', A, H0, RO'⟩ := X
  obtain ⟨⟨hx, hb, hml, hown, hts⟩, hK, hA, ⟨rfl, rfl, rfl, rfl⟩, hR, hRA, hN⟩ := C
  intro H locs ls hP hD hS hl
  have m1 : Int64.minValue.toInt = -9223372036854775808 := rfl
  have m2 : Int64.maxValue.toInt = 9223372036854775807 := rfl
  exact lv_ldiv hx hb hd (nz64 h.2.1 h.2.2) (by rw [← Int64.ofInt_tdiv (by omega) (by omega) (by omega) (by omega)]; exact (kk H locs ls hP hD hS hl))
theorem eu_stepr {i x y : Int} (hi : 0 ≤ i ∧ i < 200) (hy : y ≠ 0) (h : rch (200 - i).toNat x y) : rch (200 - (i + 1)).toNat y (x.tmod y) := by
  rw [show (200 - i).toNat = (200 - (i + 1)).toNat + 1 by omega] at h
  rcases h with h | h
  · exact absurd h hy
  · exact h
theorem eu_stepe {i x y a : Int} (hi : 0 ≤ i ∧ i < 200) (hy : y ≠ 0) (h : a = euI (200 - i).toNat x y) : a = euI (200 - (i + 1)).toNat y (x.tmod y) := by
  rw [h, show (200 - i).toNat = (200 - (i + 1)).toNat + 1 by omega]
  show (if y = 0 then x else euI (200 - (i + 1)).toNat y (x.tmod y)) = _
  rw [if_neg hy]
set_option maxHeartbeats 4000000 in
set_option maxRecDepth 100000 in
theorem k_divisor (l : Launch) (D : va_G) (Y : Nat → ClassId) (RO : va_W) (a : Int) (b : Int)  (ha : -9223372036854775808 ≤ a ∧ a ≤ 9223372036854775807) (hb : -9223372036854775808 ≤ b ∧ b ≤ 9223372036854775807) : jMl l yX9_commonDivisor wsX9_commonDivisor { frames := 0, cells := 0, slots := 0, locals := 0 } D Y RO [vL a, vL b] [] (fun e w1 => e = (euI 200 a b) ∧ w1 = []) := by
  refine j_ofl RX9 rfl rfl rfl (Nat.le_of_ble_eq_true rfl) (fun X C Rt => ?_)
  refine j_lload_n (pc := 0) C 0 0 rfl rfl dX9_commonDivisor_0 ?_
  refine j_lstore (pc := 1) (lc' := [(4, vL a), (0, vL a), (2, vL b)]) C (by decide) rfl dX9_commonDivisor_1 ?_
  refine j_lload_n (pc := 3) C 2 2 rfl rfl dX9_commonDivisor_3 ?_
  refine j_lstore (pc := 4) (lc' := [(6, vL b), (4, vL a), (0, vL a), (2, vL b)]) C (by decide) rfl dX9_commonDivisor_4 ?_
  refine j_iconst (pc := 6) C dX9_commonDivisor_6 ?_
  refine j_istore (pc := 7) (lc' := [(8, vI 0), (6, vL b), (4, vL a), (0, vL a), (2, vL b)]) C (by decide) rfl dX9_commonDivisor_7 ?_
  have hL9 : ∀ (N9 : Nat) (x : Int) (y : Int) (i : Int), ((200 - i).toNat) < N9 → (0 ≤ i ∧ i ≤ 200) → ((-9223372036854775808 ≤ x ∧ x ≤ 9223372036854775807) ∧ (-9223372036854775808 ≤ y ∧ y ≤ 9223372036854775807)) → (rch (200 - i).toNat x y) → (euI 200 a b = euI (200 - i).toNat x y) → jW X 11 0 0 [] [(0, vL a), (2, vL b), (4, vL x), (6, vL y), (8, vI i)] 9 [] := by
    intro N9
    induction N9 with
    | zero => intro x y i hm9 i9_0 i9_1 i9_2 i9_3; omega
    | succ N9 ih9 =>
      intro x y i hm9 i9_0 i9_1 i9_2 i9_3
      refine j_iload (pc := 9) C 4 rfl dX9_commonDivisor_9 ?_
      refine j_sipush (pc := 11) (w := 200) C rfl dX9_commonDivisor_11 ?_
      refine j_icmp_ge (pc := 14) C 45 rfl (by omega) dX9_commonDivisor_14 (fun h_1p14 => ?_) (fun h_1p14 => ?_)
      · skip
        refine j_lload (pc := 45) C 2 rfl dX9_commonDivisor_45 ?_
        exact Rt _ _ _ _ _ _ (by decide) (by decide) ⟨by first | (rw [i9_3, show y = 0 by omega, eu_zero]; done) | (rw [i9_3, show i = 200 by omega]; rfl), rfl⟩ dX9_commonDivisor_47
      · skip
        refine j_lload (pc := 17) C 3 rfl dX9_commonDivisor_17 ?_
        refine j_lconst (pc := 19) (w := 0) C rfl dX9_commonDivisor_19 ?_
        refine j_lcmp (pc := 20) C (by omega) dX9_commonDivisor_20 ?_
        refine j_if_eq (pc := 21) C 45 rfl (by unfold cmpI; omega) dX9_commonDivisor_21 (fun h_2p21 => ?_) (fun h_2p21 => ?_)
        · skip
          unfold cmpI at h_2p21
          refine j_lload (pc := 45) C 2 rfl dX9_commonDivisor_45 ?_
          exact Rt _ _ _ _ _ _ (by decide) (by decide) ⟨by first | (rw [i9_3, show y = 0 by omega, eu_zero]; done) | (rw [i9_3, show i = 200 by omega]; rfl), rfl⟩ dX9_commonDivisor_47
        · skip
          unfold cmpI at h_2p21
          refine j_lload (pc := 24) C 2 rfl dX9_commonDivisor_24 ?_
          refine j_lload (pc := 26) C 3 rfl dX9_commonDivisor_26 ?_
          refine j_lremT (pc := 28) C ⟨i9_1.1, by omega, i9_1.2⟩ dX9_commonDivisor_28 ?_
          refine j_lstore (pc := 29) (lc' := [(9, vL (x.tmod y)), (0, vL a), (2, vL b), (4, vL x), (6, vL y), (8, vI i)]) C (by decide) rfl dX9_commonDivisor_29 ?_
          refine j_lload (pc := 31) C 4 rfl dX9_commonDivisor_31 ?_
          refine j_lstore (pc := 33) (lc' := [(4, vL y), (9, vL (x.tmod y)), (0, vL a), (2, vL b), (6, vL y), (8, vI i)]) C (by decide) rfl dX9_commonDivisor_33 ?_
          refine j_lload (pc := 35) C 1 rfl dX9_commonDivisor_35 ?_
          refine j_lstore (pc := 37) (lc' := [(6, vL (x.tmod y)), (4, vL y), (9, vL (x.tmod y)), (0, vL a), (2, vL b), (8, vI i)]) C (by decide) rfl dX9_commonDivisor_37 ?_
          refine j_iinc (pc := 39) (lc' := [(8, vI (i + 1)), (6, vL (x.tmod y)), (4, vL y), (9, vL (x.tmod y)), (0, vL a), (2, vL b)]) C 5 rfl (by decide) rfl dX9_commonDivisor_39 ?_
          refine j_goto (pc := 42) C 9 rfl dX9_commonDivisor_42 ?_
          refine j_locals (lc' := [(0, vL a), (2, vL b), (4, vL y), (6, vL (x.tmod y)), (8, vI (i + 1))]) [4, 5, 2, 1, 0] rfl ?_
          exact ih9 y (x.tmod y) (i + 1) (by omega) (by omega) ⟨i9_1.2, tmod_rng i9_1.1⟩ (eu_stepr (by omega) (by omega) i9_2) (eu_stepe (by omega) (by omega) i9_3)
  refine j_locals (lc' := [(0, vL a), (2, vL b), (4, vL a), (6, vL b), (8, vI 0)]) [3, 4, 2, 1, 0] rfl ?_
  exact hL9 _ a b 0 (Nat.lt_succ_self _) (by omega) ⟨ha, hb⟩ (rch_200 hb) rfl
