theorem nz64 {b : Int} (h : b ≠ 0) (hr : -9223372036854775808 ≤ b ∧ b ≤ 9223372036854775807) : Int64.ofInt b ≠ 0 := by
  intro e
  have q := congrArg Int64.toInt e
  rw [Int64.toInt_ofInt_of_le (by omega) (by omega)] at q
  exact h q
theorem j_lremT {X : jX} {cc : ByteArray} {nL : Nat} {own : String} {Ts : List Cond} {rm : Room} {D : va_G} {Y : Nat → ClassId} {RO : va_W} {k n : Nat} {ws : va_W} {lc : List (Nat × Value)} {pc : Nat} {st : List Value} (C : jC X cc nL own Ts rm D Y RO) {a b : Int} (h : (-9223372036854775808 ≤ a ∧ a ≤ 9223372036854775807) ∧ b ≠ 0 ∧ (-9223372036854775808 ≤ b ∧ b ≤ 9223372036854775807)) (hd : decode cc pc = .ok (.lrem, 1)) (kk : jW X nL k n ws lc (pc + 1) (vL (a.tmod b) :: st)) : jW X nL k n ws lc pc (vL b :: vL a :: st) := by
  obtain ⟨p, l, e, R, s, m, args, below, meth, c, Q, D', Y', A, H0, RO'⟩ := X
  obtain ⟨⟨hx, hb, hml, hown, hts⟩, hK, hA, ⟨rfl, rfl, rfl, rfl⟩, hR, hRA, hN⟩ := C
  intro H locs ls hP hD hS hl
  have m1 : Int64.minValue.toInt = -9223372036854775808 := rfl
  have m2 : Int64.maxValue.toInt = 9223372036854775807 := rfl
  exact lv_lrem hx hb hd (nz64 h.2.1 h.2.2) (by rw [← Int64.ofInt_tdiv (by omega) (by omega) (by omega) (by omega), ← Int64.ofInt_mul, ← Int64.ofInt_sub, Int.mul_comm (a.tdiv b) b, ← Int.tmod_def]; exact (kk H locs ls hP hD hS hl))
theorem j_ldivT {X : jX} {cc : ByteArray} {nL : Nat} {own : String} {Ts : List Cond} {rm : Room} {D : va_G} {Y : Nat → ClassId} {RO : va_W} {k n : Nat} {ws : va_W} {lc : List (Nat × Value)} {pc : Nat} {st : List Value} (C : jC X cc nL own Ts rm D Y RO) {a b : Int} (h : (-9223372036854775808 ≤ a ∧ a ≤ 9223372036854775807) ∧ b ≠ 0 ∧ (-9223372036854775808 ≤ b ∧ b ≤ 9223372036854775807)) (hd : decode cc pc = .ok (.ldiv, 1)) (kk : jW X nL k n ws lc (pc + 1) (vL (a.tdiv b) :: st)) : jW X nL k n ws lc pc (vL b :: vL a :: st) := by
  obtain ⟨p, l, e, R, s, m, args, below, meth, c, Q, D', Y', A, H0, RO'⟩ := X
  obtain ⟨⟨hx, hb, hml, hown, hts⟩, hK, hA, ⟨rfl, rfl, rfl, rfl⟩, hR, hRA, hN⟩ := C
  intro H locs ls hP hD hS hl
  have m1 : Int64.minValue.toInt = -9223372036854775808 := rfl
  have m2 : Int64.maxValue.toInt = 9223372036854775807 := rfl
  exact lv_ldiv hx hb hd (nz64 h.2.1 h.2.2) (by rw [← Int64.ofInt_tdiv (by omega) (by omega) (by omega) (by omega)]; exact (kk H locs ls hP hD hS hl))
