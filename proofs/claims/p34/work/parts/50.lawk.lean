set_option maxHeartbeats 4000000 in
set_option maxRecDepth 100000 in
theorem law_K {s : State} {args : Array Value} (hts : ∀ w ∈ lw_tbl, w.before args s = true) : ∃ (D : va_G) (Y : Nat → ClassId), va_K D vwCl (jT Y) s := by
  obtain ⟨c0, i0, k0⟩ := u_known (C := RX0) (T := TX0) (N := 4) (n := 4) hts inX0 (hts (.instantiable RX0 4) (by decide +kernel))
  obtain ⟨c1, i1, k1⟩ := u_known (C := RX1) (T := TX1) (N := 3) (n := 3) hts inX1 (hts (.instantiable RX1 3) (by decide +kernel))
  obtain ⟨c2, i2, k2⟩ := u_known (C := RX2) (T := TX2) (N := 8) (n := 8) hts inX2 (hts (.instantiable RX2 8) (by decide +kernel))
  obtain ⟨c3, i3, k3⟩ := u_known (C := RX4) (T := TX4) (N := 2) (n := 2) hts inX4 (hts (.instantiable RX4 2) (by decide +kernel))
  obtain ⟨c4, i4, k4⟩ := u_known (C := RX5) (T := TX5) (N := 4) (n := 4) hts inX5 (hts (.instantiable RX5 4) (by decide +kernel))
  obtain ⟨c5, i5, k5⟩ := u_known (C := RX6) (T := TX6) (N := 4) (n := 4) hts inX6 (hts (.instantiable RX6 4) (by decide +kernel))
  obtain ⟨c6, i6, k6⟩ := u_known (C := RX7) (T := TX7) (N := 4) (n := 4) hts inX7 (hts (.instantiable RX7 4) (by decide +kernel))
  obtain ⟨c7, i7, k7⟩ := u_known (C := RX8) (T := TX8) (N := 2) (n := 2) hts inX8 (hts (.instantiable RX8 2) (by decide +kernel))
  obtain ⟨c8, i8, k8⟩ := u_known (C := RX9) (T := TX9) (N := 11) (n := 11) hts inX9 (hts (.instantiable RX9 11) (by decide +kernel))
  obtain ⟨a0, q0, t0, e0, f0, g0⟩ := Cond.arrayClass_spec (hts (.arrayClass .int) (by decide +kernel))
  obtain ⟨a1, q1, t1, e1, f1, g1⟩ := Cond.arrayClass_spec (hts (.arrayClass .long) (by decide +kernel))
  obtain ⟨t2, a2, q2, h2, _, f2, g2, e2⟩ := Cond.arrayOver_spec (hts (.arrayOver (.object RX1)) (by decide +kernel))
  obtain ⟨t3, a3, q3, h3, _, f3, g3, e3⟩ := Cond.arrayOver_spec (hts (.arrayOver (.object RX5)) (by decide +kernel))
  refine ⟨(fun c => [c0, c1, c2, c3, c4, c5, c6, c7, c8].getD c c0, fun c => [i0, i1, i2, i3, i4, i5, i6, i7, i8].getD c i0), fun j => [a0, a1, a2, a3].getD j a0, ?_, ?_⟩
  · intro c q hq
    match c, hq with
    | 0, hq => exact Option.some.inj hq ▸ k0
    | 1, hq => exact Option.some.inj hq ▸ k1
    | 2, hq => exact Option.some.inj hq ▸ k2
    | 3, hq => exact Option.some.inj hq ▸ k3
    | 4, hq => exact Option.some.inj hq ▸ k4
    | 5, hq => exact Option.some.inj hq ▸ k5
    | 6, hq => exact Option.some.inj hq ▸ k6
    | 7, hq => exact Option.some.inj hq ▸ k7
    | 8, hq => exact Option.some.inj hq ▸ k8
    | c + 9, hq => exact absurd hq (by simp [vwCl])
  · intro c q hq
    match c, hq with
    | 0, hq => exact Option.some.inj hq ▸ ⟨fun n z => ⟨fun k h => (by cases h), q0, f0, t0, g0⟩, e0⟩
    | 1, hq => exact Option.some.inj hq ▸ ⟨fun n z => ⟨fun k h => (by cases h), q1, f1, t1, g1⟩, e1⟩
    | 2, hq => exact Option.some.inj hq ▸ ⟨fun n z => ⟨fun k h => (by cases h), q2, f2, t2, g2⟩, q2, t2, f2, g2, h2, e2⟩
    | 3, hq => exact Option.some.inj hq ▸ ⟨fun n z => ⟨fun k h => (by cases h), q3, f3, t3, g3⟩, q3, t3, f3, g3, h3, e3⟩
    | c + 4, hq => exact absurd hq (by simp [jT])
set_option maxHeartbeats 4000000 in
set_option maxRecDepth 100000 in
theorem law_N {s : State} {args : Array Value} (hts : ∀ w ∈ lw_tbl, w.before args s = true) : jN s :=
  ⟨⟨va_Nw.of rfl (hts (.methodLinkNest RX2 43 yX9_isCairn "KneelingStones") (by decide +kernel)), va_Nw.of rfl (hts (.methodLinkNest RX9 11 yX4_init "KneelingStones") (by decide +kernel)), va_Nw.of rfl (hts (.methodLinkNest RX9 30 yX2_init "KneelingStones") (by decide +kernel)), va_Nw.of rfl (hts (.methodLinkNest RX9 47 yX8_init "KneelingStones") (by decide +kernel))⟩, ⟨va_AO.of (hts (.arrayOver (.object RX1)) (by decide +kernel)), va_AO.of (hts (.arrayOver (.object RX5)) (by decide +kernel))⟩, ⟨trivial, va_Nw.of rfl (hts (.castable RX6 RX5) (by decide +kernel)), va_Nw.of rfl (hts (.castable RX7 RX5) (by decide +kernel)), va_Nw.of rfl (hts (.castable RX0 RX5) (by decide +kernel))⟩, trivial⟩
