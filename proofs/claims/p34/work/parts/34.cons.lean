/-! rows for making arrays; the constructors -/
section NEWS
variable {X : jX} {cc : ByteArray} {nL : Nat} {own : String} {Ts : List Cond} {rm : Room} {D : va_G} {Y : Nat → ClassId} {RO : va_W} {k n : Nat} {ws : va_W} {lc : List (Nat × Value)} {pc : Nat} {st : List Value}
theorem j_newI (C : jC X cc nL own Ts rm D Y RO) {m0 : Nat} {e : Int} (he : e = (m0 : Int)) (hm : m0 ≤ 1000) (harr : Cond.arrayClass .int ∈ Ts) (hroom : k + 1 ≤ rm.cells ∧ n + m0 ≤ rm.slots) (hd : decode cc pc = .ok (.newarray .int, 2)) (kk : ∀ q : Nat, jW X nL (k + 1) (n + m0) (ws ++ [(q, aI (Y 0) m0 (fun _ => 0))]) lc (pc + 2) (.ref q :: st)) : jW X nL k n ws lc pc (vI e :: st) := by
  obtain ⟨p, l, ev, R, s, m, args, below, meth, c, Q, D', Y', A, H0, RO'⟩ := X
  obtain ⟨⟨hx, hb, hml, hown, hts⟩, hK, hA, ⟨rfl, rfl, rfl, rfl⟩, hR, hRA, hN⟩ := C
  intro H locs ls hP hD hS hl
  subst he
  refine va_newa (atype := .int) (ty := .int) (N' := m0) (a0 := (m0, .inl (fun _ => 0))) hx hb (hts _ harr) rfl hK hP hD hS hA (fun cA => rfl) ?_ ?_ ?_ hroom.1 hroom.2 hd (fun q cA H1 hK1 hP1 hD1 hS1 => ?_)
  · rw [nj_z, nj_lt (by omega)]; omega
  · rw [nj_cl (by omega)]; omega
  · show m0 * 4 ≤ 536870912
    omega
  · have e := Option.some.inj ((va_nm_int (hK1.2 4 _ rfl).2).symm.trans (va_nm_int (hK.2 0 _ rfl).2))
    subst e
    exact kk q H1 locs ls hP1 hD1 hS1 hl
theorem va_nm_obj {s : State} {a b : ClassId} {T : String} (h : va_RA s a (.object T)) (g : va_RA s b (.object T)) : a = b := by
  obtain ⟨_, _, _, _, _, h4⟩ := h
  obtain ⟨_, _, _, _, _, g4⟩ := g
  exact Option.some.inj (h4.symm.trans g4)
theorem j_newC (C : jC X cc nL own Ts rm D Y RO) {m0 index : Nat} {e : Int} (he : e = (m0 : Int)) (hm : m0 ≤ 1000) (hlk : Cond.classLink own index RX1 ∈ Ts) (hroom : k + 1 ≤ rm.cells ∧ n + m0 ≤ rm.slots) (hd : decode cc pc = .ok (.anewarray index, 3)) (kk : ∀ q : Nat, jW X nL (k + 1) (n + m0) (ws ++ [(q, aQ (Y 2) m0 (fun _ => none))]) lc (pc + 3) (.ref q :: st)) : jW X nL k n ws lc pc (vI e :: st) := by
  obtain ⟨p, l, ev, R, s, m, args, below, meth, c, Q, D', Y', A, H0, RO'⟩ := X
  obtain ⟨⟨hx, hb, hml, hown, hts⟩, hK, hA, ⟨rfl, rfl, rfl, rfl⟩, hR, hRA, hN⟩ := C
  intro H locs ls hP hD hS hl
  subst he
  refine va_newq (N' := m0) hx hb hown (hts _ hlk) hN.2.1.1 hK hP hD hS hA ?_ ?_ ?_ hroom.1 hroom.2 hd (fun q cA H1 hK1 hP1 hD1 hS1 => ?_)
  · rw [nj_z, nj_lt (by omega)]; omega
  · rw [nj_cl (by omega)]; omega
  · omega
  · have e := va_nm_obj (hK1.2 4 _ rfl).2 (hK.2 2 _ rfl).2
    subst e
    exact kk q H1 locs ls hP1 hD1 hS1 hl
theorem j_newP (C : jC X cc nL own Ts rm D Y RO) {m0 index : Nat} {e : Int} (he : e = (m0 : Int)) (hm : m0 ≤ 1000) (hlk : Cond.classLink own index RX5 ∈ Ts) (hroom : k + 1 ≤ rm.cells ∧ n + m0 ≤ rm.slots) (hd : decode cc pc = .ok (.anewarray index, 3)) (kk : ∀ q : Nat, jW X nL (k + 1) (n + m0) (ws ++ [(q, aQ (Y 3) m0 (fun _ => none))]) lc (pc + 3) (.ref q :: st)) : jW X nL k n ws lc pc (vI e :: st) := by
  obtain ⟨p, l, ev, R, s, m, args, below, meth, c, Q, D', Y', A, H0, RO'⟩ := X
  obtain ⟨⟨hx, hb, hml, hown, hts⟩, hK, hA, ⟨rfl, rfl, rfl, rfl⟩, hR, hRA, hN⟩ := C
  intro H locs ls hP hD hS hl
  subst he
  refine va_newq (N' := m0) hx hb hown (hts _ hlk) hN.2.1.2 hK hP hD hS hA ?_ ?_ ?_ hroom.1 hroom.2 hd (fun q cA H1 hK1 hP1 hD1 hS1 => ?_)
  · rw [nj_z, nj_lt (by omega)]; omega
  · rw [nj_cl (by omega)]; omega
  · omega
  · have e := va_nm_obj (hK1.2 4 _ rfl).2 (hK.2 3 _ rfl).2
    subst e
    exact kk q H1 locs ls hP1 hD1 hS1 hl
end NEWS
def MS0 : MS := (fun _ => 0, fun _ => 0, 0, 0, 1, 0, 0, 0)
def PS0 : Int → PT := fun _ => (0, 0, 0, 0, 0)
def CS0 : Int → CT := fun _ => (0, 0, 0)
theorem okS_0 : okS MS0 := ⟨fun i _ => (by decide : (0 : Int) ≤ 0 ∧ (0 : Int) ≤ 60), fun j => (by decide : (0 : Int) ≤ 0 ∧ (0 : Int) ≤ 0), (by decide : (0 : Int) ≤ 0 ∧ (0 : Int) < 7), (by decide : (0 : Int) ≤ 1 ∧ (1 : Int) ≤ 2147483647)⟩
theorem orow_0 {ad : Int → Nat} : orow 0 ad = fun _ => none := by
  funext i
  exact orow_out (by omega)
theorem fX2_init_X2 : ∀ w ∈ u_ws RX2 TX2 8, w ∈ wsX2_init := j_words [8, 9, 10, 11, 12, 13, 14, 15] (by decide +kernel)
set_option maxHeartbeats 4000000 in
set_option maxRecDepth 100000 in
theorem c_minit (l : Launch) (D : va_G) (Y : Nat → ClassId) (RO : va_W) (a : Nat)   : jMv l yX2_init wsX2_init { frames := 1, cells := 2, slots := 427, locals := 12 } D Y RO [.ref a] [(a, oC 2 [.null, .null, vI 0, vI 0, vI 0, vI 0, vI 0, vI 0])] (fun w1 => ∃ (q1 q2 : Nat), w1 = [(a, oC 2 [.ref q1, .ref q2, vI (ms_w MS0), vI (ms_l MS0), vI (ms_s MS0), vI (ms_a MS0), vI (ms_t MS0), vI (ms_p MS0)]), (q1, aI (Y 0) 7 (ms_h MS0)), (q2, aI (Y 0) 420 (ms_m MS0))]) := by
  refine j_ofv RX2 rfl rfl rfl (Nat.le_of_ble_eq_true rfl) (fun X C Rt hI => ?_)
  refine j_aload_n (pc := 0) C 0 0 rfl rfl dX2_init_0 ?_
  refine j_objInit (pc := 1) (st := []) C (List.mem_of_getElem? (i := 1) rfl) (List.mem_of_getElem? (i := 2) rfl) (List.mem_of_getElem? (i := 3) rfl) (by decide) (Nat.le_of_ble_eq_true rfl) dX2_init_1 ?_
  refine j_aload_n (pc := 4) C 0 0 rfl rfl dX2_init_4 ?_
  refine j_bipush (pc := 5) (w := 7) C rfl dX2_init_5 ?_
  refine j_newI (pc := 7) (m0 := 7) C (by rfl) (by decide) (List.mem_of_getElem? (i := 4) rfl) (by decide) dX2_init_7 (fun q_1 => ?_)
  refine j_st (ws' := [(a, oC 2 [.null, .null, vI 0, vI 0, vI 0, vI 0, vI 0, vI 0]), (q_1, aI (Y 0) 7 (fun _ => 0))]) rfl rfl rfl ?_
  refine j_putF (pc := 9) (ws' := [(a, oC 2 [.ref q_1, .null, vI 0, vI 0, vI 0, vI 0, vI 0, vI 0]), (q_1, aI (Y 0) 7 (fun _ => 0))]) C 0 rfl rfl fX2_init_X2 tyX2_ok nmX2 0 (by decide) (List.mem_of_getElem? (i := 5) rfl) (Or.inl rfl) rfl (hI rfl) rfl rfl rfl rfl (Nat.le_of_ble_eq_true rfl) rfl dX2_init_9 ?_
  refine j_aload_n (pc := 12) C 0 0 rfl rfl dX2_init_12 ?_
  refine j_sipush (pc := 13) (w := 420) C rfl dX2_init_13 ?_
  refine j_newI (pc := 16) (m0 := 420) C (by rfl) (by decide) (List.mem_of_getElem? (i := 4) rfl) (by decide) dX2_init_16 (fun q_2 => ?_)
  refine j_st (ws' := [(a, oC 2 [.ref q_1, .null, vI 0, vI 0, vI 0, vI 0, vI 0, vI 0]), (q_1, aI (Y 0) 7 (fun _ => 0)), (q_2, aI (Y 0) 420 (fun _ => 0))]) rfl rfl rfl ?_
  refine j_putF (pc := 18) (ws' := [(a, oC 2 [.ref q_1, .ref q_2, vI 0, vI 0, vI 0, vI 0, vI 0, vI 0]), (q_1, aI (Y 0) 7 (fun _ => 0)), (q_2, aI (Y 0) 420 (fun _ => 0))]) C 0 rfl rfl fX2_init_X2 tyX2_ok nmX2 1 (by decide) (List.mem_of_getElem? (i := 6) rfl) (Or.inl rfl) rfl (hI rfl) rfl rfl rfl rfl (Nat.le_of_ble_eq_true rfl) rfl dX2_init_18 ?_
  refine j_aload_n (pc := 21) C 0 0 rfl rfl dX2_init_21 ?_
  refine j_iconst (pc := 22) C dX2_init_22 ?_
  refine j_put (pc := 23) (ws' := [(a, oC 2 [.ref q_1, .ref q_2, vI 0, vI 0, vI 1, vI 0, vI 0, vI 0]), (q_1, aI (Y 0) 7 (fun _ => 0)), (q_2, aI (Y 0) 420 (fun _ => 0))]) C 0 rfl rfl fX2_init_X2 tyX2_ok nmX2 4 (by decide) (List.mem_of_getElem? (i := 7) rfl) (Or.inl rfl) rfl rfl rfl rfl (Nat.le_of_ble_eq_true rfl) rfl dX2_init_23 ?_
  exact Rt _ _ _ _ _ (by decide) (by decide) ⟨_, _, rfl⟩ dX2_init_26

theorem fX4_init_X4 : ∀ w ∈ u_ws RX4 TX4 2, w ∈ wsX4_init := j_words [6, 7] (by decide +kernel)
set_option maxHeartbeats 4000000 in
set_option maxRecDepth 100000 in
theorem c_pginit (l : Launch) (D : va_G) (Y : Nat → ClassId) (RO : va_W) (a : Nat)   : jMv l yX4_init wsX4_init { frames := 1, cells := 1, slots := 16, locals := 12 } D Y RO [.ref a] [(a, oC 3 [.null, vI 0])] (fun w1 => ∃ (q1 : Nat), w1 = [(a, oC 3 [.ref q1, vI 0]), (q1, aI (Y 0) 16 (fun _ => 0))]) := by
  refine j_ofv RX4 rfl rfl rfl (Nat.le_of_ble_eq_true rfl) (fun X C Rt hI => ?_)
  refine j_aload_n (pc := 0) C 0 0 rfl rfl dX4_init_0 ?_
  refine j_objInit (pc := 1) (st := []) C (List.mem_of_getElem? (i := 1) rfl) (List.mem_of_getElem? (i := 2) rfl) (List.mem_of_getElem? (i := 3) rfl) (by decide) (Nat.le_of_ble_eq_true rfl) dX4_init_1 ?_
  refine j_aload_n (pc := 4) C 0 0 rfl rfl dX4_init_4 ?_
  refine j_bipush (pc := 5) (w := 16) C rfl dX4_init_5 ?_
  refine j_newI (pc := 7) (m0 := 16) C (by rfl) (by decide) (List.mem_of_getElem? (i := 4) rfl) (by decide) dX4_init_7 (fun q_1 => ?_)
  refine j_st (ws' := [(a, oC 3 [.null, vI 0]), (q_1, aI (Y 0) 16 (fun _ => 0))]) rfl rfl rfl ?_
  refine j_putF (pc := 9) (ws' := [(a, oC 3 [.ref q_1, vI 0]), (q_1, aI (Y 0) 16 (fun _ => 0))]) C 0 rfl rfl fX4_init_X4 tyX4_ok nmX4 0 (by decide) (List.mem_of_getElem? (i := 5) rfl) (Or.inl rfl) rfl (hI rfl) rfl rfl rfl rfl (Nat.le_of_ble_eq_true rfl) rfl dX4_init_9 ?_
  exact Rt _ _ _ _ _ (by decide) (by decide) ⟨_, rfl⟩ dX4_init_12

theorem fX8_init_X8 : ∀ w ∈ u_ws RX8 TX8 2, w ∈ wsX8_init := j_words [7, 8] (by decide +kernel)
set_option maxHeartbeats 4000000 in
set_option maxRecDepth 100000 in
theorem c_winit (l : Launch) (D : va_G) (Y : Nat → ClassId) (RO : va_W) (a : Nat)   : jMv l yX8_init wsX8_init { frames := 1, cells := 2, slots := 542, locals := 12 } D Y RO [.ref a] [(a, oC 7 [.null, .null])] (fun w1 => ∃ (q1 q2 : Nat), w1 = [(a, oC 7 [.ref q1, .ref q2]), (q1, aI (Y 0) 271 (fun _ => 0)), (q2, aI (Y 0) 271 (fun _ => 0))]) := by
  refine j_ofv RX8 rfl rfl rfl (Nat.le_of_ble_eq_true rfl) (fun X C Rt hI => ?_)
  refine j_aload_n (pc := 0) C 0 0 rfl rfl dX8_init_0 ?_
  refine j_objInit (pc := 1) (st := []) C (List.mem_of_getElem? (i := 1) rfl) (List.mem_of_getElem? (i := 2) rfl) (List.mem_of_getElem? (i := 3) rfl) (by decide) (Nat.le_of_ble_eq_true rfl) dX8_init_1 ?_
  refine j_aload_n (pc := 4) C 0 0 rfl rfl dX8_init_4 ?_
  refine j_sipush (pc := 5) (w := 271) C rfl dX8_init_5 ?_
  refine j_newI (pc := 8) (m0 := 271) C (by rfl) (by decide) (List.mem_of_getElem? (i := 4) rfl) (by decide) dX8_init_8 (fun q_1 => ?_)
  refine j_st (ws' := [(a, oC 7 [.null, .null]), (q_1, aI (Y 0) 271 (fun _ => 0))]) rfl rfl rfl ?_
  refine j_put (pc := 10) (ws' := [(a, oC 7 [.ref q_1, .null]), (q_1, aI (Y 0) 271 (fun _ => 0))]) C 0 rfl rfl fX8_init_X8 tyX8_ok nmX8 0 (by decide) (List.mem_of_getElem? (i := 5) rfl) (Or.inl rfl) rfl rfl rfl rfl (Nat.le_of_ble_eq_true rfl) rfl dX8_init_10 ?_
  refine j_aload_n (pc := 13) C 0 0 rfl rfl dX8_init_13 ?_
  refine j_sipush (pc := 14) (w := 271) C rfl dX8_init_14 ?_
  refine j_newI (pc := 17) (m0 := 271) C (by rfl) (by decide) (List.mem_of_getElem? (i := 4) rfl) (by decide) dX8_init_17 (fun q_2 => ?_)
  refine j_st (ws' := [(a, oC 7 [.ref q_1, .null]), (q_1, aI (Y 0) 271 (fun _ => 0)), (q_2, aI (Y 0) 271 (fun _ => 0))]) rfl rfl rfl ?_
  refine j_put (pc := 19) (ws' := [(a, oC 7 [.ref q_1, .ref q_2]), (q_1, aI (Y 0) 271 (fun _ => 0)), (q_2, aI (Y 0) 271 (fun _ => 0))]) C 0 rfl rfl fX8_init_X8 tyX8_ok nmX8 1 (by decide) (List.mem_of_getElem? (i := 6) rfl) (Or.inl rfl) rfl rfl rfl rfl (Nat.le_of_ble_eq_true rfl) rfl dX8_init_19 ?_
  exact Rt _ _ _ _ _ (by decide) (by decide) ⟨_, _, rfl⟩ dX8_init_22
