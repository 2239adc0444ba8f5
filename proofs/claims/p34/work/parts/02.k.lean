theorem va_P_cong {D : va_G} {ws : va_W} {H : Heap} {q1 a : Nat} {cA : ClassId} {x x' : vp_A} (he : vp_cell cA x = vp_cell cA x') (h : va_P D vwCl (ws.set q1 (a, .inl (cA, x))) H) : va_P D vwCl (ws.set q1 (a, .inl (cA, x'))) H := by
  intro k q hk
  by_cases e : q1 = k
  · subst e
    by_cases hl : q1 < ws.length
    · rw [List.getElem?_set_self hl] at hk
      cases hk
      have := h q1 (a, .inl (cA, x)) (List.getElem?_set_self hl)
      show H[a]? = some (vp_cell cA x')
      rw [← he]
      exact this
    · rw [List.getElem?_eq_none (by rw [List.length_set]; omega)] at hk
      cases hk
  · rw [List.getElem?_set_ne e] at hk
    exact h k q (by rw [List.getElem?_set_ne e]; exact hk)
theorem arrV_cong {cA : ClassId} {n : Nat} {f g : Nat → Value} (h : ∀ k, k < n → f k = g k) : arrV cA n f = arrV cA n g := by
  unfold arrV
  congr 1
  congr 1
  funext j
  exact h j.val j.isLt
theorem j_copy {X : jX} {cc : ByteArray} {nL : Nat} {own : String} {Ts : List Cond} {rm : Room} {D : va_G} {Y : Nat → ClassId} {RO : va_W} {k n : Nat} {ws ws' : va_W} {lc : List (Nat × Value)} {pc index : Nat} {st : List Value} (C : jC X cc nL own Ts rm D Y RO) (q0 q1 : Nat) {cA : ClassId} {m0 : Nat} {f g : Int → Int} {a0 a : Nat} (ha0 : ws[q0]? = some (a0, aI cA m0 f)) (ha1 : ws[q1]? = some (a, aI cA m0 g)) (hcA : cA = Y 0) (hm : m0 < 2147483648) {t : Int} (ht : t = (m0 : Int)) (hlink : Cond.methodLink own index arraycopyName ∈ Ts) (hnat : Cond.native arraycopyName ∈ Ts) (hstat : Cond.static arraycopyName ∈ Ts) (hini : Cond.initialized "java/lang/System" ∈ Ts) (hfr : 1 ≤ rm.frames) (hlo : (st.map fun v => v.category).sum + (nativeFrameWords "java/lang/System" "arraycopy" 5 + 11) ≤ rm.locals) (hw : ws.set q1 (a, aI cA m0 f) = ws') (hd : decode cc pc = .ok (.invokestatic index, 3)) (kk : jW X nL k n ws' lc (pc + 3) st) : jW X nL k n ws lc pc (vI t :: vI 0 :: .ref a :: vI 0 :: .ref a0 :: st) := by
  obtain ⟨p, l, e, R, s, m, args, below, meth, c, Q, D', Y', A, H0, RO'⟩ := X
  obtain ⟨⟨hx, hb, hml, hown, hts⟩, hK, hA, ⟨rfl, rfl, rfl, rfl⟩, hR, hRA, hN⟩ := C
  intro H locs ls hP hD hS hl
  subst hcA hw ht
  have e0 : (Int32.ofInt 0).toNatClampNeg = 0 := rfl
  have en : (Int32.ofInt (m0 : Int)).toNatClampNeg = m0 := by rw [nj_cl (by omega)]; omega
  have z0 : ¬ Int32.ofInt 0 < 0 := by decide
  have zn : ¬ Int32.ofInt (m0 : Int) < 0 := by rw [nj_z, nj_lt (by omega)]; omega
  refine va_copyi hx hb (by rw [hml]; exact hl.1.symm) hown (hts _ hlink) (hts _ hnat) (hts _ hstat) (hts _ hini) hK hP hD hS q0 q1 0 0 (c0 := Y' 0) (c1 := Y' 0) (n0 := m0) (n1 := m0) (f := fun k : Nat => Int32.ofInt (f (k : Int))) (g := fun k : Nat => Int32.ofInt (g (k : Int))) ha0 ha1 rfl rfl rfl z0 z0 zn (by rw [e0, en]; omega) (by rw [e0, en]; omega) (fun _ _ => rfl) hfr hlo hd (fun H1 locs1 hP1 hD1 hS1 => ?_)
  refine kk H1 locs1 ls (va_P_cong ?_ hP1) (hD.set ha1) hS1 hl
  rw [vp_cell_i, vp_cell_i]
  refine arrV_cong (fun k hk => ?_)
  unfold va_cpy
  rw [e0, en, if_pos (by omega)]
  simp
theorem j_mmin {X : jX} {cc : ByteArray} {nL : Nat} {own : String} {Ts : List Cond} {rm : Room} {D : va_G} {Y : Nat → ClassId} {RO : va_W} {k n : Nat} {ws : va_W} {lc : List (Nat × Value)} {pc index : Nat} {st : List Value} (C : jC X cc nL own Ts rm D Y RO) {a b : Int} (hr : (-2147483648 ≤ a ∧ a ≤ 2147483647) ∧ (-2147483648 ≤ b ∧ b ≤ 2147483647)) (hlink : Cond.methodLink own index Lib.Math.min.name ∈ Ts) (hstat : Cond.static Lib.Math.min.name ∈ Ts) (hini : Cond.initialized "java/lang/Math" ∈ Ts) (hcode : Cond.code Lib.Math.min.name Lib.Math.min.code 2 (some .int) ∈ Ts) (hfr : 1 ≤ rm.frames) (hlo : (st.map fun v => v.category).sum + 13 ≤ rm.locals) (hcl : k ≤ rm.cells ∧ n ≤ rm.slots) (hd : decode cc pc = .ok (.invokestatic index, 3)) (kk : jW X nL k n ws lc (pc + 3) (vI (if b < a then b else a) :: st)) : jW X nL k n ws lc pc (vI b :: vI a :: st) := by
  obtain ⟨p, l, e, R, s, m, args, below, meth, c, Q, D', Y', A, H0, RO'⟩ := X
  obtain ⟨⟨hx, hb, hml, hown, hts⟩, hK, hA, ⟨rfl, rfl, rfl, rfl⟩, hR, hRA, hN⟩ := C
  intro H locs ls hP hD hS hl
  refine va_mmin hx hb (by rw [hml]; exact hl.1.symm) hown (hts _ hlink) (hts _ hstat) (hts _ hini) (hts _ hcode) hfr hlo hcl.1 hcl.2 hd ?_
  have e1 : (if Int32.ofInt b < Int32.ofInt a then Int32.ofInt b else Int32.ofInt a) = Int32.ofInt (if b < a then b else a) := by
    by_cases q : b < a
    · rw [if_pos ((nj_lt hr.symm).mpr q), if_pos q]
    · rw [if_neg (fun h => q ((nj_lt hr.symm).mp h)), if_neg q]
  rw [e1]
  exact kk H locs ls hP hD hS hl
theorem j_mabs {X : jX} {cc : ByteArray} {nL : Nat} {own : String} {Ts : List Cond} {rm : Room} {D : va_G} {Y : Nat → ClassId} {RO : va_W} {k n : Nat} {ws : va_W} {lc : List (Nat × Value)} {pc index : Nat} {st : List Value} (C : jC X cc nL own Ts rm D Y RO) {a : Int} (hr : -2147483648 ≤ a ∧ a ≤ 2147483647) (hlink : Cond.methodLink own index Lib.Math.abs.name ∈ Ts) (hstat : Cond.static Lib.Math.abs.name ∈ Ts) (hini : Cond.initialized "java/lang/Math" ∈ Ts) (hcode : Cond.code Lib.Math.abs.name Lib.Math.abs.code 1 (some .int) ∈ Ts) (hfr : 1 ≤ rm.frames) (hlo : (st.map fun v => v.category).sum + 13 ≤ rm.locals) (hcl : k ≤ rm.cells ∧ n ≤ rm.slots) (hd : decode cc pc = .ok (.invokestatic index, 3)) (kk : jW X nL k n ws lc (pc + 3) (vI (if 0 ≤ a then a else -a) :: st)) : jW X nL k n ws lc pc (vI a :: st) := by
  obtain ⟨p, l, e, R, s, m, args, below, meth, c, Q, D', Y', A, H0, RO'⟩ := X
  obtain ⟨⟨hx, hb, hml, hown, hts⟩, hK, hA, ⟨rfl, rfl, rfl, rfl⟩, hR, hRA, hN⟩ := C
  intro H locs ls hP hD hS hl
  refine va_mabs hx hb (by rw [hml]; exact hl.1.symm) hown (hts _ hlink) (hts _ hstat) (hts _ hini) (hts _ hcode) hfr hlo hcl.1 hcl.2 hd ?_
  have e1 : (if 0 ≤ Int32.ofInt a then Int32.ofInt a else 0 - Int32.ofInt a) = Int32.ofInt (if 0 ≤ a then a else -a) := by
    have h0 : (0 : Int32) ≤ Int32.ofInt a ↔ 0 ≤ a := by rw [nj_z]; exact nj_le ⟨by decide, hr⟩
    by_cases q : 0 ≤ a
    · rw [if_pos (h0.mpr q), if_pos q]
    · rw [if_neg (fun h => q (h0.mp h)), if_neg q, nj_z, ← Int32.ofInt_sub]; congr 1; omega
  rw [e1]
  exact kk H locs ls hP hD hS hl
theorem j_putF {X : jX} {cc : ByteArray} {nL : Nat} {own : String} {Ts : List Cond} {rm : Room} {D : va_G} {Y : Nat → ClassId} {RO : va_W} {k n : Nat} {ws : va_W} {lc : List (Nat × Value)} {pc : Nat} {st : List Value} (C : jC X cc nL own Ts rm D Y RO) {ci index N : Nat} {Cn ref : String} {T : u_T} {ty0 : Nat → FieldType} {fs : List Value} {a : Nat} {v : Value} {ty : FieldType} {ws' : va_W} (q0 : Nat) (he : ws[q0]? = some (a, oC ci fs)) (hc : vwCl[ci]? = some (Cn, T, N)) (hin : ∀ w ∈ u_ws Cn T N, w ∈ Ts) (hty : ∀ k, k < N → parseFieldDescriptor (T k).2.2.1 = some (ty0 k)) (hnm : ∀ a, a < N → ∀ b, b < N → a ≠ b → (T a).2.1 ≠ (T b).2.1) (kf : Nat) (hk : kf < N) (hlink : Cond.fieldLink own index ref (T kf).2.1 (T kf).2.2.1 ∈ Ts) (hsame : (T kf).1 = ref ∨ Cond.sameField ref (T kf).1 (T kf).2.1 (T kf).2.2.1 ∈ Ts) (hfin : (T kf).2.2.2 = true) (hI : jI X) (hdecl : (T kf).1 = own) (hdd : ty0 kf = ty) (hn : narrow ty v = v) (hfit : fits ty v = true) (hl0 : kf < fs.length) (hw : ws.set q0 (a, oC ci (fs.set kf v)) = ws') (hd : decode cc pc = .ok (.putfield index, 3)) (kk : jW X nL k n ws' lc (pc + 3) st) : jW X nL k n ws lc pc (v :: .ref a :: st) := by
  obtain ⟨p, l, e, R, s, m, args, below, meth, c, Q, D', Y', A, H0, RO'⟩ := X
  obtain ⟨⟨hx, hb, hml, hown, hts⟩, hK, hA, ⟨rfl, rfl, rfl, rfl⟩, hR, hRA, hN⟩ := C
  intro H locs ls hP hD hS hl
  subst hw hdd
  exact va_putF hx hb hts hin ty0 hty hnm hown hK hP hD hS q0 he hc kf hk (hts _ hlink) (j_same hts hsame) hfin hI hdecl (hty kf hk) hn hfit hl0 hd (fun H1 locs1 hP hD hS => kk H1 locs1 ls hP hD hS hl)
theorem j_objInit {X : jX} {cc : ByteArray} {nL : Nat} {own : String} {Ts : List Cond} {rm : Room} {D : va_G} {Y : Nat → ClassId} {RO : va_W} {k n : Nat} {ws : va_W} {lc : List (Nat × Value)} {pc : Nat} {st : List Value} (C : jC X cc nL own Ts rm D Y RO) {idx a : Nat} (hlink : Cond.methodLink own idx objectInit ∈ Ts) (hinst : Cond.instanceMethod objectInit ∈ Ts) (hcode : Cond.code objectInit ⟨#[0xb1]⟩ 1 none ∈ Ts) (hfr : 1 ≤ rm.frames) (hlo : (st.map fun v => v.category).sum + 12 ≤ rm.locals) (hd : decode cc pc = .ok (.invokespecial idx, 3)) (kk : jW X nL k n ws lc (pc + 3) st) : jW X nL k n ws lc pc (.ref a :: st) := by
  obtain ⟨p, l, e, R, s, m, args, below, meth, c, Q, D', Y', A, H0, RO'⟩ := X
  obtain ⟨⟨hx, hb, hml, hown, hts⟩, hK, hA, ⟨rfl, rfl, rfl, rfl⟩, hR, hRA, hN⟩ := C
  intro H locs ls hP hD hS hl
  exact W.objInit hx hb hown (hts _ hlink) (hts _ hinst) (hts _ hcode) rfl (by rw [hml]; exact hl.1) rfl hd hfr (by show 2 * 0 + _ + 12 ≤ _; omega) (kk H locs ls hP hD hS hl)
theorem j_new {X : jX} {cc : ByteArray} {nL : Nat} {own : String} {Ts : List Cond} {rm : Room} {D : va_G} {Y : Nat → ClassId} {RO : va_W} {k n : Nat} {ws : va_W} {lc : List (Nat × Value)} {pc : Nat} {st : List Value} (C : jC X cc nL own Ts rm D Y RO) {ci index N : Nat} {Cn : String} {T : u_T} (fs : List Value) {ty0 : Nat → FieldType} (hc : vwCl[ci]? = some (Cn, T, N)) (hin : ∀ w ∈ u_ws Cn T N, w ∈ Ts) (hty : ∀ k, k < N → parseFieldDescriptor (T k).2.2.1 = some (ty0 k)) (hcl : Cond.classLink own index Cn ∈ Ts) (hinst : Cond.instantiable Cn N ∈ Ts) (hini : Cond.initialized Cn ∈ Ts) (hfs : ∀ j, j < N → defaultValue (ty0 j) = vp_V fs j) (hroom : k + 1 ≤ rm.cells ∧ n + N ≤ rm.slots) (hd : decode cc pc = .ok (.new index, 3)) (kk : ∀ q : Nat, jW X nL (k + 1) (n + N) (ws ++ [(q, oC ci fs)]) lc (pc + 3) (.ref q :: st)) : jW X nL k n ws lc pc st := by
  obtain ⟨p, l, e, R, s, m, args, below, meth, c, Q, D', Y', A, H0, RO'⟩ := X
  obtain ⟨⟨hx, hb, hml, hown, hts⟩, hK, hA, ⟨rfl, rfl, rfl, rfl⟩, hR, hRA, hN⟩ := C
  intro H locs ls hP hD hS hl
  exact va_new hx hb hts hin ty0 hty hown (hts _ hcl) (hts _ hinst) (hts _ hini) hK hP hD hS hA hc hfs hroom.1 hroom.2 hd (fun q H1 hP hD hS => kk q H1 locs ls hP hD hS hl)
theorem list_set_same {α : Type} {l : List α} {q0 : Nat} {x : α} (h : l[q0]? = some x) : l.set q0 x = l := by
  apply List.ext_getElem?
  intro i
  by_cases e : q0 = i
  · subst e
    have hl := (List.getElem?_eq_some_iff.mp h).1
    rw [List.getElem?_set_self hl, h]
  · rw [List.getElem?_set_ne e]
theorem j_ext {X : jX} {nL k n : Nat} {ws ws' : va_W} {lc : List (Nat × Value)} {pc : Nat} {st : List Value} {a m0 : Nat} {cA : ClassId} {g g' : Int → Int} (q0 : Nat) (he : ws[q0]? = some (a, aI cA m0 g)) (hg : ∀ i : Int, 0 ≤ i ∧ i < (m0 : Int) → g i = g' i) (hw : ws.set q0 (a, aI cA m0 g') = ws') (kk : jW X nL k n ws' lc pc st) : jW X nL k n ws lc pc st := by
  obtain ⟨p, l, e, R, s, m, args, below, meth, c, Q, D', Y', A, H0, RO'⟩ := X
  intro H locs ls hP hD hS hl
  subst hw
  refine kk H locs ls ?_ (hD.set he) hS hl
  have h1 : va_P D' vwCl (ws.set q0 (a, aI cA m0 g)) H := by rw [list_set_same he]; exact hP
  refine va_P_cong (x := (m0, .inl (fun k : Nat => Int32.ofInt (g (k : Int))))) ?_ h1
  rw [vp_cell_i, vp_cell_i]
  exact arrV_cong (fun k hk => by rw [hg (k : Int) (by omega)])
