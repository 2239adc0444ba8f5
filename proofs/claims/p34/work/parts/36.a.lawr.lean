/-! the law: worlds with a tail, the script, the loop's state -/
theorem va_nd_app {a b : List Nat} (ha : va_nd a = true) (hb : va_nd b = true) (h : ∀ i ∈ a, i ∉ b) : va_nd (a ++ b) = true := by
  induction a with
  | nil => exact hb
  | cons x l ih =>
    simp only [va_nd, Bool.and_eq_true, decide_eq_true_eq] at ha
    show va_nd (x :: (l ++ b)) = true
    simp only [va_nd, Bool.and_eq_true, decide_eq_true_eq]
    refine ⟨fun q => ?_, ih ha.2 (fun i hi => h i (List.mem_cons_of_mem _ hi))⟩
    rcases List.mem_append.mp q with q | q
    · exact ha.1 q
    · exact h x List.mem_cons_self q
theorem va_nd_range (n s : Nat) : va_nd (List.range' s n) = true := by
  induction n generalizing s with
  | zero => rfl
  | succ n ih =>
    show va_nd (s :: List.range' (s + 1) n) = true
    simp only [va_nd, Bool.and_eq_true, decide_eq_true_eq]
    exact ⟨fun q => by have := List.mem_range'_1.mp q; omega, ih (s + 1)⟩
theorem tl_map : ∀ (PL L : va_W), (List.range' L.length PL.length).map (fun i => (L ++ PL)[i]?) = PL.map some
  | [], L => rfl
  | x :: PL, L => by
    have h := tl_map PL (L ++ [x])
    rw [List.append_assoc, List.length_append] at h
    show (L ++ x :: PL)[L.length]? :: (List.range' (L.length + 1) PL.length).map (fun i => (L ++ x :: PL)[i]?) = some x :: PL.map some
    rw [show (L ++ x :: PL)[L.length]? = some x by simp]
    exact congrArg _ h
theorem ix_lt {L L' : va_W} {is : List Nat} (h : is.map (fun i => L[i]?) = L'.map some) : ∀ i ∈ is, i < L.length := by
  intro i hi
  have h1 : L[i]? ∈ is.map (fun i => L[i]?) := List.mem_map.mpr ⟨i, hi, rfl⟩
  rw [h] at h1
  obtain ⟨q, _, e⟩ := List.mem_map.mp h1
  exact (List.getElem?_eq_some_iff.mp e.symm).1
theorem hd_map {L L' : va_W} (PL : va_W) {is : List Nat} (h : is.map (fun i => L[i]?) = L'.map some) : is.map (fun i => (L ++ PL)[i]?) = L'.map some := by
  rw [← h]
  exact List.map_congr_left (fun i hi => List.getElem?_append_left (ix_lt h i hi))
theorem va_D_iff {A : Nat → Prop} {ws : va_W} : va_D A ws ↔ ws.Pairwise (fun p q => p.1 ≠ q.1) ∧ ∀ q ∈ ws, A q.1 := by
  constructor
  · intro h
    refine ⟨List.pairwise_iff_getElem.mpr (fun i j hi hj hij e => ?_), fun q hq => ?_⟩
    · have := h.1 i j _ _ (List.getElem?_eq_getElem hi) (List.getElem?_eq_getElem hj) e
      omega
    · obtain ⟨k, hk⟩ := List.mem_iff_getElem?.mp hq
      exact h.2 k q hk
  · intro h
    have hp := List.pairwise_iff_getElem.mp h.1
    refine ⟨fun i j p q hi hj e => ?_, fun k q hk => h.2 q (List.mem_of_getElem? hk)⟩
    obtain ⟨hi1, hi2⟩ := List.getElem?_eq_some_iff.mp hi
    obtain ⟨hj1, hj2⟩ := List.getElem?_eq_some_iff.mp hj
    rcases Nat.lt_trichotomy i j with q1 | q1 | q1
    · exact absurd (by rw [hi2, hj2]; exact e) (hp i j hi1 hj1 q1)
    · exact q1
    · exact absurd (by rw [hi2, hj2]; exact e.symm) (hp j i hj1 hi1 q1)
section LAWR
variable {X : jX} {cc : ByteArray} {nL : Nat} {own : String} {Ts : List Cond} {rm : Room} {D : va_G} {Y : Nat → ClassId} {RO : va_W} {k n : Nat} {ws : va_W} {lc : List (Nat × Value)} {pc : Nat} {st : List Value}
theorem j_permP {ws' : va_W} (h : ws.Perm ws') (kk : jW X nL k n ws' lc pc st) : jW X nL k n ws lc pc st := by
  obtain ⟨p, l, e, R, s, m, args, below, meth, c, Q, D', Y', A, H0, RO'⟩ := X
  intro H locs ls hP hD hS hl
  refine kk H locs ls (fun i q hq => ?_) ?_ hS hl
  · obtain ⟨j, hj⟩ := List.mem_iff_getElem?.mp (h.mem_iff.mpr (List.mem_of_getElem? hq))
    exact hP j q hj
  · have h1 := va_D_iff.mp hD
    exact va_D_iff.mpr ⟨(h.pairwise_iff (fun e => e.symm)).mp h1.1, fun q hq => h1.2 q (h.mem_iff.mpr hq)⟩
theorem j_permT {L L' PL : va_W} (is : List Nat) (hn : va_nd is = true) (h : is.map (fun i => L[i]?) = L'.map some) (kk : jW X nL k n (L' ++ PL) lc pc st) : jW X nL k n (L ++ PL) lc pc st :=
  j_perm (is ++ List.range' L.length PL.length) (va_nd_app hn (va_nd_range _ _) (fun i hi q => by have := ix_lt h i hi; have := List.mem_range'_1.mp q; omega)) (by rw [List.map_append, hd_map PL h, tl_map, List.map_append]) kk
theorem j_swap {A P B : va_W} (kk : jW X nL k n ((A ++ B) ++ P) lc pc st) : jW X nL k n ((A ++ P) ++ B) lc pc st := by
  refine j_permP ?_ kk
  rw [List.append_assoc, List.append_assoc]
  exact List.Perm.append_left A List.perm_append_comm
/-- a call, beside a tail of cells -/
theorem j_lawVi {stk As : List Value} {b : Nat} {y : MethodName} {wl wl' : List Cond} {rm' : Room} {post : Int → va_W → Prop} {bytes : ByteArray} {maxL index na : Nat} (C : jC X cc nL own Ts rm D Y RO) (isC isR : List Nat) {L PL wc wr : va_W} (hM : ∀ l, jMi l y wl rm' D Y ((wr ++ PL) ++ RO) (.ref b :: As) wc post) (hC : isC.map (fun i => L[i]?) = wc.map some) (hR0 : isR.map (fun i => L[i]?) = wr.map some) (hnC : va_nd isC = true) (hnR : va_nd isR = true) (hdis : ∀ i ∈ isR, i ∉ isC) {ret : Option FieldType} (hw : wl = Cond.code y bytes maxL ret :: wl') {Cn : String} {T : u_T} {N ci : Nat} {fs : List Value} (hq : (b, oC ci fs) ∈ wc ∨ (b, oC ci fs) ∈ (wr ++ PL) ++ RO) (hci : vwCl[ci]? = some (Cn, T, N)) (g : GoodIn Ts (wsV own index Cn y wl)) (hd0 : y.cls = Cn ∧ y.cls ≠ "java/lang/invoke/MethodHandle" ∧ y.cls ≠ "java/lang/invoke/VarHandle" ∧ (parseMethodDescriptor y.desc).map (fun d => d.parameters.length) = some na) (hRm : rm'.frames + 1 ≤ rm.frames ∧ 8 + (maxL + 11) + rm'.locals ≤ rm.locals) (hstk : stk = As.reverse ++ .ref b :: st) (hna : As.length = na) (hcat : (st.map fun v => v.category).sum ≤ 8) (hroom : k + rm'.cells ≤ rm.cells ∧ n + rm'.slots ≤ rm.slots) (hd : decode cc pc = .ok (.invokevirtual index, 3)) (kk : ∀ (ev : Int) (w1 : va_W), post ev w1 → jW X nL (k + rm'.cells) (n + rm'.slots) ((wr ++ w1) ++ PL) lc (pc + 3) (vI ev :: st)) : jW X nL k n (L ++ PL) lc pc stk :=
  j_callVi C isC (isR ++ List.range' L.length PL.length) hM (hd_map PL hC) (by rw [List.map_append, hd_map PL hR0, tl_map, List.map_append]) hnC (va_nd_app hnR (va_nd_range _ _) (fun i hi q => by have := ix_lt hR0 i hi; have := List.mem_range'_1.mp q; omega)) (fun i hi => by rcases List.mem_append.mp hi with q | q; { exact hdis i q }; { intro z; have := ix_lt hC i z; have := List.mem_range'_1.mp q; omega }) hw hq hci g hd0 hRm hstk hna hcat hroom hd (fun ev w1 h => j_swap (kk ev w1 h))
theorem j_lawVl {stk As : List Value} {b : Nat} {y : MethodName} {wl wl' : List Cond} {rm' : Room} {post : Int → va_W → Prop} {bytes : ByteArray} {maxL index na : Nat} (C : jC X cc nL own Ts rm D Y RO) (isC isR : List Nat) {L PL wc wr : va_W} (hM : ∀ l, jMl l y wl rm' D Y ((wr ++ PL) ++ RO) (.ref b :: As) wc post) (hC : isC.map (fun i => L[i]?) = wc.map some) (hR0 : isR.map (fun i => L[i]?) = wr.map some) (hnC : va_nd isC = true) (hnR : va_nd isR = true) (hdis : ∀ i ∈ isR, i ∉ isC) {ret : Option FieldType} (hw : wl = Cond.code y bytes maxL ret :: wl') {Cn : String} {T : u_T} {N ci : Nat} {fs : List Value} (hq : (b, oC ci fs) ∈ wc ∨ (b, oC ci fs) ∈ (wr ++ PL) ++ RO) (hci : vwCl[ci]? = some (Cn, T, N)) (g : GoodIn Ts (wsV own index Cn y wl)) (hd0 : y.cls = Cn ∧ y.cls ≠ "java/lang/invoke/MethodHandle" ∧ y.cls ≠ "java/lang/invoke/VarHandle" ∧ (parseMethodDescriptor y.desc).map (fun d => d.parameters.length) = some na) (hRm : rm'.frames + 1 ≤ rm.frames ∧ 8 + (maxL + 11) + rm'.locals ≤ rm.locals) (hstk : stk = As.reverse ++ .ref b :: st) (hna : As.length = na) (hcat : (st.map fun v => v.category).sum ≤ 8) (hroom : k + rm'.cells ≤ rm.cells ∧ n + rm'.slots ≤ rm.slots) (hd : decode cc pc = .ok (.invokevirtual index, 3)) (kk : ∀ (ev : Int) (w1 : va_W), post ev w1 → jW X nL (k + rm'.cells) (n + rm'.slots) ((wr ++ w1) ++ PL) lc (pc + 3) (vL ev :: st)) : jW X nL k n (L ++ PL) lc pc stk :=
  j_callVl C isC (isR ++ List.range' L.length PL.length) hM (hd_map PL hC) (by rw [List.map_append, hd_map PL hR0, tl_map, List.map_append]) hnC (va_nd_app hnR (va_nd_range _ _) (fun i hi q => by have := ix_lt hR0 i hi; have := List.mem_range'_1.mp q; omega)) (fun i hi => by rcases List.mem_append.mp hi with q | q; { exact hdis i q }; { intro z; have := ix_lt hC i z; have := List.mem_range'_1.mp q; omega }) hw hq hci g hd0 hRm hstk hna hcat hroom hd (fun ev w1 h => j_swap (kk ev w1 h))

/-- the script -/
def jSc (X : jX) (b L : Nat) (xs : Nat → Int32) : Prop := match X with
  | (p, l, e, R, s, m, args, below, meth, c, Q, D, _, A, H0, _) => va_X b L xs s H0 ∧ b < H0.size ∧ ¬ A b
def sxI (xs : Nat → Int32) (j : Int) : Int := (xs j.toNat).toInt
theorem sx_in (xs : Nat → Int32) (j : Int) : -2147483648 ≤ sxI xs j ∧ sxI xs j ≤ 2147483647 := by
  have h1 := Int32.le_toInt (xs j.toNat)
  have h2 := Int32.toInt_lt (xs j.toNat)
  unfold sxI
  omega
theorem j_sld (C : jC X cc nL own Ts rm D Y RO) {b L : Nat} {xs : Nat → Int32} (hs : jSc X b L xs) (hL : L ≤ 3072) {i : Int} (hi : 0 ≤ i ∧ i < (L : Int)) (hd : decode cc pc = .ok (.iaload, 1)) (kk : jW X nL k n ws lc (pc + 1) (vI (sxI xs i) :: st)) : jW X nL k n ws lc pc (vI i :: .ref b :: st) := by
  obtain ⟨p, l, e, R, s, m, args, below, meth, c, Q, D', Y', A, H0, RO'⟩ := X
  obtain ⟨⟨hx, hb, hml, hown, hts⟩, hK, hA, ⟨rfl, rfl, rfl, rfl⟩, hR, hRA, hN⟩ := C
  obtain ⟨hX, hbl, hbA⟩ := hs
  intro H locs ls hP hD hS hl
  have k1 := kk H locs ls hP hD hS hl
  have e1 : (Int32.ofInt i).toNatClampNeg = i.toNat := nj_cl (by omega)
  refine va_sld hx hb hX hbl hbA hS (i := Int32.ofInt i) (nj_in hi (by omega)) hd ?_
  rw [e1]
  rw [show vI (sxI xs i) = Value.int (xs i.toNat) by unfold vI sxI; rw [Int32.ofInt_toInt]] at k1
  exact k1
theorem j_slen (C : jC X cc nL own Ts rm D Y RO) {b L : Nat} {xs : Nat → Int32} (hs : jSc X b L xs) (hd : decode cc pc = .ok (.arraylength, 1)) (kk : jW X nL k n ws lc (pc + 1) (vI (L : Int) :: st)) : jW X nL k n ws lc pc (.ref b :: st) := by
  obtain ⟨p, l, e, R, s, m, args, below, meth, c, Q, D', Y', A, H0, RO'⟩ := X
  obtain ⟨⟨hx, hb, hml, hown, hts⟩, hK, hA, ⟨rfl, rfl, rfl, rfl⟩, hR, hRA, hN⟩ := C
  obtain ⟨hX, hbl, hbA⟩ := hs
  intro H locs ls hP hD hS hl
  have k1 := kk H locs ls hP hD hS hl
  rw [show vI (L : Int) = Value.int (Int32.ofNat L) by unfold vI; rw [Int32.ofInt_eq_ofNat]] at k1
  exact va_slen hx hb hX hbl hbA hS hd k1
end LAWR
/-- the cells of parishes, of customs -/
def plP (pad : Int → Nat) (ps : Int → PT) : Nat → va_W
  | 0 => []
  | n + 1 => pC (pad (n : Int)) (ps (n : Int)) :: plP pad ps n
def plC (cad : Int → Nat) (cs : Int → CT) : Nat → va_W
  | 0 => []
  | n + 1 => (cad (n : Int), oC 1 [vI (cw (cs (n : Int))), vI (cz (cs (n : Int))), vI (ce (cs (n : Int)))]) :: plC cad cs n
theorem plP_mem {pad : Int → Nat} {ps : Int → PT} (n : Nat) : ∀ i : Int, 0 ≤ i ∧ i < (n : Int) → pC (pad i) (ps i) ∈ plP pad ps n := by
  induction n with
  | zero => intro i hi; omega
  | succ n ih =>
    intro i hi
    by_cases q : i = (n : Int)
    · rw [q]; exact List.mem_cons_self
    · exact List.mem_cons_of_mem _ (ih i (by omega))
theorem plC_mem {cad : Int → Nat} {cs : Int → CT} (n : Nat) : ∀ i : Int, 0 ≤ i ∧ i < (n : Int) → (cad i, oC 1 [vI (cw (cs i)), vI (cz (cs i)), vI (ce (cs i))]) ∈ plC cad cs n := by
  induction n with
  | zero => intro i hi; omega
  | succ n ih =>
    intro i hi
    by_cases q : i = (n : Int)
    · rw [q]; exact List.mem_cons_self
    · exact List.mem_cons_of_mem _ (ih i (by omega))
theorem plP_cong {pad pad' : Int → Nat} {ps ps' : Int → PT} (n : Nat) (h : ∀ i : Int, 0 ≤ i ∧ i < (n : Int) → pad i = pad' i ∧ ps i = ps' i) : plP pad ps n = plP pad' ps' n := by
  induction n with
  | zero => rfl
  | succ n ih =>
    show pC (pad (n : Int)) (ps (n : Int)) :: plP pad ps n = pC (pad' (n : Int)) (ps' (n : Int)) :: plP pad' ps' n
    rw [(h n (by omega)).1, (h n (by omega)).2, ih (fun i hi => h i (by omega))]
theorem plC_cong {cad cad' : Int → Nat} {cs cs' : Int → CT} (n : Nat) (h : ∀ i : Int, 0 ≤ i ∧ i < (n : Int) → cad i = cad' i ∧ cs i = cs' i) : plC cad cs n = plC cad' cs' n := by
  induction n with
  | zero => rfl
  | succ n ih =>
    show (cad (n : Int), oC 1 [vI (cw (cs (n : Int))), vI (cz (cs (n : Int))), vI (ce (cs (n : Int)))]) :: plC cad cs n = (cad' (n : Int), oC 1 [vI (cw (cs' (n : Int))), vI (cz (cs' (n : Int))), vI (ce (cs' (n : Int)))]) :: plC cad' cs' n
    rw [(h n (by omega)).1, (h n (by omega)).2, ih (fun i hi => h i (by omega))]
/-- one parish's cell out of them, and another in its place -/
theorem plP_out {pad : Int → Nat} {ps : Int → PT} {p : Int} (n : Nat) (hp : 0 ≤ p ∧ p < (n : Int)) : ∃ R : va_W, (plP pad ps n).Perm (pC (pad p) (ps p) :: R) ∧ ∀ P' : PT, (plP pad (up ps p P') n).Perm (pC (pad p) P' :: R) := by
  induction n with
  | zero => omega
  | succ n ih =>
    by_cases q : p = (n : Int)
    · refine ⟨plP pad ps n, ?_, fun P' => ?_⟩
      · rw [q]; exact List.Perm.refl _
      · show (pC (pad (n : Int)) (up ps p P' (n : Int)) :: plP pad (up ps p P') n).Perm _
        rw [← q, up_same, plP_cong (pad' := pad) (ps' := ps) n (fun i hi => ⟨rfl, up_ne _ _ _ _ (by omega)⟩)]
    · obtain ⟨R, h1, h2⟩ := ih (by omega)
      refine ⟨pC (pad (n : Int)) (ps (n : Int)) :: R, (h1.cons _).trans (List.Perm.swap _ _ _), fun P' => ?_⟩
      show (pC (pad (n : Int)) (up ps p P' (n : Int)) :: plP pad (up ps p P') n).Perm _
      rw [up_ne _ _ _ _ (show (n : Int) ≠ p by omega)]
      exact ((h2 P').cons _).trans (List.Perm.swap _ _ _)
def PLW (np nc : Int) (cad pad : Int → Nat) (cs : Int → CT) (ps : Int → PT) : va_W := plP pad ps np.toNat ++ plC cad cs nc.toNat
theorem PLW_p {np nc : Int} {cad pad : Int → Nat} {cs : Int → CT} {ps : Int → PT} : ∀ i : Int, 0 ≤ i ∧ i < np → pC (pad i) (ps i) ∈ PLW np nc cad pad cs ps := fun i hi => List.mem_append_left _ (plP_mem _ i (by omega))
theorem PLW_c {np nc : Int} {cad pad : Int → Nat} {cs : Int → CT} {ps : Int → PT} : ∀ i : Int, 0 ≤ i ∧ i < nc → (cad i, oC 1 [vI (cw (cs i)), vI (cz (cs i)), vI (ce (cs i))]) ∈ PLW np nc cad pad cs ps := fun i hi => List.mem_append_right _ (plC_mem _ i (by omega))
theorem PLW_newP {np nc : Int} {cad pad : Int → Nat} {cs : Int → CT} {ps : Int → PT} (h : 0 ≤ np) (q : Nat) (P : PT) : PLW (np + 1) nc cad (up pad np q) cs (up ps np P) = pC q P :: PLW np nc cad pad cs ps := by
  unfold PLW
  rw [show (np + 1).toNat = np.toNat + 1 by omega]
  show pC (up pad np q (np.toNat : Int)) (up ps np P (np.toNat : Int)) :: (plP (up pad np q) (up ps np P) np.toNat ++ _) = _
  rw [show (np.toNat : Int) = np by omega, up_same, up_same, plP_cong (pad' := pad) (ps' := ps) np.toNat (fun i hi => ⟨up_ne _ _ _ _ (by omega), up_ne _ _ _ _ (by omega)⟩)]
theorem PLW_newC {np nc : Int} {cad pad : Int → Nat} {cs : Int → CT} {ps : Int → PT} (h : 0 ≤ nc) (q : Nat) (C : CT) : ((q, oC 1 [vI (cw C), vI (cz C), vI (ce C)]) :: PLW np nc cad pad cs ps).Perm (PLW np (nc + 1) (up cad nc q) pad (up cs nc C) ps) := by
  unfold PLW
  rw [show (nc + 1).toNat = nc.toNat + 1 by omega]
  show List.Perm _ (plP pad ps np.toNat ++ (up cad nc q (nc.toNat : Int), oC 1 [vI (cw (up cs nc C (nc.toNat : Int))), vI (cz (up cs nc C (nc.toNat : Int))), vI (ce (up cs nc C (nc.toNat : Int)))]) :: plC (up cad nc q) (up cs nc C) nc.toNat)
  rw [show (nc.toNat : Int) = nc by omega, up_same, up_same, plC_cong (cad' := cad) (cs' := cs) nc.toNat (fun i hi => ⟨up_ne _ _ _ _ (by omega), up_ne _ _ _ _ (by omega)⟩)]
  exact List.perm_middle.symm
theorem PLW_out {np nc : Int} {cad pad : Int → Nat} {cs : Int → CT} {ps : Int → PT} {p : Int} (hp : 0 ≤ p ∧ p < np) : ∃ R : va_W, (PLW np nc cad pad cs ps).Perm (pC (pad p) (ps p) :: R) ∧ ∀ P' : PT, (pC (pad p) P' :: R).Perm (PLW np nc cad pad cs (up ps p P')) := by
  obtain ⟨R, h1, h2⟩ := plP_out (pad := pad) (ps := ps) (p := p) np.toNat (by omega)
  exact ⟨R ++ plC cad cs nc.toNat, h1.append_right _, fun P' => ((h2 P').append_right _).symm⟩
