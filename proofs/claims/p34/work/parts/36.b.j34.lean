/-! more rows of J: rows of longs, the script beside a method, worlds with a tail -/
def n32 (e : Int) : Int := (Int32.ofInt e).toInt
theorem n32_in (e : Int) : -2147483648 ≤ n32 e ∧ n32 e ≤ 2147483647 := by
  have h1 := Int32.le_toInt (Int32.ofInt e)
  have h2 := Int32.toInt_lt (Int32.ofInt e)
  unfold n32
  omega
theorem vI_n32 (e : Int) : vI e = vI (n32 e) := by
  unfold vI n32
  rw [Int32.ofInt_toInt]
/-- a row of longs -/
def aL (cA : ClassId) (n : Nat) (g : Int → Int) : va_E := .inl (cA, n, .inr (.inl (fun k : Nat => Int64.ofInt (g (k : Int)))))
theorem nj_upL {g : Int → Int} {i x : Int} (h : 0 ≤ i ∧ i ≤ 2147483647) : vp_updL (fun k : Nat => Int64.ofInt (g (k : Int))) (Int32.ofInt i).toNatClampNeg (Int64.ofInt x) = fun k : Nat => Int64.ofInt (up g i x (k : Int)) := by
  funext k
  have h1 := nj_to h
  unfold vp_updL up
  by_cases hk : k = (Int32.ofInt i).toNatClampNeg
  · rw [if_pos hk, if_pos (by omega)]
  · rw [if_neg hk, if_neg (by omega)]
section J34
variable {X : jX} {cc : ByteArray} {nL : Nat} {own : String} {Ts : List Cond} {rm : Room} {D : va_G} {Y : Nat → ClassId} {RO : va_W} {k n : Nat} {ws : va_W} {lc : List (Nat × Value)} {pc : Nat} {st : List Value}
theorem j_newL (C : jC X cc nL own Ts rm D Y RO) {m0 : Nat} {e : Int} (he : e = (m0 : Int)) (hm : m0 ≤ 1000) (harr : Cond.arrayClass .long ∈ Ts) (hroom : k + 1 ≤ rm.cells ∧ n + m0 ≤ rm.slots) (hd : decode cc pc = .ok (.newarray .long, 2)) (kk : ∀ q : Nat, jW X nL (k + 1) (n + m0) (ws ++ [(q, aL (Y 1) m0 (fun _ => 0))]) lc (pc + 2) (.ref q :: st)) : jW X nL k n ws lc pc (vI e :: st) := by
  obtain ⟨p, l, ev, R, s, m, args, below, meth, c, Q, D', Y', A, H0, RO'⟩ := X
  obtain ⟨⟨hx, hb, hml, hown, hts⟩, hK, hA, ⟨rfl, rfl, rfl, rfl⟩, hR, hRA, hN⟩ := C
  intro H locs ls hP hD hS hl
  subst he
  refine va_newa (atype := .long) (ty := .long) (N' := m0) (a0 := (m0, .inr (.inl (fun _ => 0)))) hx hb (hts _ harr) rfl hK hP hD hS hA (fun cA => rfl) ?_ ?_ ?_ hroom.1 hroom.2 hd (fun q cA H1 hK1 hP1 hD1 hS1 => ?_)
  · rw [nj_z, nj_lt (by omega)]; omega
  · rw [nj_cl (by omega)]; omega
  · show m0 * 8 ≤ 536870912
    omega
  · have e := Option.some.inj ((va_nm_long (hK1.2 4 _ rfl).2).symm.trans (va_nm_long (hK.2 1 _ rfl).2))
    subst e
    exact kk q H1 locs ls hP1 hD1 hS1 hl
theorem j_lald (C : jC X cc nL own Ts rm D Y RO) {cA : ClassId} {m0 : Nat} {g : Int → Int} {a : Nat} {i : Int} (hq : (a, aL cA m0 g) ∈ ws ∨ (a, aL cA m0 g) ∈ RO) (hcA : cA = Y 1) (hi : 0 ≤ i ∧ i < (m0 : Int)) (hm : m0 < 2147483648) (hd : decode cc pc = .ok (.laload, 1)) (kk : jW X nL k n ws lc (pc + 1) (vL (g i) :: st)) : jW X nL k n ws lc pc (vI i :: .ref a :: st) := by
  obtain ⟨p, l, e, R, s, m, args, below, meth, c, Q, D', Y', A, H0, RO'⟩ := X
  obtain ⟨⟨hx, hb, hml, hown, hts⟩, hK, hA, ⟨rfl, rfl, rfl, rfl⟩, hR, hRA, hN⟩ := C
  intro H locs ls hP hD hS hl
  subst hcA
  refine va_lald hx hb hK (j_cell hq hP hR hRA hS) 0 1 (cA := Y' 1) (n := m0) (f := fun k : Nat => Int64.ofInt (g (k : Int))) rfl rfl (nj_in hi hm) hd ?_
  rw [nj_to (by omega)]
  exact (kk H locs ls hP hD hS hl)
theorem j_last (C : jC X cc nL own Ts rm D Y RO) {cA : ClassId} {m0 : Nat} {g : Int → Int} {a : Nat} {i x : Int} {ws' : va_W} (q0 : Nat) (he : ws[q0]? = some (a, aL cA m0 g)) (hcA : cA = Y 1) (hi : 0 ≤ i ∧ i < (m0 : Int)) (hm : m0 < 2147483648) (hw : ws.set q0 (a, aL cA m0 (up g i x)) = ws') (hd : decode cc pc = .ok (.lastore, 1)) (kk : jW X nL k n ws' lc (pc + 1) st) : jW X nL k n ws lc pc (vL x :: vI i :: .ref a :: st) := by
  obtain ⟨p, l, e, R, s, m, args, below, meth, c, Q, D', Y', A, H0, RO'⟩ := X
  obtain ⟨⟨hx, hb, hml, hown, hts⟩, hK, hA, ⟨rfl, rfl, rfl, rfl⟩, hR, hRA, hN⟩ := C
  intro H locs ls hP hD hS hl
  subst hcA hw
  refine va_last hx hb hK hP hD hS q0 1 (cA := Y' 1) (n := m0) (f := fun k : Nat => Int64.ofInt (g (k : Int))) he rfl (nj_in hi hm) hd (fun H1 locs1 hP hD hS => ?_)
  rw [nj_upL (by omega)] at hP hD
  exact kk H1 locs1 ls hP hD hS hl
/-- like numbers: a compare's way -/
theorem j_icmpSe (C : jC X cc nL own Ts rm D Y RO) {e off : Int} (tgt : Nat) (ht : (pc : Int) + off = (tgt : Int)) (hd : decode cc pc = .ok (.if_icmp .eq off, 3)) (kk : jW X nL k n ws lc tgt st) : jW X nL k n ws lc pc (vI e :: vI e :: st) := by
  rw [vI_n32 e]
  exact j_icmp_eq C tgt ht ⟨n32_in e, n32_in e⟩ hd (fun _ => kk) (fun h => absurd rfl h)
theorem j_icmpSn (C : jC X cc nL own Ts rm D Y RO) {e off : Int} (tgt : Nat) (ht : (pc : Int) + off = (tgt : Int)) (hd : decode cc pc = .ok (.if_icmp .ne off, 3)) (kk : jW X nL k n ws lc (pc + 3) st) : jW X nL k n ws lc pc (vI e :: vI e :: st) := by
  rw [vI_n32 e]
  exact j_icmp_ne C tgt ht ⟨n32_in e, n32_in e⟩ hd (fun h => absurd rfl h) (fun _ => kk)
/-- a new row, ahead of the tail -/
theorem j_newIT (C : jC X cc nL own Ts rm D Y RO) {L W : va_W} {m0 : Nat} {e : Int} (he : e = (m0 : Int)) (hm : m0 ≤ 1000) (harr : Cond.arrayClass .int ∈ Ts) (hroom : k + 1 ≤ rm.cells ∧ n + m0 ≤ rm.slots) (hd : decode cc pc = .ok (.newarray .int, 2)) (kk : ∀ q : Nat, jW X nL (k + 1) (n + m0) ((L ++ [(q, aI (Y 0) m0 (fun _ => 0))]) ++ W) lc (pc + 2) (.ref q :: st)) : jW X nL k n (L ++ W) lc pc (vI e :: st) :=
  j_newI C he hm harr hroom hd (fun q => j_swap (kk q))
theorem j_newLT (C : jC X cc nL own Ts rm D Y RO) {L W : va_W} {m0 : Nat} {e : Int} (he : e = (m0 : Int)) (hm : m0 ≤ 1000) (harr : Cond.arrayClass .long ∈ Ts) (hroom : k + 1 ≤ rm.cells ∧ n + m0 ≤ rm.slots) (hd : decode cc pc = .ok (.newarray .long, 2)) (kk : ∀ q : Nat, jW X nL (k + 1) (n + m0) ((L ++ [(q, aL (Y 1) m0 (fun _ => 0))]) ++ W) lc (pc + 2) (.ref q :: st)) : jW X nL k n (L ++ W) lc pc (vI e :: st) :=
  j_newL C he hm harr hroom hd (fun q => j_swap (kk q))
theorem j_toF {A P Rows : va_W} (kk : jW X nL k n (A ++ (P ++ Rows)) lc pc st) : jW X nL k n (Rows ++ (A ++ P)) lc pc st := by
  refine j_permP ?_ kk
  rw [← List.append_assoc A P Rows]
  exact List.perm_append_comm
theorem j_ofF {A P Rows : va_W} (kk : jW X nL k n (Rows ++ (A ++ P)) lc pc st) : jW X nL k n (A ++ (P ++ Rows)) lc pc st := by
  refine j_permP ?_ kk
  rw [← List.append_assoc A P Rows]
  exact List.perm_append_comm
end J34
/-- a start with the script beside it -/
def jPreX (b L : Nat) (xs : Nat → Int32) (D : va_G) (Y : Nat → ClassId) (w0 RO : va_W) (sz : Nat) : State → Prop := fun U => jPre D Y w0 RO sz U ∧ va_X b L xs U U.heap ∧ b < sz ∧ ∀ q ∈ w0, q.1 ≠ b
def jMiX (l : Launch) (y : MethodName) (wl : List Cond) (rm : Room) (D : va_G) (Y : Nat → ClassId) (RO : va_W) (b L : Nat) (xs : Nat → Int32) (av : List Value) (w0 : va_W) (post : Int → va_W → Prop) : Prop := ∀ sz : Nat, Met l y wl rm (va_Pc av (jPreX b L xs D Y w0 RO sz)) (va_Qi (fun (r : Int32) (w1 : va_W) => ∃ e : Int, r = Int32.ofInt e ∧ post e w1) (jB D w0 sz) (va_A w0 sz)) rm.cells rm.slots (va_A w0 sz)
theorem jPreX.blind {b L : Nat} {xs : Nat → Int32} {D : va_G} {Y : Nat → ClassId} {w0 RO : va_W} {sz : Nat} {av : List Value} : FrameBlind (va_Pc av (jPreX b L xs D Y w0 RO sz)) := by
  intro a U g mk q
  obtain ⟨q0, ⟨q1, qP, qK, qD, qR, qd, qN⟩, qX, qb⟩ := q
  exact ⟨q0, ⟨q1, qP, va_K.moved (u := U) (U := U.calling g mk a) (Vm.Alike.refl U.vm) qK, qD, qR, qd, qN.same rfl⟩, va_X.moved (u := U) (U := U.calling g mk a) (Vm.Alike.refl U.vm) qX, qb⟩
theorem j_nob {w0 : va_W} {sz b : Nat} (hb : b < sz) (h : ∀ q ∈ w0, q.1 ≠ b) : ¬ va_A w0 sz b := by
  intro q
  rcases q with ⟨k, e, q⟩ | q
  · exact h _ (List.mem_of_getElem? q) rfl
  · omega
theorem j_ofiX {l : Launch} {y : MethodName} {wl ws' : List Cond} {rm : Room} {D : va_G} {Y : Nat → ClassId} {RO w0 : va_W} {b L : Nat} {xs : Nat → Int32} {av : List Value} {post : Int → va_W → Prop} {cc : ByteArray} {maxL : Nat} (own : String) (hy : plainName y.cls = true) (hw : wl = Cond.code y cc maxL (some .int) :: ws') (ho : y.cls = own) (hlen : (lg_sl av).length ≤ maxL) (body : ∀ X : jX, jC X cc maxL own wl rm D Y RO → jSc X b L xs → jRi X cc maxL rm.cells rm.slots post → jW X maxL 0 0 w0 (lv_args 0 av) 0 []) : jMiX l y wl rm D Y RO b L xs av w0 post := by
  intro sz
  refine Met.ofW (cc := cc) (maxL := maxL) (ret := (some .int)) hy hw ?_
  intro p e s m args below meth c s₁ B hml hv
  obtain ⟨rfl, ⟨hsz, hP, hK, hD0, hRO, hdis, hN⟩, hX, hbs, hbw⟩ := hv
  have hx := B.exec
  have hb := B.bytes
  have hr := B.returns
  have hts := atoms_spec (ws := wl) B.pre
  have hown : s.vm.findClass own = some m.cls := ho ▸ findClass_of_methodNamed B.named
  have hlocks := B.notSynchronized
  have hRA := j_ros hsz hRO hdis
  subst hsz
  have hD := hD0.self (sz := s.heap.size)
  rw [lg_entry_eq]
  have hl := lv_entry av (n := maxL) hlen
  refine body (p, l, e, (headSpec wl rm).room, s, m, av.toArray, below, meth, c, MQ below (_) av.toArray s rm.cells rm.slots (va_A w0 s.heap.size), D, Y, va_A w0 s.heap.size, s.heap, RO) ⟨⟨hx, hb, hml, hown, hts⟩, hK, fun q h => Or.inr h, ⟨rfl, rfl, rfl, rfl⟩, hRO, hRA, hN⟩ ⟨hX, hbs, j_nob hbs hbw⟩ ?_ s.heap [] _ hP hD va_S.rf hl
  intro k n w1 lc pc ev hk hn hp hd H locs ls hP hD hS hl
  exact W.widen hk hn (W.iret hx hb hr (fun t ht hW => ⟨⟨_, w1, rfl, ⟨ev, rfl, hp⟩, by rw [ht]; exact hP, hD⟩, hS.F ht⟩) hS.2.2 hd hlocks)
theorem j_ofzX {l : Launch} {y : MethodName} {wl ws' : List Cond} {rm : Room} {D : va_G} {Y : Nat → ClassId} {RO w0 : va_W} {b L : Nat} {xs : Nat → Int32} {av : List Value} {post : Int → va_W → Prop} {cc : ByteArray} {maxL : Nat} (own : String) (hy : plainName y.cls = true) (hw : wl = Cond.code y cc maxL (some .boolean) :: ws') (ho : y.cls = own) (hlen : (lg_sl av).length ≤ maxL) (body : ∀ X : jX, jC X cc maxL own wl rm D Y RO → jSc X b L xs → jRz X cc maxL rm.cells rm.slots post → jW X maxL 0 0 w0 (lv_args 0 av) 0 []) : jMiX l y wl rm D Y RO b L xs av w0 post := by
  intro sz
  refine Met.ofW (cc := cc) (maxL := maxL) (ret := (some .boolean)) hy hw ?_
  intro p e s m args below meth c s₁ B hml hv
  obtain ⟨rfl, ⟨hsz, hP, hK, hD0, hRO, hdis, hN⟩, hX, hbs, hbw⟩ := hv
  have hx := B.exec
  have hb := B.bytes
  have hr := B.returns
  have hts := atoms_spec (ws := wl) B.pre
  have hown : s.vm.findClass own = some m.cls := ho ▸ findClass_of_methodNamed B.named
  have hlocks := B.notSynchronized
  have hRA := j_ros hsz hRO hdis
  subst hsz
  have hD := hD0.self (sz := s.heap.size)
  rw [lg_entry_eq]
  have hl := lv_entry av (n := maxL) hlen
  refine body (p, l, e, (headSpec wl rm).room, s, m, av.toArray, below, meth, c, MQ below (_) av.toArray s rm.cells rm.slots (va_A w0 s.heap.size), D, Y, va_A w0 s.heap.size, s.heap, RO) ⟨⟨hx, hb, hml, hown, hts⟩, hK, fun q h => Or.inr h, ⟨rfl, rfl, rfl, rfl⟩, hRO, hRA, hN⟩ ⟨hX, hbs, j_nob hbs hbw⟩ ?_ s.heap [] _ hP hD va_S.rf hl
  intro k n w1 lc pc ev hk hn hz hp hd H locs ls hP hD hS hl
  exact W.widen hk hn (W.zret hx hb hr (by rcases hz with rfl | rfl <;> rfl) (fun t ht hW => ⟨⟨_, w1, rfl, ⟨ev, rfl, hp⟩, by rw [ht]; exact hP, hD⟩, hS.F ht⟩) hS.2.2 hd hlocks)
theorem j_callSiX {X : jX} {cc : ByteArray} {nL : Nat} {own : String} {Ts : List Cond} {rm : Room} {D : va_G} {Y : Nat → ClassId} {RO : va_W} {k n : Nat} {ws : va_W} {lc : List (Nat × Value)} {pc : Nat} {st stk As : List Value} {y : MethodName} {wl wl' : List Cond} {rm' : Room} {post : Int → va_W → Prop} {bytes : ByteArray} {maxL index na : Nat} (C : jC X cc nL own Ts rm D Y RO) (isC isR : List Nat) {wc wr : va_W} {b L : Nat} {xs : Nat → Int32} (hSc : jSc X b L xs) (hM : ∀ l, jMiX l y wl rm' D Y (wr ++ RO) b L xs As wc post) (hC : isC.map (fun i => ws[i]?) = wc.map some) (hR0 : isR.map (fun i => ws[i]?) = wr.map some) (hnC : va_nd isC = true) (hnR : va_nd isR = true) (hdis : ∀ i ∈ isR, i ∉ isC) {ret : Option FieldType} (hw : wl = Cond.code y bytes maxL ret :: wl') (g : GoodIn Ts (va_wsS own index y wl)) (hd0 : y.cls ≠ "java/lang/invoke/MethodHandle" ∧ y.cls ≠ "java/lang/invoke/VarHandle" ∧ (parseMethodDescriptor y.desc).map (fun d => d.parameters.length) = some na) (hRm : rm'.frames + 1 ≤ rm.frames ∧ 8 + (maxL + 11) + rm'.locals ≤ rm.locals) (hstk : stk = As.reverse ++ st) (hna : As.length = na) (hcat : (st.map fun v => v.category).sum ≤ 8) (hroom : k + rm'.cells ≤ rm.cells ∧ n + rm'.slots ≤ rm.slots) (hd : decode cc pc = .ok (.invokestatic index, 3)) (kk : ∀ (ev : Int) (w1 : va_W), post ev w1 → jW X nL (k + rm'.cells) (n + rm'.slots) (wr ++ w1) lc (pc + 3) (vI ev :: st)) : jW X nL k n ws lc pc stk := by
  obtain ⟨p, l, e, R, s, m, args, below, meth, c, Q, D', Y', A, H0, RO'⟩ := X
  obtain ⟨⟨hx, hb, hml, hown, hts⟩, hK, hA, ⟨rfl, rfl, rfl, rfl⟩, hR, hRA, hN⟩ := C
  obtain ⟨hX, hbl, hbA⟩ := hSc
  intro H locs ls hP hD hS hl
  subst hstk
  have hPc := j_sub hP isC hC
  have hDc := hD.sub isC hnC hC
  have hFc := va_free hD hS hA isC hC
  have hROc := j_ro2 hP hR hRA hS isR hR0
  have hap := j_ap hD hRA isC isR hC hR0 hdis
  refine va_calli (va_runS (As := As) (rest := st) ⟨hx, hb, hml, hown, hts⟩ (hM l _) (va_cwS na hts g hw rfl rfl hd0 hRm) ⟨jPreX.blind, fun U hU hW => ⟨rfl, ⟨by rw [hU], by rw [hU]; exact hPc, va_K.moved hW.alike hK, hDc.weaken (fun _ _ _ _ => trivial), by rw [hU]; exact hROc, hap, hN.warm hW⟩, by rw [hU]; exact (hX.moved hW.alike).kept (hS.2.1 b hbl hbA), Nat.lt_of_lt_of_le hbl hS.1, fun q hq e => hbA (by obtain ⟨j, hj, hj2⟩ := j_at' hC hq; rw [← e]; exact hD.2 j q hj2)⟩⟩ rfl hna hl.1 rfl (lv_room hcat) hd hroom) hS (fun q _ h => hFc q h) hFc (fun r w1 t H1 locs1 ht hvm hw1 hB hz1 hk1 hS => ?_)
  obtain ⟨hP1, hD1⟩ := hB
  rw [ht] at hP1
  obtain ⟨hP, hD⟩ := va_join hP hD isC isR hC hR0 hnR hdis hk1 hFc hP1 hD1
  obtain ⟨ev, rfl, hp⟩ := hw1
  exact kk ev w1 hp H1 locs1 ls hP hD hS hl
section J34C
variable {X : jX} {cc : ByteArray} {nL : Nat} {own : String} {Ts : List Cond} {rm : Room} {D : va_G} {Y : Nat → ClassId} {RO : va_W} {k n : Nat} {ws : va_W} {lc : List (Nat × Value)} {pc : Nat} {st : List Value}
theorem j_lawSi {M0 PL : va_W} {stk As : List Value} {y : MethodName} {wl wl' : List Cond} {rm' : Room} {post : Int → va_W → Prop} {bytes : ByteArray} {maxL index na : Nat} (C : jC X cc nL own Ts rm D Y RO) (isC isR : List Nat) {wc wr : va_W} (hM : ∀ l, jMi l y wl rm' D Y ((wr ++ PL) ++ RO) As wc post) (hC : isC.map (fun i => M0[i]?) = wc.map some) (hR0 : isR.map (fun i => M0[i]?) = wr.map some) (hnC : va_nd isC = true) (hnR : va_nd isR = true) (hdis : ∀ i ∈ isR, i ∉ isC) {ret : Option FieldType} (hw : wl = Cond.code y bytes maxL ret :: wl') (g : GoodIn Ts (va_wsS own index y wl)) (hd0 : y.cls ≠ "java/lang/invoke/MethodHandle" ∧ y.cls ≠ "java/lang/invoke/VarHandle" ∧ (parseMethodDescriptor y.desc).map (fun d => d.parameters.length) = some na) (hRm : rm'.frames + 1 ≤ rm.frames ∧ 8 + (maxL + 11) + rm'.locals ≤ rm.locals) (hstk : stk = As.reverse ++ st) (hna : As.length = na) (hcat : (st.map fun v => v.category).sum ≤ 8) (hroom : k + rm'.cells ≤ rm.cells ∧ n + rm'.slots ≤ rm.slots) (hd : decode cc pc = .ok (.invokestatic index, 3)) (kk : ∀ (ev : Int) (w1 : va_W), post ev w1 → jW X nL (k + rm'.cells) (n + rm'.slots) ((wr ++ w1) ++ PL) lc (pc + 3) (vI ev :: st)) : jW X nL k n (M0 ++ PL) lc pc stk :=
  j_callSi C isC (isR ++ List.range' M0.length PL.length) hM (hd_map PL hC) (by rw [List.map_append, hd_map PL hR0, tl_map, List.map_append]) hnC (va_nd_app hnR (va_nd_range _ _) (fun i hi q => by have := ix_lt hR0 i hi; have := List.mem_range'_1.mp q; omega)) (fun i hi => by rcases List.mem_append.mp hi with q | q; { exact hdis i q }; { intro z; have := ix_lt hC i z; have := List.mem_range'_1.mp q; omega }) hw g hd0 hRm hstk hna hcat hroom hd (fun ev w1 h => j_swap (kk ev w1 h))

theorem j_lawSv {M0 PL : va_W} {stk As : List Value} {y : MethodName} {wl wl' : List Cond} {rm' : Room} {post : va_W → Prop} {bytes : ByteArray} {maxL index na : Nat} (C : jC X cc nL own Ts rm D Y RO) (isC isR : List Nat) {wc wr : va_W} (hM : ∀ l, jMv l y wl rm' D Y ((wr ++ PL) ++ RO) As wc post) (hC : isC.map (fun i => M0[i]?) = wc.map some) (hR0 : isR.map (fun i => M0[i]?) = wr.map some) (hnC : va_nd isC = true) (hnR : va_nd isR = true) (hdis : ∀ i ∈ isR, i ∉ isC) {ret : Option FieldType} (hw : wl = Cond.code y bytes maxL ret :: wl') (g : GoodIn Ts (va_wsS own index y wl)) (hd0 : y.cls ≠ "java/lang/invoke/MethodHandle" ∧ y.cls ≠ "java/lang/invoke/VarHandle" ∧ (parseMethodDescriptor y.desc).map (fun d => d.parameters.length) = some na) (hRm : rm'.frames + 1 ≤ rm.frames ∧ 8 + (maxL + 11) + rm'.locals ≤ rm.locals) (hstk : stk = As.reverse ++ st) (hna : As.length = na) (hcat : (st.map fun v => v.category).sum ≤ 8) (hroom : k + rm'.cells ≤ rm.cells ∧ n + rm'.slots ≤ rm.slots) (hd : decode cc pc = .ok (.invokestatic index, 3)) (kk : ∀ w1 : va_W, post w1 → jW X nL (k + rm'.cells) (n + rm'.slots) ((wr ++ w1) ++ PL) lc (pc + 3) st) : jW X nL k n (M0 ++ PL) lc pc stk :=
  j_callSv C isC (isR ++ List.range' M0.length PL.length) hM (hd_map PL hC) (by rw [List.map_append, hd_map PL hR0, tl_map, List.map_append]) hnC (va_nd_app hnR (va_nd_range _ _) (fun i hi q => by have := ix_lt hR0 i hi; have := List.mem_range'_1.mp q; omega)) (fun i hi => by rcases List.mem_append.mp hi with q | q; { exact hdis i q }; { intro z; have := ix_lt hC i z; have := List.mem_range'_1.mp q; omega }) hw g hd0 hRm hstk hna hcat hroom hd (fun w1 h => j_swap (kk w1 h))

theorem j_lawSiX {M0 PL : va_W} {stk As : List Value} {y : MethodName} {wl wl' : List Cond} {rm' : Room} {post : Int → va_W → Prop} {bytes : ByteArray} {maxL index na : Nat} (C : jC X cc nL own Ts rm D Y RO) (isC isR : List Nat) {wc wr : va_W} {b L : Nat} {xs : Nat → Int32} (hSc : jSc X b L xs) (hM : ∀ l, jMiX l y wl rm' D Y ((wr ++ PL) ++ RO) b L xs As wc post) (hC : isC.map (fun i => M0[i]?) = wc.map some) (hR0 : isR.map (fun i => M0[i]?) = wr.map some) (hnC : va_nd isC = true) (hnR : va_nd isR = true) (hdis : ∀ i ∈ isR, i ∉ isC) {ret : Option FieldType} (hw : wl = Cond.code y bytes maxL ret :: wl') (g : GoodIn Ts (va_wsS own index y wl)) (hd0 : y.cls ≠ "java/lang/invoke/MethodHandle" ∧ y.cls ≠ "java/lang/invoke/VarHandle" ∧ (parseMethodDescriptor y.desc).map (fun d => d.parameters.length) = some na) (hRm : rm'.frames + 1 ≤ rm.frames ∧ 8 + (maxL + 11) + rm'.locals ≤ rm.locals) (hstk : stk = As.reverse ++ st) (hna : As.length = na) (hcat : (st.map fun v => v.category).sum ≤ 8) (hroom : k + rm'.cells ≤ rm.cells ∧ n + rm'.slots ≤ rm.slots) (hd : decode cc pc = .ok (.invokestatic index, 3)) (kk : ∀ (ev : Int) (w1 : va_W), post ev w1 → jW X nL (k + rm'.cells) (n + rm'.slots) ((wr ++ w1) ++ PL) lc (pc + 3) (vI ev :: st)) : jW X nL k n (M0 ++ PL) lc pc stk :=
  j_callSiX C isC (isR ++ List.range' M0.length PL.length) hSc hM (hd_map PL hC) (by rw [List.map_append, hd_map PL hR0, tl_map, List.map_append]) hnC (va_nd_app hnR (va_nd_range _ _) (fun i hi q => by have := ix_lt hR0 i hi; have := List.mem_range'_1.mp q; omega)) (fun i hi => by rcases List.mem_append.mp hi with q | q; { exact hdis i q }; { intro z; have := ix_lt hC i z; have := List.mem_range'_1.mp q; omega }) hw g hd0 hRm hstk hna hcat hroom hd (fun ev w1 h => j_swap (kk ev w1 h))

theorem j_tailSi {M0 PL : va_W} {stk As : List Value} {y : MethodName} {wl wl' : List Cond} {rm' : Room} {post : Int → va_W → Prop} {bytes : ByteArray} {maxL index na : Nat} (C : jC X cc nL own Ts rm D Y RO) (isC isR : List Nat) {wc wr : va_W} (hM : ∀ l, jMi l y wl rm' D Y (wr ++ RO) As (wc ++ PL) post) (hC : isC.map (fun i => M0[i]?) = wc.map some) (hR0 : isR.map (fun i => M0[i]?) = wr.map some) (hnC : va_nd isC = true) (hnR : va_nd isR = true) (hdis : ∀ i ∈ isR, i ∉ isC) {ret : Option FieldType} (hw : wl = Cond.code y bytes maxL ret :: wl') (g : GoodIn Ts (va_wsS own index y wl)) (hd0 : y.cls ≠ "java/lang/invoke/MethodHandle" ∧ y.cls ≠ "java/lang/invoke/VarHandle" ∧ (parseMethodDescriptor y.desc).map (fun d => d.parameters.length) = some na) (hRm : rm'.frames + 1 ≤ rm.frames ∧ 8 + (maxL + 11) + rm'.locals ≤ rm.locals) (hstk : stk = As.reverse ++ st) (hna : As.length = na) (hcat : (st.map fun v => v.category).sum ≤ 8) (hroom : k + rm'.cells ≤ rm.cells ∧ n + rm'.slots ≤ rm.slots) (hd : decode cc pc = .ok (.invokestatic index, 3)) (kk : ∀ (ev : Int) (w1 : va_W), post ev w1 → jW X nL (k + rm'.cells) (n + rm'.slots) (wr ++ w1) lc (pc + 3) (vI ev :: st)) : jW X nL k n (M0 ++ PL) lc pc stk :=
  j_callSi C (isC ++ List.range' M0.length PL.length) isR hM (by rw [List.map_append, hd_map PL hC, tl_map, List.map_append]) (hd_map PL hR0) (va_nd_app hnC (va_nd_range _ _) (fun i hi q => by have := ix_lt hC i hi; have := List.mem_range'_1.mp q; omega)) hnR (fun i hi z => by rcases List.mem_append.mp z with q | q; { exact hdis i hi q }; { have := ix_lt hR0 i hi; have := List.mem_range'_1.mp q; omega }) hw g hd0 hRm hstk hna hcat hroom hd kk

theorem j_tailSiX {M0 PL : va_W} {stk As : List Value} {y : MethodName} {wl wl' : List Cond} {rm' : Room} {post : Int → va_W → Prop} {bytes : ByteArray} {maxL index na : Nat} (C : jC X cc nL own Ts rm D Y RO) (isC isR : List Nat) {wc wr : va_W} {b L : Nat} {xs : Nat → Int32} (hSc : jSc X b L xs) (hM : ∀ l, jMiX l y wl rm' D Y (wr ++ RO) b L xs As (wc ++ PL) post) (hC : isC.map (fun i => M0[i]?) = wc.map some) (hR0 : isR.map (fun i => M0[i]?) = wr.map some) (hnC : va_nd isC = true) (hnR : va_nd isR = true) (hdis : ∀ i ∈ isR, i ∉ isC) {ret : Option FieldType} (hw : wl = Cond.code y bytes maxL ret :: wl') (g : GoodIn Ts (va_wsS own index y wl)) (hd0 : y.cls ≠ "java/lang/invoke/MethodHandle" ∧ y.cls ≠ "java/lang/invoke/VarHandle" ∧ (parseMethodDescriptor y.desc).map (fun d => d.parameters.length) = some na) (hRm : rm'.frames + 1 ≤ rm.frames ∧ 8 + (maxL + 11) + rm'.locals ≤ rm.locals) (hstk : stk = As.reverse ++ st) (hna : As.length = na) (hcat : (st.map fun v => v.category).sum ≤ 8) (hroom : k + rm'.cells ≤ rm.cells ∧ n + rm'.slots ≤ rm.slots) (hd : decode cc pc = .ok (.invokestatic index, 3)) (kk : ∀ (ev : Int) (w1 : va_W), post ev w1 → jW X nL (k + rm'.cells) (n + rm'.slots) (wr ++ w1) lc (pc + 3) (vI ev :: st)) : jW X nL k n (M0 ++ PL) lc pc stk :=
  j_callSiX C (isC ++ List.range' M0.length PL.length) isR hSc hM (by rw [List.map_append, hd_map PL hC, tl_map, List.map_append]) (hd_map PL hR0) (va_nd_app hnC (va_nd_range _ _) (fun i hi q => by have := ix_lt hC i hi; have := List.mem_range'_1.mp q; omega)) hnR (fun i hi z => by rcases List.mem_append.mp z with q | q; { exact hdis i hi q }; { have := ix_lt hR0 i hi; have := List.mem_range'_1.mp q; omega }) hw g hd0 hRm hstk hna hcat hroom hd kk
end J34C
