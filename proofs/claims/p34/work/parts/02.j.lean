/-! J: the walk over whole numbers (Int): values, worlds, the judgement jW and its rows -/
/-- an int, a long on the stack, by a whole number -/
def vI (e : Int) : Value := .int (Int32.ofInt e)
def vL (e : Int) : Value := .long (Int64.ofInt e)
/-- a row of ints (bytes), of references; an object -/
def aI (cA : ClassId) (n : Nat) (g : Int → Int) : va_E := .inl (cA, n, .inl (fun k : Nat => Int32.ofInt (g (k : Int))))
def aQ (cA : ClassId) (n : Nat) (g : Int → Option Nat) : va_E := .inl (cA, n, .inr (.inr (.inr (.inr (fun k : Nat => g (k : Int))))))
abbrev oC (ci : Nat) (fs : List Value) : va_E := .inr (ci, fs)
def up {α : Type} (g : Int → α) (i : Int) (x : α) : Int → α := fun j => if j = i then x else g j
theorem up_same {α : Type} (g : Int → α) (i : Int) (x : α) : up g i x i = x := if_pos rfl
theorem up_ne {α : Type} (g : Int → α) (i j : Int) (x : α) (h : j ≠ i) : up g i x j = g j := if_neg h
theorem up_eq {α : Type} (g : Int → α) (i j : Int) (x : α) : up g i x j = if j = i then x else g j := rfl
-- numbers
theorem nj_eq {a b : Int} (h : (-2147483648 ≤ a ∧ a ≤ 2147483647) ∧ (-2147483648 ≤ b ∧ b ≤ 2147483647)) : Int32.ofInt a = Int32.ofInt b ↔ a = b := by
  refine ⟨fun e => ?_, fun e => by rw [e]⟩
  have h1 := congrArg Int32.toInt e
  rwa [Int32.toInt_ofInt_of_le (by omega) (by omega), Int32.toInt_ofInt_of_le (by omega) (by omega)] at h1
theorem nj_lt {a b : Int} (h : (-2147483648 ≤ a ∧ a ≤ 2147483647) ∧ (-2147483648 ≤ b ∧ b ≤ 2147483647)) : Int32.ofInt a < Int32.ofInt b ↔ a < b := by
  rw [Int32.lt_iff_toInt_lt, Int32.toInt_ofInt_of_le (by omega) (by omega), Int32.toInt_ofInt_of_le (by omega) (by omega)]
theorem nj_le {a b : Int} (h : (-2147483648 ≤ a ∧ a ≤ 2147483647) ∧ (-2147483648 ≤ b ∧ b ≤ 2147483647)) : Int32.ofInt a ≤ Int32.ofInt b ↔ a ≤ b := by
  rw [Int32.le_iff_toInt_le, Int32.toInt_ofInt_of_le (by omega) (by omega), Int32.toInt_ofInt_of_le (by omega) (by omega)]
theorem nj_z : (0 : Int32) = Int32.ofInt 0 := rfl
theorem nj_cl {i : Int} (h : 0 ≤ i ∧ i ≤ 2147483647) : (Int32.ofInt i).toNatClampNeg = i.toNat := Int32.toNatClampNeg_ofInt_of_le (by omega) (by omega)
theorem nj_in {i : Int} {n : Nat} (h : 0 ≤ i ∧ i < (n : Int)) (hn : n < 2147483648) : vp_in (Int32.ofInt i) n := by
  intro q
  rcases q with q | q
  · rw [nj_z, nj_lt (by omega)] at q
    omega
  · rw [nj_cl (by omega)] at q
    omega
theorem nj_to {i : Int} (h : 0 ≤ i ∧ i ≤ 2147483647) : ((Int32.ofInt i).toNatClampNeg : Int) = i := by
  rw [nj_cl h]; omega
theorem nj_up {g : Int → Int} {i x : Int} (h : 0 ≤ i ∧ i ≤ 2147483647) : upd (fun k : Nat => Int32.ofInt (g (k : Int))) (Int32.ofInt i).toNatClampNeg (Int32.ofInt x) = fun k : Nat => Int32.ofInt (up g i x (k : Int)) := by
  funext k
  have h1 := nj_to h
  unfold upd up
  by_cases hk : k = (Int32.ofInt i).toNatClampNeg
  · rw [if_pos hk, if_pos (by omega)]
  · rw [if_neg hk, if_neg (by omega)]
theorem nj_upq {g : Int → Option Nat} {i : Int} {x : Option Nat} (h : 0 ≤ i ∧ i ≤ 2147483647) : va_up (fun k : Nat => g (k : Int)) (Int32.ofInt i).toNatClampNeg x = fun k : Nat => up g i x (k : Int) := by
  funext k
  have h1 := nj_to h
  unfold va_up up
  by_cases hk : k = (Int32.ofInt i).toNatClampNeg
  · rw [if_pos hk, if_pos (by omega)]
  · rw [if_neg hk, if_neg (by omega)]
-- the tables' facts that are no words of a method: private nest mates, casts, rows of references
def jN (U : State) : Prop := (va_Nw (.methodLinkNest RX2 43 yX9_isCairn "KneelingStones") U ∧ va_Nw (.methodLinkNest RX9 11 yX4_init "KneelingStones") U ∧ va_Nw (.methodLinkNest RX9 30 yX2_init "KneelingStones") U ∧ va_Nw (.methodLinkNest RX9 47 yX8_init "KneelingStones") U) ∧ (va_AO RX1 U ∧ va_AO RX5 U) ∧ (True ∧ va_Nw (.castable RX6 RX5) U ∧ va_Nw (.castable RX7 RX5) U ∧ va_Nw (.castable RX0 RX5) U) ∧ True
theorem jN.warm {s U : State} (hW : s.WarmedH U.vm) (h : jN s) : jN U := by
  obtain ⟨⟨a1, a2, a3, a4⟩, ⟨b1, b2⟩, ⟨_, c2, c3, c4⟩, _⟩ := h
  exact ⟨⟨a1.warmM hW, a2.warmM hW, a3.warmM hW, a4.warmM hW⟩, ⟨b1.moved hW.alike, b2.moved hW.alike⟩, ⟨trivial, c2.warmC hW, c3.warmC hW, c4.warmC hW⟩, trivial⟩
theorem jN.same {s U : State} (hW : s.vm = U.vm) (h : jN s) : jN U := by
  obtain ⟨⟨a1, a2, a3, a4⟩, ⟨b1, b2⟩, ⟨_, c2, c3, c4⟩, _⟩ := h
  have hA : s.vm.Alike U.vm := hW ▸ Vm.Alike.refl _
  exact ⟨⟨a1.same rfl hW, a2.same rfl hW, a3.same rfl hW, a4.same rfl hW⟩, ⟨b1.moved hA, b2.moved hA⟩, ⟨trivial, c2.same rfl hW, c3.same rfl hW, c4.same rfl hW⟩, trivial⟩
/-- the rows' classes: of ints, of longs, of customs, of parishes -/
def jT (Y : Nat → ClassId) : List (ClassId × FieldType) := [(Y 0, .int), (Y 1, .long), (Y 2, .object RX1), (Y 3, .object RX5)]
def andI (a b : Int) : Int := (Int32.ofInt a &&& Int32.ofInt b).toInt
def orI (a b : Int) : Int := (Int32.ofInt a ||| Int32.ofInt b).toInt
def shlI (a b : Int) : Int := (Int32.ofInt a <<< (Int32.ofInt b &&& 31)).toInt
def shrI (a b : Int) : Int := (Int32.ofInt a >>> (Int32.ofInt b &&& 31)).toInt
def i2bI (a : Int) : Int := (Int32.ofInt a).toInt8.toInt32.toInt
def landI (a b : Int) : Int := (Int64.ofInt a &&& Int64.ofInt b).toInt
def lorI (a b : Int) : Int := (Int64.ofInt a ||| Int64.ofInt b).toInt
def lushrI (a b : Int) : Int := (((Int64.ofInt a).toUInt64 >>> ((Int32.ofInt b).toInt64.toUInt64 &&& Int64.toUInt64 63)).toInt64).toInt
def lshrI (a b : Int) : Int := (Int64.ofInt a >>> ((Int32.ofInt b).toInt64 &&& 63)).toInt
def lshlI (a b : Int) : Int := (Int64.ofInt a <<< ((Int32.ofInt b).toInt64 &&& 63)).toInt
def cmpI (a b : Int) : Int := if a < b then -1 else if a = b then 0 else 1
theorem nj_nz32 {b : Int} (h : 0 < b ∧ b ≤ 2147483647) : ¬ Int32.ofInt b = 0 := by
  rw [nj_z, nj_eq (by omega)]; omega
theorem nj_nz64 {b : Int} (h : 0 < b ∧ b ≤ 9223372036854775807) : ¬ Int64.ofInt b = 0 := by
  intro e
  have h1 := congrArg Int64.toInt e
  rw [Int64.toInt_ofInt_of_le (by omega) (by omega)] at h1
  have h2 : (0 : Int64).toInt = 0 := rfl
  omega
theorem nj_div {a b : Int} (h : 0 ≤ a ∧ a ≤ 2147483647 ∧ 0 < b ∧ b ≤ 2147483647) : Int32.ofInt a / Int32.ofInt b = Int32.ofInt (a / b) := by
  rw [← Int32.ofInt_tdiv (show Int32.minValue.toInt ≤ a by have : Int32.minValue.toInt = -2147483648 := rfl; omega) (show a ≤ Int32.maxValue.toInt by have : Int32.maxValue.toInt = 2147483647 := rfl; omega) (show Int32.minValue.toInt ≤ b by have : Int32.minValue.toInt = -2147483648 := rfl; omega) (show b ≤ Int32.maxValue.toInt by have : Int32.maxValue.toInt = 2147483647 := rfl; omega), Int.tdiv_eq_ediv_of_nonneg h.1]
theorem nj_rem {a b : Int} (h : 0 ≤ a ∧ a ≤ 2147483647 ∧ 0 < b ∧ b ≤ 2147483647) : Int32.ofInt a - Int32.ofInt a / Int32.ofInt b * Int32.ofInt b = Int32.ofInt (a % b) := by
  rw [nj_div h, ← Int32.ofInt_mul, ← Int32.ofInt_sub, Int.emod_def, Int.mul_comm b]
theorem nj_ldiv {a b : Int} (h : 0 ≤ a ∧ a ≤ 9223372036854775807 ∧ 0 < b ∧ b ≤ 9223372036854775807) : Int64.ofInt a / Int64.ofInt b = Int64.ofInt (a / b) := by
  rw [← Int64.ofInt_tdiv (show Int64.minValue.toInt ≤ a by have : Int64.minValue.toInt = -9223372036854775808 := rfl; omega) (show a ≤ Int64.maxValue.toInt by have : Int64.maxValue.toInt = 9223372036854775807 := rfl; omega) (show Int64.minValue.toInt ≤ b by have : Int64.minValue.toInt = -9223372036854775808 := rfl; omega) (show b ≤ Int64.maxValue.toInt by have : Int64.maxValue.toInt = 9223372036854775807 := rfl; omega), Int.tdiv_eq_ediv_of_nonneg h.1]
theorem nj_lrem {a b : Int} (h : 0 ≤ a ∧ a ≤ 9223372036854775807 ∧ 0 < b ∧ b ≤ 9223372036854775807) : Int64.ofInt a - Int64.ofInt a / Int64.ofInt b * Int64.ofInt b = Int64.ofInt (a % b) := by
  rw [nj_ldiv h, ← Int64.ofInt_mul, ← Int64.ofInt_sub, Int.emod_def, Int.mul_comm b]
theorem nj_i2l {a : Int} (h : -2147483648 ≤ a ∧ a ≤ 2147483647) : (Int32.ofInt a).toInt64 = Int64.ofInt a := Int32.toInt64_ofInt (by have : Int32.minValue.toInt = -2147483648 := rfl; omega) (by have : Int32.maxValue.toInt = 2147483647 := rfl; omega)
theorem nj_cmp {a b : Int} (h : (-9223372036854775808 ≤ a ∧ a ≤ 9223372036854775807) ∧ (-9223372036854775808 ≤ b ∧ b ≤ 9223372036854775807)) : lg_cmp (Int64.ofInt a) (Int64.ofInt b) = Int32.ofInt (cmpI a b) := by
  have ea : (Int64.ofInt a).toInt = a := Int64.toInt_ofInt_of_le (by omega) (by omega)
  have eb : (Int64.ofInt b).toInt = b := Int64.toInt_ofInt_of_le (by omega) (by omega)
  have h2 : (Int64.ofInt a = Int64.ofInt b) ↔ a = b := by rw [← Int64.toInt_inj, ea, eb]
  have h3 : (Int64.ofInt b < Int64.ofInt a) ↔ b < a := by rw [Int64.lt_iff_toInt_lt, ea, eb]
  unfold lg_cmp cmpI
  simp only [gt_iff_lt, h2, h3]
  by_cases c1 : b < a
  · rw [if_pos c1, if_neg (by omega), if_neg (by omega)]; rfl
  · by_cases c2 : a = b
    · rw [if_neg c1, if_pos c2, if_neg (by omega), if_pos c2]; rfl
    · rw [if_neg c1, if_neg c2, if_pos (by omega)]; rfl
theorem nj_eqT {a b : Int} (hr : (-2147483648 ≤ a ∧ a ≤ 2147483647) ∧ (-2147483648 ≤ b ∧ b ≤ 2147483647)) (h : Int32.ofInt a = Int32.ofInt b) : a = b := (nj_eq hr).mp h
theorem nj_eqF {a b : Int} (hr : (-2147483648 ≤ a ∧ a ≤ 2147483647) ∧ (-2147483648 ≤ b ∧ b ≤ 2147483647)) (h : ¬ Int32.ofInt a = Int32.ofInt b) : ¬ a = b := fun q => h ((nj_eq hr).mpr q)
theorem nj_neT {a b : Int} (hr : (-2147483648 ≤ a ∧ a ≤ 2147483647) ∧ (-2147483648 ≤ b ∧ b ≤ 2147483647)) (h : ¬ Int32.ofInt a = Int32.ofInt b) : ¬ a = b := fun q => h ((nj_eq hr).mpr q)
theorem nj_neF {a b : Int} (hr : (-2147483648 ≤ a ∧ a ≤ 2147483647) ∧ (-2147483648 ≤ b ∧ b ≤ 2147483647)) (h : Int32.ofInt a = Int32.ofInt b) : a = b := (nj_eq hr).mp h
theorem nj_ltT {a b : Int} (hr : (-2147483648 ≤ a ∧ a ≤ 2147483647) ∧ (-2147483648 ≤ b ∧ b ≤ 2147483647)) (h : Int32.ofInt a < Int32.ofInt b) : a < b := (nj_lt hr).mp h
theorem nj_ltF {a b : Int} (hr : (-2147483648 ≤ a ∧ a ≤ 2147483647) ∧ (-2147483648 ≤ b ∧ b ≤ 2147483647)) (h : ¬ Int32.ofInt a < Int32.ofInt b) : b ≤ a := by rw [nj_lt hr] at h; omega
theorem nj_geT {a b : Int} (hr : (-2147483648 ≤ a ∧ a ≤ 2147483647) ∧ (-2147483648 ≤ b ∧ b ≤ 2147483647)) (h : Int32.ofInt b ≤ Int32.ofInt a) : b ≤ a := (nj_le hr.symm).mp h
theorem nj_geF {a b : Int} (hr : (-2147483648 ≤ a ∧ a ≤ 2147483647) ∧ (-2147483648 ≤ b ∧ b ≤ 2147483647)) (h : ¬ Int32.ofInt b ≤ Int32.ofInt a) : a < b := by rw [nj_le hr.symm] at h; omega
theorem nj_gtT {a b : Int} (hr : (-2147483648 ≤ a ∧ a ≤ 2147483647) ∧ (-2147483648 ≤ b ∧ b ≤ 2147483647)) (h : Int32.ofInt b < Int32.ofInt a) : b < a := (nj_lt hr.symm).mp h
theorem nj_gtF {a b : Int} (hr : (-2147483648 ≤ a ∧ a ≤ 2147483647) ∧ (-2147483648 ≤ b ∧ b ≤ 2147483647)) (h : ¬ Int32.ofInt b < Int32.ofInt a) : a ≤ b := by rw [nj_lt hr.symm] at h; omega
theorem nj_leT {a b : Int} (hr : (-2147483648 ≤ a ∧ a ≤ 2147483647) ∧ (-2147483648 ≤ b ∧ b ≤ 2147483647)) (h : Int32.ofInt a ≤ Int32.ofInt b) : a ≤ b := (nj_le hr).mp h
theorem nj_leF {a b : Int} (hr : (-2147483648 ≤ a ∧ a ≤ 2147483647) ∧ (-2147483648 ≤ b ∧ b ≤ 2147483647)) (h : ¬ Int32.ofInt a ≤ Int32.ofInt b) : b < a := by rw [nj_le hr] at h; omega
theorem j_same {Ts : List Cond} {args : Array Value} {s : State} (hts : ∀ w ∈ Ts, w.before args s = true) {T : u_T} {kf : Nat} {ref : String} (h : (T kf).1 = ref ∨ Cond.sameField ref (T kf).1 (T kf).2.1 (T kf).2.2.1 ∈ Ts) : ∀ x, s.fieldFound? (T kf).1 (T kf).2.1 (T kf).2.2.1 = some x → s.fieldFound? ref (T kf).2.1 (T kf).2.2.1 = some x := by
  rcases h with h | h
  · intro x hx; rw [← h]; exact hx
  · exact fun x9 h9 => u_same (hts _ h) x9 h9
/-- all that stays while a method is walked -/
abbrev jX : Type := Program × Launch × Env × Room × State × MethodId × Array Value × List Frame × Method × Code × (State → Prop) × va_G × (Nat → ClassId) × (Nat → Prop) × Heap × va_W
/-- the frame of a walk: code, locals, class, words, room, numbers of the classes, cells that are only read -/
def jC (X : jX) (cc : ByteArray) (nL : Nat) (own : String) (Ts : List Cond) (rm : Room) (D : va_G) (Y : Nat → ClassId) (RO : va_W) : Prop := match X with
  | (p, l, e, R, s, m, args, below, meth, c, Q, D', Y', A, H0, RO') => (p.tables.exec = Jvm.exec ∧ c.code = cc ∧ c.maxLocals = nL ∧ s.vm.findClass own = some m.cls ∧ ∀ w ∈ Ts, w.before args s = true) ∧ va_K D vwCl (jT Y) s ∧ (∀ q : Nat, H0.size ≤ q → A q) ∧ (R = rm ∧ D' = D ∧ Y' = Y ∧ RO' = RO) ∧ va_P D vwCl RO H0 ∧ (∀ q ∈ RO, ¬ A q.1) ∧ jN s
/-- from any heap that holds the world, with these locals, at this place, with this stack, the machine comes to the end -/
def jW (X : jX) (nL k n : Nat) (ws : va_W) (lc : List (Nat × Value)) (pc : Nat) (st : List Value) : Prop := match X with
  | (p, l, e, R, s, m, args, below, meth, c, Q, D, _, A, H0, _) => ∀ (H : Heap) (locs : List Loc) (ls : Array Slot), va_P D vwCl ws H → va_D A ws → va_S A H0 H locs → lv_has ls nL lc → W p l e R s m args below meth c H locs k n Q (F0 m pc ls st)
theorem va_at_lt {D : va_G} {q : Nat × va_E} {H : Heap} (h : va_at D vwCl q H) : q.1 < H.size := va_at.lt h
/-- a cell that is there: of the world, or only read -/
theorem j_cell {D : va_G} {ws RO : va_W} {A : Nat → Prop} {H0 H : Heap} {locs : List Loc} {q : Nat × va_E} (hq : q ∈ ws ∨ q ∈ RO) (hP : va_P D vwCl ws H) (hR : va_P D vwCl RO H0) (hRA : ∀ q ∈ RO, ¬ A q.1) (hS : va_S A H0 H locs) : va_P D vwCl [q] H := by
  have hat : va_at D vwCl q H := by
    rcases hq with hq | hq
    · obtain ⟨k, hk⟩ := List.mem_iff_getElem?.mp hq
      exact hP k q hk
    · obtain ⟨k, hk⟩ := List.mem_iff_getElem?.mp hq
      have h0 := hR k q hk
      exact h0.kept (hS.2.1 q.1 h0.lt (hRA q hq))
  intro k r hr
  cases k with
  | zero => cases hr; exact hat
  | succ k => simp at hr
section JROWS
variable {X : jX} {cc : ByteArray} {nL : Nat} {own : String} {Ts : List Cond} {rm : Room} {D : va_G} {Y : Nat → ClassId} {RO : va_W} {k n : Nat} {ws : va_W} {lc : List (Nat × Value)} {pc : Nat} {st : List Value}
theorem j_iconst (C : jC X cc nL own Ts rm D Y RO) {v : Int} (hd : decode cc pc = .ok (.iconst v, 1)) (kk : jW X nL k n ws lc (pc + 1) (vI v :: st)) : jW X nL k n ws lc pc st := by
  obtain ⟨p, l, e, R, s, m, args, below, meth, c, Q, D', Y', A, H0, RO'⟩ := X
  obtain ⟨⟨hx, hb, hml, hown, hts⟩, hK, hA, ⟨rfl, rfl, rfl, rfl⟩, hR, hRA, hN⟩ := C
  intro H locs ls hP hD hS hl
  exact lv_iconst hx hb hd rfl (kk H locs ls hP hD hS hl)
theorem j_bipush (C : jC X cc nL own Ts rm D Y RO) {v w : Int} (hv : (Int8.ofInt v).toInt32 = Int32.ofInt w) (hd : decode cc pc = .ok (.bipush v, 2)) (kk : jW X nL k n ws lc (pc + 2) (vI w :: st)) : jW X nL k n ws lc pc st := by
  obtain ⟨p, l, e, R, s, m, args, below, meth, c, Q, D', Y', A, H0, RO'⟩ := X
  obtain ⟨⟨hx, hb, hml, hown, hts⟩, hK, hA, ⟨rfl, rfl, rfl, rfl⟩, hR, hRA, hN⟩ := C
  intro H locs ls hP hD hS hl
  exact lv_bipush hx hb hd hv (kk H locs ls hP hD hS hl)
theorem j_sipush (C : jC X cc nL own Ts rm D Y RO) {v w : Int} (hv : (Int16.ofInt v).toInt32 = Int32.ofInt w) (hd : decode cc pc = .ok (.sipush v, 3)) (kk : jW X nL k n ws lc (pc + 3) (vI w :: st)) : jW X nL k n ws lc pc st := by
  obtain ⟨p, l, e, R, s, m, args, below, meth, c, Q, D', Y', A, H0, RO'⟩ := X
  obtain ⟨⟨hx, hb, hml, hown, hts⟩, hK, hA, ⟨rfl, rfl, rfl, rfl⟩, hR, hRA, hN⟩ := C
  intro H locs ls hP hD hS hl
  exact lv_sipush hx hb hd hv (kk H locs ls hP hD hS hl)
theorem j_lconst (C : jC X cc nL own Ts rm D Y RO) {f : Fin 2} {w : Int} (hv : Int64.ofNat (f : Nat) = Int64.ofInt w) (hd : decode cc pc = .ok (.lconst f, 1)) (kk : jW X nL k n ws lc (pc + 1) (vL w :: st)) : jW X nL k n ws lc pc st := by
  obtain ⟨p, l, e, R, s, m, args, below, meth, c, Q, D', Y', A, H0, RO'⟩ := X
  obtain ⟨⟨hx, hb, hml, hown, hts⟩, hK, hA, ⟨rfl, rfl, rfl, rfl⟩, hR, hRA, hN⟩ := C
  intro H locs ls hP hD hS hl
  exact lv_lconst hx hb hd hv (kk H locs ls hP hD hS hl)
theorem j_ldc (C : jC X cc nL own Ts rm D Y RO) {index : Nat} {w : Int} (hc : Cond.constant own index (Int32.ofInt w) ∈ Ts) (hd : decode cc pc = .ok (.ldc index, 2)) (kk : jW X nL k n ws lc (pc + 2) (vI w :: st)) : jW X nL k n ws lc pc st := by
  obtain ⟨p, l, e, R, s, m, args, below, meth, c, Q, D', Y', A, H0, RO'⟩ := X
  obtain ⟨⟨hx, hb, hml, hown, hts⟩, hK, hA, ⟨rfl, rfl, rfl, rfl⟩, hR, hRA, hN⟩ := C
  intro H locs ls hP hD hS hl
  exact lv_ldc hx hb hown (hts _ hc) hd (kk H locs ls hP hD hS hl)
theorem j_ldc2 (C : jC X cc nL own Ts rm D Y RO) {index : Nat} {w : Int} (hc : Cond.constantLong own index (Int64.ofInt w) ∈ Ts) (hd : decode cc pc = .ok (.ldc2_w index, 3)) (kk : jW X nL k n ws lc (pc + 3) (vL w :: st)) : jW X nL k n ws lc pc st := by
  obtain ⟨p, l, e, R, s, m, args, below, meth, c, Q, D', Y', A, H0, RO'⟩ := X
  obtain ⟨⟨hx, hb, hml, hown, hts⟩, hK, hA, ⟨rfl, rfl, rfl, rfl⟩, hR, hRA, hN⟩ := C
  intro H locs ls hP hD hS hl
  exact lv_ldc2 hx hb hown (hts _ hc) hd (kk H locs ls hP hD hS hl)
theorem j_null (C : jC X cc nL own Ts rm D Y RO)  (hd : decode cc pc = .ok (.aconst_null, 1)) (kk : jW X nL k n ws lc (pc + 1) (.null :: st)) : jW X nL k n ws lc pc st := by
  obtain ⟨p, l, e, R, s, m, args, below, meth, c, Q, D', Y', A, H0, RO'⟩ := X
  obtain ⟨⟨hx, hb, hml, hown, hts⟩, hK, hA, ⟨rfl, rfl, rfl, rfl⟩, hR, hRA, hN⟩ := C
  intro H locs ls hP hD hS hl
  exact lv_null hx hb hd (kk H locs ls hP hD hS hl)
theorem j_iload_n (C : jC X cc nL own Ts rm D Y RO) {a : Int} {f : Fin 4} (i q : Nat) (hi : (f : Nat) = i) (hq : lc[q]? = some (i, (vI a))) (hd : decode cc pc = .ok (.iload_n f, 1)) (kk : jW X nL k n ws lc (pc + 1) ((vI a) :: st)) : jW X nL k n ws lc pc st := by
  obtain ⟨p, l, e, R, s, m, args, below, meth, c, Q, D', Y', A, H0, RO'⟩ := X
  obtain ⟨⟨hx, hb, hml, hown, hts⟩, hK, hA, ⟨rfl, rfl, rfl, rfl⟩, hR, hRA, hN⟩ := C
  intro H locs ls hP hD hS hl
  exact lv_iload_n hx hb hd hi (lv_at hl q hq) (kk H locs ls hP hD hS hl)
theorem j_iload (C : jC X cc nL own Ts rm D Y RO) {a : Int} {i : Nat} (q : Nat) (hq : lc[q]? = some (i, (vI a))) (hd : decode cc pc = .ok (.iload i, 2)) (kk : jW X nL k n ws lc (pc + 2) ((vI a) :: st)) : jW X nL k n ws lc pc st := by
  obtain ⟨p, l, e, R, s, m, args, below, meth, c, Q, D', Y', A, H0, RO'⟩ := X
  obtain ⟨⟨hx, hb, hml, hown, hts⟩, hK, hA, ⟨rfl, rfl, rfl, rfl⟩, hR, hRA, hN⟩ := C
  intro H locs ls hP hD hS hl
  exact lv_iload hx hb hd (lv_at hl q hq) (kk H locs ls hP hD hS hl)
theorem j_lload_n (C : jC X cc nL own Ts rm D Y RO) {a : Int} {f : Fin 4} (i q : Nat) (hi : (f : Nat) = i) (hq : lc[q]? = some (i, (vL a))) (hd : decode cc pc = .ok (.lload_n f, 1)) (kk : jW X nL k n ws lc (pc + 1) ((vL a) :: st)) : jW X nL k n ws lc pc st := by
  obtain ⟨p, l, e, R, s, m, args, below, meth, c, Q, D', Y', A, H0, RO'⟩ := X
  obtain ⟨⟨hx, hb, hml, hown, hts⟩, hK, hA, ⟨rfl, rfl, rfl, rfl⟩, hR, hRA, hN⟩ := C
  intro H locs ls hP hD hS hl
  exact lv_lload_n hx hb hd hi (lv_at hl q hq) (kk H locs ls hP hD hS hl)
theorem j_lload (C : jC X cc nL own Ts rm D Y RO) {a : Int} {i : Nat} (q : Nat) (hq : lc[q]? = some (i, (vL a))) (hd : decode cc pc = .ok (.lload i, 2)) (kk : jW X nL k n ws lc (pc + 2) ((vL a) :: st)) : jW X nL k n ws lc pc st := by
  obtain ⟨p, l, e, R, s, m, args, below, meth, c, Q, D', Y', A, H0, RO'⟩ := X
  obtain ⟨⟨hx, hb, hml, hown, hts⟩, hK, hA, ⟨rfl, rfl, rfl, rfl⟩, hR, hRA, hN⟩ := C
  intro H locs ls hP hD hS hl
  exact lv_lload hx hb hd (lv_at hl q hq) (kk H locs ls hP hD hS hl)
theorem j_aload_n (C : jC X cc nL own Ts rm D Y RO) {a : Nat} {f : Fin 4} (i q : Nat) (hi : (f : Nat) = i) (hq : lc[q]? = some (i, (.ref a))) (hd : decode cc pc = .ok (.aload_n f, 1)) (kk : jW X nL k n ws lc (pc + 1) ((.ref a) :: st)) : jW X nL k n ws lc pc st := by
  obtain ⟨p, l, e, R, s, m, args, below, meth, c, Q, D', Y', A, H0, RO'⟩ := X
  obtain ⟨⟨hx, hb, hml, hown, hts⟩, hK, hA, ⟨rfl, rfl, rfl, rfl⟩, hR, hRA, hN⟩ := C
  intro H locs ls hP hD hS hl
  exact lv_aload_n hx hb hd hi (lv_at hl q hq) (kk H locs ls hP hD hS hl)
theorem j_aload (C : jC X cc nL own Ts rm D Y RO) {a : Nat} {i : Nat} (q : Nat) (hq : lc[q]? = some (i, (.ref a))) (hd : decode cc pc = .ok (.aload i, 2)) (kk : jW X nL k n ws lc (pc + 2) ((.ref a) :: st)) : jW X nL k n ws lc pc st := by
  obtain ⟨p, l, e, R, s, m, args, below, meth, c, Q, D', Y', A, H0, RO'⟩ := X
  obtain ⟨⟨hx, hb, hml, hown, hts⟩, hK, hA, ⟨rfl, rfl, rfl, rfl⟩, hR, hRA, hN⟩ := C
  intro H locs ls hP hD hS hl
  exact lv_aload hx hb hd (lv_at hl q hq) (kk H locs ls hP hD hS hl)
theorem j_aload_nN (C : jC X cc nL own Ts rm D Y RO) {f : Fin 4} (i q : Nat) (hi : (f : Nat) = i) (hq : lc[q]? = some (i, .null)) (hd : decode cc pc = .ok (.aload_n f, 1)) (kk : jW X nL k n ws lc (pc + 1) (.null :: st)) : jW X nL k n ws lc pc st := by
  obtain ⟨p, l, e, R, s, m, args, below, meth, c, Q, D', Y', A, H0, RO'⟩ := X
  obtain ⟨⟨hx, hb, hml, hown, hts⟩, hK, hA, ⟨rfl, rfl, rfl, rfl⟩, hR, hRA, hN⟩ := C
  intro H locs ls hP hD hS hl
  exact lv_aload_nN hx hb hd hi (lv_at hl q hq) (kk H locs ls hP hD hS hl)
theorem j_aloadN (C : jC X cc nL own Ts rm D Y RO) {i : Nat} (q : Nat) (hq : lc[q]? = some (i, .null)) (hd : decode cc pc = .ok (.aload i, 2)) (kk : jW X nL k n ws lc (pc + 2) (.null :: st)) : jW X nL k n ws lc pc st := by
  obtain ⟨p, l, e, R, s, m, args, below, meth, c, Q, D', Y', A, H0, RO'⟩ := X
  obtain ⟨⟨hx, hb, hml, hown, hts⟩, hK, hA, ⟨rfl, rfl, rfl, rfl⟩, hR, hRA, hN⟩ := C
  intro H locs ls hP hD hS hl
  exact lv_aloadN hx hb hd (lv_at hl q hq) (kk H locs ls hP hD hS hl)
theorem j_istore_n (C : jC X cc nL own Ts rm D Y RO) {a : Int} {f : Fin 4} {lc' : List (Nat × Value)} (i : Nat) (hi : (f : Nat) = i) (hn : i < nL) (hl' : (i, (vI a)) :: lc.filter (fun q => !(q.1 == i) && !(q.1 + 1 == i && q.2.category == 2)) = lc') (hd : decode cc pc = .ok (.istore_n f, 1)) (kk : jW X nL k n ws lc' (pc + 1) st) : jW X nL k n ws lc pc ((vI a) :: st) := by
  obtain ⟨p, l, e, R, s, m, args, below, meth, c, Q, D', Y', A, H0, RO'⟩ := X
  obtain ⟨⟨hx, hb, hml, hown, hts⟩, hK, hA, ⟨rfl, rfl, rfl, rfl⟩, hR, hRA, hN⟩ := C
  intro H locs ls hP hD hS hl
  exact lv_istore_n hx hb hd hi hl hn hl' (fun ls hl => kk H locs ls hP hD hS hl)
theorem j_istore (C : jC X cc nL own Ts rm D Y RO) {a : Int} {i : Nat} {lc' : List (Nat × Value)} (hn : i < nL) (hl' : (i, (vI a)) :: lc.filter (fun q => !(q.1 == i) && !(q.1 + 1 == i && q.2.category == 2)) = lc') (hd : decode cc pc = .ok (.istore i, 2)) (kk : jW X nL k n ws lc' (pc + 2) st) : jW X nL k n ws lc pc ((vI a) :: st) := by
  obtain ⟨p, l, e, R, s, m, args, below, meth, c, Q, D', Y', A, H0, RO'⟩ := X
  obtain ⟨⟨hx, hb, hml, hown, hts⟩, hK, hA, ⟨rfl, rfl, rfl, rfl⟩, hR, hRA, hN⟩ := C
  intro H locs ls hP hD hS hl
  exact lv_istore hx hb hd hl hn hl' (fun ls hl => kk H locs ls hP hD hS hl)
theorem j_astore_n (C : jC X cc nL own Ts rm D Y RO) {a : Nat} {f : Fin 4} {lc' : List (Nat × Value)} (i : Nat) (hi : (f : Nat) = i) (hn : i < nL) (hl' : (i, (.ref a)) :: lc.filter (fun q => !(q.1 == i) && !(q.1 + 1 == i && q.2.category == 2)) = lc') (hd : decode cc pc = .ok (.astore_n f, 1)) (kk : jW X nL k n ws lc' (pc + 1) st) : jW X nL k n ws lc pc ((.ref a) :: st) := by
  obtain ⟨p, l, e, R, s, m, args, below, meth, c, Q, D', Y', A, H0, RO'⟩ := X
  obtain ⟨⟨hx, hb, hml, hown, hts⟩, hK, hA, ⟨rfl, rfl, rfl, rfl⟩, hR, hRA, hN⟩ := C
  intro H locs ls hP hD hS hl
  exact lv_astore_n hx hb hd hi hl hn hl' (fun ls hl => kk H locs ls hP hD hS hl)
theorem j_astore (C : jC X cc nL own Ts rm D Y RO) {a : Nat} {i : Nat} {lc' : List (Nat × Value)} (hn : i < nL) (hl' : (i, (.ref a)) :: lc.filter (fun q => !(q.1 == i) && !(q.1 + 1 == i && q.2.category == 2)) = lc') (hd : decode cc pc = .ok (.astore i, 2)) (kk : jW X nL k n ws lc' (pc + 2) st) : jW X nL k n ws lc pc ((.ref a) :: st) := by
  obtain ⟨p, l, e, R, s, m, args, below, meth, c, Q, D', Y', A, H0, RO'⟩ := X
  obtain ⟨⟨hx, hb, hml, hown, hts⟩, hK, hA, ⟨rfl, rfl, rfl, rfl⟩, hR, hRA, hN⟩ := C
  intro H locs ls hP hD hS hl
  exact lv_astore hx hb hd hl hn hl' (fun ls hl => kk H locs ls hP hD hS hl)
theorem j_lstore_n (C : jC X cc nL own Ts rm D Y RO) {a : Int} {f : Fin 4} {lc' : List (Nat × Value)} (i : Nat) (hi : (f : Nat) = i) (hn : i + 1 < nL) (hl' : (i, vL a) :: lc.filter (fun q => !(q.1 == i) && (!(q.1 == i + 1) && !(q.1 + 1 == i && q.2.category == 2))) = lc') (hd : decode cc pc = .ok (.lstore_n f, 1)) (kk : jW X nL k n ws lc' (pc + 1) st) : jW X nL k n ws lc pc (vL a :: st) := by
  obtain ⟨p, l, e, R, s, m, args, below, meth, c, Q, D', Y', A, H0, RO'⟩ := X
  obtain ⟨⟨hx, hb, hml, hown, hts⟩, hK, hA, ⟨rfl, rfl, rfl, rfl⟩, hR, hRA, hN⟩ := C
  intro H locs ls hP hD hS hl
  exact lv_lstore_n hx hb hd hi hl hn hl' (fun ls hl => kk H locs ls hP hD hS hl)
theorem j_lstore (C : jC X cc nL own Ts rm D Y RO) {a : Int} {lc' : List (Nat × Value)} {i : Nat} (hn : i + 1 < nL) (hl' : (i, vL a) :: lc.filter (fun q => !(q.1 == i) && (!(q.1 == i + 1) && !(q.1 + 1 == i && q.2.category == 2))) = lc') (hd : decode cc pc = .ok (.lstore i, 2)) (kk : jW X nL k n ws lc' (pc + 2) st) : jW X nL k n ws lc pc (vL a :: st) := by
  obtain ⟨p, l, e, R, s, m, args, below, meth, c, Q, D', Y', A, H0, RO'⟩ := X
  obtain ⟨⟨hx, hb, hml, hown, hts⟩, hK, hA, ⟨rfl, rfl, rfl, rfl⟩, hR, hRA, hN⟩ := C
  intro H locs ls hP hD hS hl
  exact lv_lstore hx hb hd hl hn hl' (fun ls hl => kk H locs ls hP hD hS hl)
theorem j_iadd (C : jC X cc nL own Ts rm D Y RO) {a b : Int} (hd : decode cc pc = .ok (.iadd, 1)) (kk : jW X nL k n ws lc (pc + 1) (vI (a + b) :: st)) : jW X nL k n ws lc pc (vI b :: vI a :: st) := by
  obtain ⟨p, l, e, R, s, m, args, below, meth, c, Q, D', Y', A, H0, RO'⟩ := X
  obtain ⟨⟨hx, hb, hml, hown, hts⟩, hK, hA, ⟨rfl, rfl, rfl, rfl⟩, hR, hRA, hN⟩ := C
  intro H locs ls hP hD hS hl
  exact lv_iadd hx hb hd (by rw [← Int32.ofInt_add]; exact (kk H locs ls hP hD hS hl))
theorem j_ladd (C : jC X cc nL own Ts rm D Y RO) {a b : Int} (hd : decode cc pc = .ok (.ladd, 1)) (kk : jW X nL k n ws lc (pc + 1) (vL (a + b) :: st)) : jW X nL k n ws lc pc (vL b :: vL a :: st) := by
  obtain ⟨p, l, e, R, s, m, args, below, meth, c, Q, D', Y', A, H0, RO'⟩ := X
  obtain ⟨⟨hx, hb, hml, hown, hts⟩, hK, hA, ⟨rfl, rfl, rfl, rfl⟩, hR, hRA, hN⟩ := C
  intro H locs ls hP hD hS hl
  exact lv_ladd hx hb hd (by rw [← Int64.ofInt_add]; exact (kk H locs ls hP hD hS hl))
theorem j_isub (C : jC X cc nL own Ts rm D Y RO) {a b : Int} (hd : decode cc pc = .ok (.isub, 1)) (kk : jW X nL k n ws lc (pc + 1) (vI (a - b) :: st)) : jW X nL k n ws lc pc (vI b :: vI a :: st) := by
  obtain ⟨p, l, e, R, s, m, args, below, meth, c, Q, D', Y', A, H0, RO'⟩ := X
  obtain ⟨⟨hx, hb, hml, hown, hts⟩, hK, hA, ⟨rfl, rfl, rfl, rfl⟩, hR, hRA, hN⟩ := C
  intro H locs ls hP hD hS hl
  exact lv_isub hx hb hd (by rw [← Int32.ofInt_sub]; exact (kk H locs ls hP hD hS hl))
theorem j_lsub (C : jC X cc nL own Ts rm D Y RO) {a b : Int} (hd : decode cc pc = .ok (.lsub, 1)) (kk : jW X nL k n ws lc (pc + 1) (vL (a - b) :: st)) : jW X nL k n ws lc pc (vL b :: vL a :: st) := by
  obtain ⟨p, l, e, R, s, m, args, below, meth, c, Q, D', Y', A, H0, RO'⟩ := X
  obtain ⟨⟨hx, hb, hml, hown, hts⟩, hK, hA, ⟨rfl, rfl, rfl, rfl⟩, hR, hRA, hN⟩ := C
  intro H locs ls hP hD hS hl
  exact lv_lsub hx hb hd (by rw [← Int64.ofInt_sub]; exact (kk H locs ls hP hD hS hl))
theorem j_imul (C : jC X cc nL own Ts rm D Y RO) {a b : Int} (hd : decode cc pc = .ok (.imul, 1)) (kk : jW X nL k n ws lc (pc + 1) (vI (a * b) :: st)) : jW X nL k n ws lc pc (vI b :: vI a :: st) := by
  obtain ⟨p, l, e, R, s, m, args, below, meth, c, Q, D', Y', A, H0, RO'⟩ := X
  obtain ⟨⟨hx, hb, hml, hown, hts⟩, hK, hA, ⟨rfl, rfl, rfl, rfl⟩, hR, hRA, hN⟩ := C
  intro H locs ls hP hD hS hl
  exact lv_imul hx hb hd (by rw [← Int32.ofInt_mul]; exact (kk H locs ls hP hD hS hl))
theorem j_lmul (C : jC X cc nL own Ts rm D Y RO) {a b : Int} (hd : decode cc pc = .ok (.lmul, 1)) (kk : jW X nL k n ws lc (pc + 1) (vL (a * b) :: st)) : jW X nL k n ws lc pc (vL b :: vL a :: st) := by
  obtain ⟨p, l, e, R, s, m, args, below, meth, c, Q, D', Y', A, H0, RO'⟩ := X
  obtain ⟨⟨hx, hb, hml, hown, hts⟩, hK, hA, ⟨rfl, rfl, rfl, rfl⟩, hR, hRA, hN⟩ := C
  intro H locs ls hP hD hS hl
  exact lv_lmul hx hb hd (by rw [← Int64.ofInt_mul]; exact (kk H locs ls hP hD hS hl))
theorem j_ineg (C : jC X cc nL own Ts rm D Y RO) {a : Int} (hd : decode cc pc = .ok (.ineg, 1)) (kk : jW X nL k n ws lc (pc + 1) (vI (-a) :: st)) : jW X nL k n ws lc pc (vI a :: st) := by
  obtain ⟨p, l, e, R, s, m, args, below, meth, c, Q, D', Y', A, H0, RO'⟩ := X
  obtain ⟨⟨hx, hb, hml, hown, hts⟩, hK, hA, ⟨rfl, rfl, rfl, rfl⟩, hR, hRA, hN⟩ := C
  intro H locs ls hP hD hS hl
  exact lv_ineg hx hb hd (by rw [← Int32.ofInt_neg]; exact (kk H locs ls hP hD hS hl))
theorem j_idiv (C : jC X cc nL own Ts rm D Y RO) {a b : Int} (h : 0 ≤ a ∧ a ≤ 2147483647 ∧ 0 < b ∧ b ≤ 2147483647) (hd : decode cc pc = .ok (.idiv, 1)) (kk : jW X nL k n ws lc (pc + 1) (vI (a / b) :: st)) : jW X nL k n ws lc pc (vI b :: vI a :: st) := by
  obtain ⟨p, l, e, R, s, m, args, below, meth, c, Q, D', Y', A, H0, RO'⟩ := X
  obtain ⟨⟨hx, hb, hml, hown, hts⟩, hK, hA, ⟨rfl, rfl, rfl, rfl⟩, hR, hRA, hN⟩ := C
  intro H locs ls hP hD hS hl
  exact lv_idiv hx hb hd (nj_nz32 (by omega)) (by rw [nj_div h]; exact (kk H locs ls hP hD hS hl))
theorem j_irem (C : jC X cc nL own Ts rm D Y RO) {a b : Int} (h : 0 ≤ a ∧ a ≤ 2147483647 ∧ 0 < b ∧ b ≤ 2147483647) (hd : decode cc pc = .ok (.irem, 1)) (kk : jW X nL k n ws lc (pc + 1) (vI (a % b) :: st)) : jW X nL k n ws lc pc (vI b :: vI a :: st) := by
  obtain ⟨p, l, e, R, s, m, args, below, meth, c, Q, D', Y', A, H0, RO'⟩ := X
  obtain ⟨⟨hx, hb, hml, hown, hts⟩, hK, hA, ⟨rfl, rfl, rfl, rfl⟩, hR, hRA, hN⟩ := C
  intro H locs ls hP hD hS hl
  exact lv_irem hx hb hd (nj_nz32 (by omega)) (by rw [nj_rem h]; exact (kk H locs ls hP hD hS hl))
theorem j_ldiv (C : jC X cc nL own Ts rm D Y RO) {a b : Int} (h : 0 ≤ a ∧ a ≤ 9223372036854775807 ∧ 0 < b ∧ b ≤ 9223372036854775807) (hd : decode cc pc = .ok (.ldiv, 1)) (kk : jW X nL k n ws lc (pc + 1) (vL (a / b) :: st)) : jW X nL k n ws lc pc (vL b :: vL a :: st) := by
  obtain ⟨p, l, e, R, s, m, args, below, meth, c, Q, D', Y', A, H0, RO'⟩ := X
  obtain ⟨⟨hx, hb, hml, hown, hts⟩, hK, hA, ⟨rfl, rfl, rfl, rfl⟩, hR, hRA, hN⟩ := C
  intro H locs ls hP hD hS hl
  exact lv_ldiv hx hb hd (nj_nz64 (by omega)) (by rw [nj_ldiv h]; exact (kk H locs ls hP hD hS hl))
theorem j_lrem (C : jC X cc nL own Ts rm D Y RO) {a b : Int} (h : 0 ≤ a ∧ a ≤ 9223372036854775807 ∧ 0 < b ∧ b ≤ 9223372036854775807) (hd : decode cc pc = .ok (.lrem, 1)) (kk : jW X nL k n ws lc (pc + 1) (vL (a % b) :: st)) : jW X nL k n ws lc pc (vL b :: vL a :: st) := by
  obtain ⟨p, l, e, R, s, m, args, below, meth, c, Q, D', Y', A, H0, RO'⟩ := X
  obtain ⟨⟨hx, hb, hml, hown, hts⟩, hK, hA, ⟨rfl, rfl, rfl, rfl⟩, hR, hRA, hN⟩ := C
  intro H locs ls hP hD hS hl
  exact lv_lrem hx hb hd (nj_nz64 (by omega)) (by rw [nj_lrem h]; exact (kk H locs ls hP hD hS hl))
theorem j_i2l (C : jC X cc nL own Ts rm D Y RO) {a : Int} (h : -2147483648 ≤ a ∧ a ≤ 2147483647) (hd : decode cc pc = .ok (.i2l, 1)) (kk : jW X nL k n ws lc (pc + 1) (vL a :: st)) : jW X nL k n ws lc pc (vI a :: st) := by
  obtain ⟨p, l, e, R, s, m, args, below, meth, c, Q, D', Y', A, H0, RO'⟩ := X
  obtain ⟨⟨hx, hb, hml, hown, hts⟩, hK, hA, ⟨rfl, rfl, rfl, rfl⟩, hR, hRA, hN⟩ := C
  intro H locs ls hP hD hS hl
  exact lv_i2l hx hb hd (nj_i2l h) (kk H locs ls hP hD hS hl)
theorem j_l2i (C : jC X cc nL own Ts rm D Y RO) {a : Int} (hd : decode cc pc = .ok (.l2i, 1)) (kk : jW X nL k n ws lc (pc + 1) (vI a :: st)) : jW X nL k n ws lc pc (vL a :: st) := by
  obtain ⟨p, l, e, R, s, m, args, below, meth, c, Q, D', Y', A, H0, RO'⟩ := X
  obtain ⟨⟨hx, hb, hml, hown, hts⟩, hK, hA, ⟨rfl, rfl, rfl, rfl⟩, hR, hRA, hN⟩ := C
  intro H locs ls hP hD hS hl
  exact lv_l2i hx hb hd Int64.toInt32_ofInt (kk H locs ls hP hD hS hl)
theorem j_dup (C : jC X cc nL own Ts rm D Y RO) {v : Value} (hv : v.category = 1) (hd : decode cc pc = .ok (.dup, 1)) (kk : jW X nL k n ws lc (pc + 1) (v :: v :: st)) : jW X nL k n ws lc pc (v :: st) := by
  obtain ⟨p, l, e, R, s, m, args, below, meth, c, Q, D', Y', A, H0, RO'⟩ := X
  obtain ⟨⟨hx, hb, hml, hown, hts⟩, hK, hA, ⟨rfl, rfl, rfl, rfl⟩, hR, hRA, hN⟩ := C
  intro H locs ls hP hD hS hl
  exact lv_dup hx hb hd hv (kk H locs ls hP hD hS hl)
theorem j_dup2 (C : jC X cc nL own Ts rm D Y RO) {v w : Value} (hv : v.category = 1) (hw : w.category = 1) (hd : decode cc pc = .ok (.dup2, 1)) (kk : jW X nL k n ws lc (pc + 1) (v :: w :: v :: w :: st)) : jW X nL k n ws lc pc (v :: w :: st) := by
  obtain ⟨p, l, e, R, s, m, args, below, meth, c, Q, D', Y', A, H0, RO'⟩ := X
  obtain ⟨⟨hx, hb, hml, hown, hts⟩, hK, hA, ⟨rfl, rfl, rfl, rfl⟩, hR, hRA, hN⟩ := C
  intro H locs ls hP hD hS hl
  exact lv_dup2_11 hx hb hd hv hw (kk H locs ls hP hD hS hl)
theorem j_iand (C : jC X cc nL own Ts rm D Y RO) {a b : Int} (hd : decode cc pc = .ok (.iand, 1)) (kk : jW X nL k n ws lc (pc + 1) (vI (andI a b) :: st)) : jW X nL k n ws lc pc (vI b :: vI a :: st) := by
  obtain ⟨p, l, e, R, s, m, args, below, meth, c, Q, D', Y', A, H0, RO'⟩ := X
  obtain ⟨⟨hx, hb, hml, hown, hts⟩, hK, hA, ⟨rfl, rfl, rfl, rfl⟩, hR, hRA, hN⟩ := C
  intro H locs ls hP hD hS hl
  exact lv_iand hx hb hd (by rw [show Int32.ofInt a &&& Int32.ofInt b = Int32.ofInt (andI a b) from (Int32.ofInt_toInt _).symm]; exact (kk H locs ls hP hD hS hl))
theorem j_ior (C : jC X cc nL own Ts rm D Y RO) {a b : Int} (hd : decode cc pc = .ok (.ior, 1)) (kk : jW X nL k n ws lc (pc + 1) (vI (orI a b) :: st)) : jW X nL k n ws lc pc (vI b :: vI a :: st) := by
  obtain ⟨p, l, e, R, s, m, args, below, meth, c, Q, D', Y', A, H0, RO'⟩ := X
  obtain ⟨⟨hx, hb, hml, hown, hts⟩, hK, hA, ⟨rfl, rfl, rfl, rfl⟩, hR, hRA, hN⟩ := C
  intro H locs ls hP hD hS hl
  exact lv_ior hx hb hd (by rw [show Int32.ofInt a ||| Int32.ofInt b = Int32.ofInt (orI a b) from (Int32.ofInt_toInt _).symm]; exact (kk H locs ls hP hD hS hl))
theorem j_ishl (C : jC X cc nL own Ts rm D Y RO) {a b : Int} (hd : decode cc pc = .ok (.ishl, 1)) (kk : jW X nL k n ws lc (pc + 1) (vI (shlI a b) :: st)) : jW X nL k n ws lc pc (vI b :: vI a :: st) := by
  obtain ⟨p, l, e, R, s, m, args, below, meth, c, Q, D', Y', A, H0, RO'⟩ := X
  obtain ⟨⟨hx, hb, hml, hown, hts⟩, hK, hA, ⟨rfl, rfl, rfl, rfl⟩, hR, hRA, hN⟩ := C
  intro H locs ls hP hD hS hl
  exact lv_ishl hx hb hd (by rw [show Int32.ofInt a <<< (Int32.ofInt b &&& 31) = Int32.ofInt (shlI a b) from (Int32.ofInt_toInt _).symm]; exact (kk H locs ls hP hD hS hl))
theorem j_ishr (C : jC X cc nL own Ts rm D Y RO) {a b : Int} (hd : decode cc pc = .ok (.ishr, 1)) (kk : jW X nL k n ws lc (pc + 1) (vI (shrI a b) :: st)) : jW X nL k n ws lc pc (vI b :: vI a :: st) := by
  obtain ⟨p, l, e, R, s, m, args, below, meth, c, Q, D', Y', A, H0, RO'⟩ := X
  obtain ⟨⟨hx, hb, hml, hown, hts⟩, hK, hA, ⟨rfl, rfl, rfl, rfl⟩, hR, hRA, hN⟩ := C
  intro H locs ls hP hD hS hl
  exact lv_ishr hx hb hd (by rw [show Int32.ofInt a >>> (Int32.ofInt b &&& 31) = Int32.ofInt (shrI a b) from (Int32.ofInt_toInt _).symm]; exact (kk H locs ls hP hD hS hl))
theorem j_i2b (C : jC X cc nL own Ts rm D Y RO) {a : Int} (hd : decode cc pc = .ok (.i2b, 1)) (kk : jW X nL k n ws lc (pc + 1) (vI (i2bI a) :: st)) : jW X nL k n ws lc pc (vI a :: st) := by
  obtain ⟨p, l, e, R, s, m, args, below, meth, c, Q, D', Y', A, H0, RO'⟩ := X
  obtain ⟨⟨hx, hb, hml, hown, hts⟩, hK, hA, ⟨rfl, rfl, rfl, rfl⟩, hR, hRA, hN⟩ := C
  intro H locs ls hP hD hS hl
  exact lv_i2b hx hb hd (Int32.ofInt_toInt _).symm (kk H locs ls hP hD hS hl)
theorem j_land (C : jC X cc nL own Ts rm D Y RO) {a b : Int} (hd : decode cc pc = .ok (.land, 1)) (kk : jW X nL k n ws lc (pc + 1) (vL (landI a b) :: st)) : jW X nL k n ws lc pc (vL b :: vL a :: st) := by
  obtain ⟨p, l, e, R, s, m, args, below, meth, c, Q, D', Y', A, H0, RO'⟩ := X
  obtain ⟨⟨hx, hb, hml, hown, hts⟩, hK, hA, ⟨rfl, rfl, rfl, rfl⟩, hR, hRA, hN⟩ := C
  intro H locs ls hP hD hS hl
  exact lv_land hx hb hd (by rw [show Int64.ofInt a &&& Int64.ofInt b = Int64.ofInt (landI a b) from (Int64.ofInt_toInt _).symm]; exact (kk H locs ls hP hD hS hl))
theorem j_lor (C : jC X cc nL own Ts rm D Y RO) {a b : Int} (hd : decode cc pc = .ok (.lor, 1)) (kk : jW X nL k n ws lc (pc + 1) (vL (lorI a b) :: st)) : jW X nL k n ws lc pc (vL b :: vL a :: st) := by
  obtain ⟨p, l, e, R, s, m, args, below, meth, c, Q, D', Y', A, H0, RO'⟩ := X
  obtain ⟨⟨hx, hb, hml, hown, hts⟩, hK, hA, ⟨rfl, rfl, rfl, rfl⟩, hR, hRA, hN⟩ := C
  intro H locs ls hP hD hS hl
  exact lv_lor hx hb hd (by rw [show Int64.ofInt a ||| Int64.ofInt b = Int64.ofInt (lorI a b) from (Int64.ofInt_toInt _).symm]; exact (kk H locs ls hP hD hS hl))
theorem j_lushr (C : jC X cc nL own Ts rm D Y RO) {a b : Int} (hd : decode cc pc = .ok (.lushr, 1)) (kk : jW X nL k n ws lc (pc + 1) (vL (lushrI a b) :: st)) : jW X nL k n ws lc pc (vI b :: vL a :: st) := by
  obtain ⟨p, l, e, R, s, m, args, below, meth, c, Q, D', Y', A, H0, RO'⟩ := X
  obtain ⟨⟨hx, hb, hml, hown, hts⟩, hK, hA, ⟨rfl, rfl, rfl, rfl⟩, hR, hRA, hN⟩ := C
  intro H locs ls hP hD hS hl
  exact lv_lushr hx hb hd (Int64.ofInt_toInt _).symm (kk H locs ls hP hD hS hl)
theorem j_lshr (C : jC X cc nL own Ts rm D Y RO) {a b : Int} (hd : decode cc pc = .ok (.lshr, 1)) (kk : jW X nL k n ws lc (pc + 1) (vL (lshrI a b) :: st)) : jW X nL k n ws lc pc (vI b :: vL a :: st) := by
  obtain ⟨p, l, e, R, s, m, args, below, meth, c, Q, D', Y', A, H0, RO'⟩ := X
  obtain ⟨⟨hx, hb, hml, hown, hts⟩, hK, hA, ⟨rfl, rfl, rfl, rfl⟩, hR, hRA, hN⟩ := C
  intro H locs ls hP hD hS hl
  exact lv_lshr hx hb hd (Int64.ofInt_toInt _).symm (kk H locs ls hP hD hS hl)
theorem j_lshl (C : jC X cc nL own Ts rm D Y RO) {a b : Int} (hd : decode cc pc = .ok (.lshl, 1)) (kk : jW X nL k n ws lc (pc + 1) (vL (lshlI a b) :: st)) : jW X nL k n ws lc pc (vI b :: vL a :: st) := by
  obtain ⟨p, l, e, R, s, m, args, below, meth, c, Q, D', Y', A, H0, RO'⟩ := X
  obtain ⟨⟨hx, hb, hml, hown, hts⟩, hK, hA, ⟨rfl, rfl, rfl, rfl⟩, hR, hRA, hN⟩ := C
  intro H locs ls hP hD hS hl
  exact lv_lshl hx hb hd (Int64.ofInt_toInt _).symm (kk H locs ls hP hD hS hl)
theorem j_lcmp (C : jC X cc nL own Ts rm D Y RO) {a b : Int} (h : (-9223372036854775808 ≤ a ∧ a ≤ 9223372036854775807) ∧ (-9223372036854775808 ≤ b ∧ b ≤ 9223372036854775807)) (hd : decode cc pc = .ok (.lcmp, 1)) (kk : jW X nL k n ws lc (pc + 1) (vI (cmpI a b) :: st)) : jW X nL k n ws lc pc (vL b :: vL a :: st) := by
  obtain ⟨p, l, e, R, s, m, args, below, meth, c, Q, D', Y', A, H0, RO'⟩ := X
  obtain ⟨⟨hx, hb, hml, hown, hts⟩, hK, hA, ⟨rfl, rfl, rfl, rfl⟩, hR, hRA, hN⟩ := C
  intro H locs ls hP hD hS hl
  exact W.lcmp hx hb hd (by rw [nj_cmp h]; exact (kk H locs ls hP hD hS hl))
theorem j_iinc (C : jC X cc nL own Ts rm D Y RO) {i : Nat} {a d : Int} {lc' : List (Nat × Value)} (q : Nat) (hq : lc[q]? = some (i, vI a)) (hn : i < nL) (hl' : (i, vI (a + d)) :: lc.filter (fun q => !(q.1 == i) && !(q.1 + 1 == i && q.2.category == 2)) = lc') (hd : decode cc pc = .ok (.iinc i d, 3)) (kk : jW X nL k n ws lc' (pc + 3) st) : jW X nL k n ws lc pc st := by
  obtain ⟨p, l, e, R, s, m, args, below, meth, c, Q, D', Y', A, H0, RO'⟩ := X
  obtain ⟨⟨hx, hb, hml, hown, hts⟩, hK, hA, ⟨rfl, rfl, rfl, rfl⟩, hR, hRA, hN⟩ := C
  intro H locs ls hP hD hS hl
  exact lv_iinc hx hb hd hl hq (Int32.ofInt_add a d).symm hn hl' (fun ls hl => kk H locs ls hP hD hS hl)
theorem j_goto (C : jC X cc nL own Ts rm D Y RO) {off : Int} (tgt : Nat) (ht : (pc : Int) + off = (tgt : Int)) (hd : decode cc pc = .ok (.goto off, 3)) (kk : jW X nL k n ws lc tgt st) : jW X nL k n ws lc pc st := by
  obtain ⟨p, l, e, R, s, m, args, below, meth, c, Q, D', Y', A, H0, RO'⟩ := X
  obtain ⟨⟨hx, hb, hml, hown, hts⟩, hK, hA, ⟨rfl, rfl, rfl, rfl⟩, hR, hRA, hN⟩ := C
  intro H locs ls hP hD hS hl
  exact lv_goto hx hb hd ht (kk H locs ls hP hD hS hl)
theorem j_icmp_eq (C : jC X cc nL own Ts rm D Y RO) {a b off : Int} (tgt : Nat) (ht : (pc : Int) + off = (tgt : Int)) (hr : (-2147483648 ≤ a ∧ a ≤ 2147483647) ∧ (-2147483648 ≤ b ∧ b ≤ 2147483647)) (hd : decode cc pc = .ok (.if_icmp .eq off, 3)) (kt : a = b → jW X nL k n ws lc tgt st) (kf : ¬ a = b → jW X nL k n ws lc (pc + 3) st) : jW X nL k n ws lc pc (vI b :: vI a :: st) := by
  obtain ⟨p, l, e, R, s, m, args, below, meth, c, Q, D', Y', A, H0, RO'⟩ := X
  obtain ⟨⟨hx, hb, hml, hown, hts⟩, hK, hA, ⟨rfl, rfl, rfl, rfl⟩, hR, hRA, hN⟩ := C
  intro H locs ls hP hD hS hl
  exact lv_icmp_eq hx hb hd ht (fun h => kt (nj_eqT hr h) H locs ls hP hD hS hl) (fun h => kf (nj_eqF hr h) H locs ls hP hD hS hl)
theorem j_if_eq (C : jC X cc nL own Ts rm D Y RO) {a off : Int} (tgt : Nat) (ht : (pc : Int) + off = (tgt : Int)) (hr : -2147483648 ≤ a ∧ a ≤ 2147483647) (hd : decode cc pc = .ok (.ifCond .eq off, 3)) (kt : a = 0 → jW X nL k n ws lc tgt st) (kf : ¬ a = 0 → jW X nL k n ws lc (pc + 3) st) : jW X nL k n ws lc pc (vI a :: st) := by
  obtain ⟨p, l, e, R, s, m, args, below, meth, c, Q, D', Y', A, H0, RO'⟩ := X
  obtain ⟨⟨hx, hb, hml, hown, hts⟩, hK, hA, ⟨rfl, rfl, rfl, rfl⟩, hR, hRA, hN⟩ := C
  intro H locs ls hP hD hS hl
  exact lv_if_eq hx hb hd ht (fun h => kt (nj_eqT ⟨hr, by decide⟩ h) H locs ls hP hD hS hl) (fun h => kf (nj_eqF ⟨hr, by decide⟩ h) H locs ls hP hD hS hl)
theorem j_icmp_ne (C : jC X cc nL own Ts rm D Y RO) {a b off : Int} (tgt : Nat) (ht : (pc : Int) + off = (tgt : Int)) (hr : (-2147483648 ≤ a ∧ a ≤ 2147483647) ∧ (-2147483648 ≤ b ∧ b ≤ 2147483647)) (hd : decode cc pc = .ok (.if_icmp .ne off, 3)) (kt : ¬ a = b → jW X nL k n ws lc tgt st) (kf : a = b → jW X nL k n ws lc (pc + 3) st) : jW X nL k n ws lc pc (vI b :: vI a :: st) := by
  obtain ⟨p, l, e, R, s, m, args, below, meth, c, Q, D', Y', A, H0, RO'⟩ := X
  obtain ⟨⟨hx, hb, hml, hown, hts⟩, hK, hA, ⟨rfl, rfl, rfl, rfl⟩, hR, hRA, hN⟩ := C
  intro H locs ls hP hD hS hl
  exact lv_icmp_ne hx hb hd ht (fun h => kt (nj_neT hr h) H locs ls hP hD hS hl) (fun h => kf (nj_neF hr h) H locs ls hP hD hS hl)
theorem j_if_ne (C : jC X cc nL own Ts rm D Y RO) {a off : Int} (tgt : Nat) (ht : (pc : Int) + off = (tgt : Int)) (hr : -2147483648 ≤ a ∧ a ≤ 2147483647) (hd : decode cc pc = .ok (.ifCond .ne off, 3)) (kt : ¬ a = 0 → jW X nL k n ws lc tgt st) (kf : a = 0 → jW X nL k n ws lc (pc + 3) st) : jW X nL k n ws lc pc (vI a :: st) := by
  obtain ⟨p, l, e, R, s, m, args, below, meth, c, Q, D', Y', A, H0, RO'⟩ := X
  obtain ⟨⟨hx, hb, hml, hown, hts⟩, hK, hA, ⟨rfl, rfl, rfl, rfl⟩, hR, hRA, hN⟩ := C
  intro H locs ls hP hD hS hl
  exact lv_if_ne hx hb hd ht (fun h => kt (nj_neT ⟨hr, by decide⟩ h) H locs ls hP hD hS hl) (fun h => kf (nj_neF ⟨hr, by decide⟩ h) H locs ls hP hD hS hl)
theorem j_icmp_lt (C : jC X cc nL own Ts rm D Y RO) {a b off : Int} (tgt : Nat) (ht : (pc : Int) + off = (tgt : Int)) (hr : (-2147483648 ≤ a ∧ a ≤ 2147483647) ∧ (-2147483648 ≤ b ∧ b ≤ 2147483647)) (hd : decode cc pc = .ok (.if_icmp .lt off, 3)) (kt : a < b → jW X nL k n ws lc tgt st) (kf : b ≤ a → jW X nL k n ws lc (pc + 3) st) : jW X nL k n ws lc pc (vI b :: vI a :: st) := by
  obtain ⟨p, l, e, R, s, m, args, below, meth, c, Q, D', Y', A, H0, RO'⟩ := X
  obtain ⟨⟨hx, hb, hml, hown, hts⟩, hK, hA, ⟨rfl, rfl, rfl, rfl⟩, hR, hRA, hN⟩ := C
  intro H locs ls hP hD hS hl
  exact lv_icmp_lt hx hb hd ht (fun h => kt (nj_ltT hr h) H locs ls hP hD hS hl) (fun h => kf (nj_ltF hr h) H locs ls hP hD hS hl)
theorem j_if_lt (C : jC X cc nL own Ts rm D Y RO) {a off : Int} (tgt : Nat) (ht : (pc : Int) + off = (tgt : Int)) (hr : -2147483648 ≤ a ∧ a ≤ 2147483647) (hd : decode cc pc = .ok (.ifCond .lt off, 3)) (kt : a < 0 → jW X nL k n ws lc tgt st) (kf : 0 ≤ a → jW X nL k n ws lc (pc + 3) st) : jW X nL k n ws lc pc (vI a :: st) := by
  obtain ⟨p, l, e, R, s, m, args, below, meth, c, Q, D', Y', A, H0, RO'⟩ := X
  obtain ⟨⟨hx, hb, hml, hown, hts⟩, hK, hA, ⟨rfl, rfl, rfl, rfl⟩, hR, hRA, hN⟩ := C
  intro H locs ls hP hD hS hl
  exact lv_if_lt hx hb hd ht (fun h => kt (nj_ltT ⟨hr, by decide⟩ h) H locs ls hP hD hS hl) (fun h => kf (nj_ltF ⟨hr, by decide⟩ h) H locs ls hP hD hS hl)
theorem j_icmp_ge (C : jC X cc nL own Ts rm D Y RO) {a b off : Int} (tgt : Nat) (ht : (pc : Int) + off = (tgt : Int)) (hr : (-2147483648 ≤ a ∧ a ≤ 2147483647) ∧ (-2147483648 ≤ b ∧ b ≤ 2147483647)) (hd : decode cc pc = .ok (.if_icmp .ge off, 3)) (kt : b ≤ a → jW X nL k n ws lc tgt st) (kf : a < b → jW X nL k n ws lc (pc + 3) st) : jW X nL k n ws lc pc (vI b :: vI a :: st) := by
  obtain ⟨p, l, e, R, s, m, args, below, meth, c, Q, D', Y', A, H0, RO'⟩ := X
  obtain ⟨⟨hx, hb, hml, hown, hts⟩, hK, hA, ⟨rfl, rfl, rfl, rfl⟩, hR, hRA, hN⟩ := C
  intro H locs ls hP hD hS hl
  exact lv_icmp_ge hx hb hd ht (fun h => kt (nj_geT hr h) H locs ls hP hD hS hl) (fun h => kf (nj_geF hr h) H locs ls hP hD hS hl)
theorem j_if_ge (C : jC X cc nL own Ts rm D Y RO) {a off : Int} (tgt : Nat) (ht : (pc : Int) + off = (tgt : Int)) (hr : -2147483648 ≤ a ∧ a ≤ 2147483647) (hd : decode cc pc = .ok (.ifCond .ge off, 3)) (kt : 0 ≤ a → jW X nL k n ws lc tgt st) (kf : a < 0 → jW X nL k n ws lc (pc + 3) st) : jW X nL k n ws lc pc (vI a :: st) := by
  obtain ⟨p, l, e, R, s, m, args, below, meth, c, Q, D', Y', A, H0, RO'⟩ := X
  obtain ⟨⟨hx, hb, hml, hown, hts⟩, hK, hA, ⟨rfl, rfl, rfl, rfl⟩, hR, hRA, hN⟩ := C
  intro H locs ls hP hD hS hl
  exact lv_if_ge hx hb hd ht (fun h => kt (nj_geT ⟨hr, by decide⟩ h) H locs ls hP hD hS hl) (fun h => kf (nj_geF ⟨hr, by decide⟩ h) H locs ls hP hD hS hl)
theorem j_icmp_gt (C : jC X cc nL own Ts rm D Y RO) {a b off : Int} (tgt : Nat) (ht : (pc : Int) + off = (tgt : Int)) (hr : (-2147483648 ≤ a ∧ a ≤ 2147483647) ∧ (-2147483648 ≤ b ∧ b ≤ 2147483647)) (hd : decode cc pc = .ok (.if_icmp .gt off, 3)) (kt : b < a → jW X nL k n ws lc tgt st) (kf : a ≤ b → jW X nL k n ws lc (pc + 3) st) : jW X nL k n ws lc pc (vI b :: vI a :: st) := by
  obtain ⟨p, l, e, R, s, m, args, below, meth, c, Q, D', Y', A, H0, RO'⟩ := X
  obtain ⟨⟨hx, hb, hml, hown, hts⟩, hK, hA, ⟨rfl, rfl, rfl, rfl⟩, hR, hRA, hN⟩ := C
  intro H locs ls hP hD hS hl
  exact lv_icmp_gt hx hb hd ht (fun h => kt (nj_gtT hr h) H locs ls hP hD hS hl) (fun h => kf (nj_gtF hr h) H locs ls hP hD hS hl)
theorem j_if_gt (C : jC X cc nL own Ts rm D Y RO) {a off : Int} (tgt : Nat) (ht : (pc : Int) + off = (tgt : Int)) (hr : -2147483648 ≤ a ∧ a ≤ 2147483647) (hd : decode cc pc = .ok (.ifCond .gt off, 3)) (kt : 0 < a → jW X nL k n ws lc tgt st) (kf : a ≤ 0 → jW X nL k n ws lc (pc + 3) st) : jW X nL k n ws lc pc (vI a :: st) := by
  obtain ⟨p, l, e, R, s, m, args, below, meth, c, Q, D', Y', A, H0, RO'⟩ := X
  obtain ⟨⟨hx, hb, hml, hown, hts⟩, hK, hA, ⟨rfl, rfl, rfl, rfl⟩, hR, hRA, hN⟩ := C
  intro H locs ls hP hD hS hl
  exact lv_if_gt hx hb hd ht (fun h => kt (nj_gtT ⟨hr, by decide⟩ h) H locs ls hP hD hS hl) (fun h => kf (nj_gtF ⟨hr, by decide⟩ h) H locs ls hP hD hS hl)
theorem j_icmp_le (C : jC X cc nL own Ts rm D Y RO) {a b off : Int} (tgt : Nat) (ht : (pc : Int) + off = (tgt : Int)) (hr : (-2147483648 ≤ a ∧ a ≤ 2147483647) ∧ (-2147483648 ≤ b ∧ b ≤ 2147483647)) (hd : decode cc pc = .ok (.if_icmp .le off, 3)) (kt : a ≤ b → jW X nL k n ws lc tgt st) (kf : b < a → jW X nL k n ws lc (pc + 3) st) : jW X nL k n ws lc pc (vI b :: vI a :: st) := by
  obtain ⟨p, l, e, R, s, m, args, below, meth, c, Q, D', Y', A, H0, RO'⟩ := X
  obtain ⟨⟨hx, hb, hml, hown, hts⟩, hK, hA, ⟨rfl, rfl, rfl, rfl⟩, hR, hRA, hN⟩ := C
  intro H locs ls hP hD hS hl
  exact lv_icmp_le hx hb hd ht (fun h => kt (nj_leT hr h) H locs ls hP hD hS hl) (fun h => kf (nj_leF hr h) H locs ls hP hD hS hl)
theorem j_if_le (C : jC X cc nL own Ts rm D Y RO) {a off : Int} (tgt : Nat) (ht : (pc : Int) + off = (tgt : Int)) (hr : -2147483648 ≤ a ∧ a ≤ 2147483647) (hd : decode cc pc = .ok (.ifCond .le off, 3)) (kt : a ≤ 0 → jW X nL k n ws lc tgt st) (kf : 0 < a → jW X nL k n ws lc (pc + 3) st) : jW X nL k n ws lc pc (vI a :: st) := by
  obtain ⟨p, l, e, R, s, m, args, below, meth, c, Q, D', Y', A, H0, RO'⟩ := X
  obtain ⟨⟨hx, hb, hml, hown, hts⟩, hK, hA, ⟨rfl, rfl, rfl, rfl⟩, hR, hRA, hN⟩ := C
  intro H locs ls hP hD hS hl
  exact lv_if_le hx hb hd ht (fun h => kt (nj_leT ⟨hr, by decide⟩ h) H locs ls hP hD hS hl) (fun h => kf (nj_leF ⟨hr, by decide⟩ h) H locs ls hP hD hS hl)
theorem j_if_eqb (C : jC X cc nL own Ts rm D Y RO) {P : Prop} [Decidable P] {off : Int} (tgt : Nat) (ht : (pc : Int) + off = (tgt : Int)) (hd : decode cc pc = .ok (.ifCond .eq off, 3)) (kt : ¬ P → jW X nL k n ws lc tgt st) (kf : P → jW X nL k n ws lc (pc + 3) st) : jW X nL k n ws lc pc (vI (if P then 1 else 0) :: st) := by
  refine j_if_eq C tgt ht (by split <;> decide) hd (fun h => kt ?_) (fun h => kf ?_)
  · by_cases q : P <;> simp_all
  · by_cases q : P <;> simp_all
theorem j_if_neb (C : jC X cc nL own Ts rm D Y RO) {P : Prop} [Decidable P] {off : Int} (tgt : Nat) (ht : (pc : Int) + off = (tgt : Int)) (hd : decode cc pc = .ok (.ifCond .ne off, 3)) (kt : P → jW X nL k n ws lc tgt st) (kf : ¬ P → jW X nL k n ws lc (pc + 3) st) : jW X nL k n ws lc pc (vI (if P then 1 else 0) :: st) := by
  refine j_if_ne C tgt ht (by split <;> decide) hd (fun h => kt ?_) (fun h => kf ?_)
  · by_cases q : P <;> simp_all
  · by_cases q : P <;> simp_all
theorem j_ifnull (C : jC X cc nL own Ts rm D Y RO) {a : Nat} {off : Int} (hd : decode cc pc = .ok (.ifnull off, 3)) (kk : jW X nL k n ws lc (pc + 3) st) : jW X nL k n ws lc pc (.ref a :: st) := by
  obtain ⟨p, l, e, R, s, m, args, below, meth, c, Q, D', Y', A, H0, RO'⟩ := X
  obtain ⟨⟨hx, hb, hml, hown, hts⟩, hK, hA, ⟨rfl, rfl, rfl, rfl⟩, hR, hRA, hN⟩ := C
  intro H locs ls hP hD hS hl
  exact lv_ifnull hx hb hd (kk H locs ls hP hD hS hl)
theorem j_ifnonnull (C : jC X cc nL own Ts rm D Y RO) {a : Nat} {off : Int} (tgt : Nat) (ht : (pc : Int) + off = (tgt : Int)) (hd : decode cc pc = .ok (.ifnonnull off, 3)) (kk : jW X nL k n ws lc tgt st) : jW X nL k n ws lc pc (.ref a :: st) := by
  obtain ⟨p, l, e, R, s, m, args, below, meth, c, Q, D', Y', A, H0, RO'⟩ := X
  obtain ⟨⟨hx, hb, hml, hown, hts⟩, hK, hA, ⟨rfl, rfl, rfl, rfl⟩, hR, hRA, hN⟩ := C
  intro H locs ls hP hD hS hl
  exact lv_ifnonnull hx hb hd ht (kk H locs ls hP hD hS hl)
theorem j_ifnullN (C : jC X cc nL own Ts rm D Y RO) {off : Int} (tgt : Nat) (ht : (pc : Int) + off = (tgt : Int)) (hd : decode cc pc = .ok (.ifnull off, 3)) (kk : jW X nL k n ws lc tgt st) : jW X nL k n ws lc pc (.null :: st) := by
  obtain ⟨p, l, e, R, s, m, args, below, meth, c, Q, D', Y', A, H0, RO'⟩ := X
  obtain ⟨⟨hx, hb, hml, hown, hts⟩, hK, hA, ⟨rfl, rfl, rfl, rfl⟩, hR, hRA, hN⟩ := C
  intro H locs ls hP hD hS hl
  exact lv_ifnullN hx hb hd ht (kk H locs ls hP hD hS hl)
theorem j_ifnonnullN (C : jC X cc nL own Ts rm D Y RO) {off : Int} (hd : decode cc pc = .ok (.ifnonnull off, 3)) (kk : jW X nL k n ws lc (pc + 3) st) : jW X nL k n ws lc pc (.null :: st) := by
  obtain ⟨p, l, e, R, s, m, args, below, meth, c, Q, D', Y', A, H0, RO'⟩ := X
  obtain ⟨⟨hx, hb, hml, hown, hts⟩, hK, hA, ⟨rfl, rfl, rfl, rfl⟩, hR, hRA, hN⟩ := C
  intro H locs ls hP hD hS hl
  exact lv_ifnonnullN hx hb hd (kk H locs ls hP hD hS hl)
theorem j_astore_nN (C : jC X cc nL own Ts rm D Y RO) {f : Fin 4} {lc' : List (Nat × Value)} (i : Nat) (hi : (f : Nat) = i) (hn : i < nL) (hl' : (i, Value.null) :: lc.filter (fun q => !(q.1 == i) && !(q.1 + 1 == i && q.2.category == 2)) = lc') (hd : decode cc pc = .ok (.astore_n f, 1)) (kk : jW X nL k n ws lc' (pc + 1) st) : jW X nL k n ws lc pc (.null :: st) := by
  obtain ⟨p, l, e, R, s, m, args, below, meth, c, Q, D', Y', A, H0, RO'⟩ := X
  obtain ⟨⟨hx, hb, hml, hown, hts⟩, hK, hA, ⟨rfl, rfl, rfl, rfl⟩, hR, hRA, hN⟩ := C
  intro H locs ls hP hD hS hl
  exact lv_astore_nN hx hb hd hi hl hn hl' (fun ls hl => kk H locs ls hP hD hS hl)
theorem j_astoreN (C : jC X cc nL own Ts rm D Y RO) {lc' : List (Nat × Value)} {i : Nat} (hn : i < nL) (hl' : (i, Value.null) :: lc.filter (fun q => !(q.1 == i) && !(q.1 + 1 == i && q.2.category == 2)) = lc') (hd : decode cc pc = .ok (.astore i, 2)) (kk : jW X nL k n ws lc' (pc + 2) st) : jW X nL k n ws lc pc (.null :: st) := by
  obtain ⟨p, l, e, R, s, m, args, below, meth, c, Q, D', Y', A, H0, RO'⟩ := X
  obtain ⟨⟨hx, hb, hml, hown, hts⟩, hK, hA, ⟨rfl, rfl, rfl, rfl⟩, hR, hRA, hN⟩ := C
  intro H locs ls hP hD hS hl
  exact lv_astoreN hx hb hd hl hn hl' (fun ls hl => kk H locs ls hP hD hS hl)
theorem j_tableC (C : jC X cc nL own Ts rm D Y RO) {dflt lo hi a : Int} {offs : Array Int} {len : Nat} {off : Int} (v : Int) (tgt : Nat) (h : a = v) (hr : (-2147483648 ≤ v ∧ v ≤ 2147483647) ∧ lo ≤ v ∧ v ≤ hi) (ho : offs[(v - lo).toNat]? = some off) (ht : (pc : Int) + off = (tgt : Int)) (hd : decode cc pc = .ok (.tableswitch dflt lo hi offs, len)) (kk : jW X nL k n ws lc tgt st) : jW X nL k n ws lc pc (vI a :: st) := by
  obtain ⟨p, l, e, R, s, m, args, below, meth, c, Q, D', Y', A, H0, RO'⟩ := X
  obtain ⟨⟨hx, hb, hml, hown, hts⟩, hK, hA, ⟨rfl, rfl, rfl, rfl⟩, hR, hRA, hN⟩ := C
  intro H locs ls hP hD hS hl
  subst h
  have e : (Int32.ofInt a).toInt = a := Int32.toInt_ofInt_of_le (by omega) (by omega)
  exact lv_tableIn hx hb hd (by rw [e]; omega) (by rw [e]; omega) (by rw [e]; exact ho) ht (kk H locs ls hP hD hS hl)
theorem j_tableD (C : jC X cc nL own Ts rm D Y RO) {dflt lo hi a : Int} {offs : Array Int} {len : Nat} (tgt : Nat) (hr : -2147483648 ≤ a ∧ a ≤ 2147483647) (h : a < lo ∨ hi < a) (ht : (pc : Int) + dflt = (tgt : Int)) (hd : decode cc pc = .ok (.tableswitch dflt lo hi offs, len)) (kk : jW X nL k n ws lc tgt st) : jW X nL k n ws lc pc (vI a :: st) := by
  obtain ⟨p, l, e, R, s, m, args, below, meth, c, Q, D', Y', A, H0, RO'⟩ := X
  obtain ⟨⟨hx, hb, hml, hown, hts⟩, hK, hA, ⟨rfl, rfl, rfl, rfl⟩, hR, hRA, hN⟩ := C
  intro H locs ls hP hD hS hl
  have e : (Int32.ofInt a).toInt = a := Int32.toInt_ofInt_of_le (by omega) (by omega)
  exact lv_tableOut hx hb hd (by rw [e]; exact h) ht (kk H locs ls hP hD hS hl)
theorem j_get (C : jC X cc nL own Ts rm D Y RO) {ci index N : Nat} {Cn ref : String} {T : u_T} {fs : List Value} {a : Nat} {v : Value} (hq : (a, oC ci fs) ∈ ws ∨ (a, oC ci fs) ∈ RO) (hc : vwCl[ci]? = some (Cn, T, N)) (hin : ∀ w ∈ u_ws Cn T N, w ∈ Ts) (kf : Nat) (hk : kf < N) (hlink : Cond.fieldLink own index ref (T kf).2.1 (T kf).2.2.1 ∈ Ts) (hsame : (T kf).1 = ref ∨ Cond.sameField ref (T kf).1 (T kf).2.1 (T kf).2.2.1 ∈ Ts) (hv : fs[kf]? = some v) (hd : decode cc pc = .ok (.getfield index, 3)) (kk : jW X nL k n ws lc (pc + 3) (v :: st)) : jW X nL k n ws lc pc (.ref a :: st) := by
  obtain ⟨p, l, e, R, s, m, args, below, meth, c, Q, D', Y', A, H0, RO'⟩ := X
  obtain ⟨⟨hx, hb, hml, hown, hts⟩, hK, hA, ⟨rfl, rfl, rfl, rfl⟩, hR, hRA, hN⟩ := C
  intro H locs ls hP hD hS hl
  exact va_get hx hb hts hin hown hK (j_cell hq hP hR hRA hS) 0 rfl hc kf hk (hts _ hlink) (j_same hts hsame) hv hd (kk H locs ls hP hD hS hl)
theorem j_put (C : jC X cc nL own Ts rm D Y RO) {ci index N : Nat} {Cn ref : String} {T : u_T} {ty0 : Nat → FieldType} {fs : List Value} {a : Nat} {v : Value} {ty : FieldType} {ws' : va_W} (q0 : Nat) (he : ws[q0]? = some (a, oC ci fs)) (hc : vwCl[ci]? = some (Cn, T, N)) (hin : ∀ w ∈ u_ws Cn T N, w ∈ Ts) (hty : ∀ k, k < N → parseFieldDescriptor (T k).2.2.1 = some (ty0 k)) (hnm : ∀ a, a < N → ∀ b, b < N → a ≠ b → (T a).2.1 ≠ (T b).2.1) (kf : Nat) (hk : kf < N) (hlink : Cond.fieldLink own index ref (T kf).2.1 (T kf).2.2.1 ∈ Ts) (hsame : (T kf).1 = ref ∨ Cond.sameField ref (T kf).1 (T kf).2.1 (T kf).2.2.1 ∈ Ts) (hfin : (T kf).2.2.2 = false) (hdd : ty0 kf = ty) (hn : narrow ty v = v) (hfit : fits ty v = true) (hl0 : kf < fs.length) (hw : ws.set q0 (a, oC ci (fs.set kf v)) = ws') (hd : decode cc pc = .ok (.putfield index, 3)) (kk : jW X nL k n ws' lc (pc + 3) st) : jW X nL k n ws lc pc (v :: .ref a :: st) := by
  obtain ⟨p, l, e, R, s, m, args, below, meth, c, Q, D', Y', A, H0, RO'⟩ := X
  obtain ⟨⟨hx, hb, hml, hown, hts⟩, hK, hA, ⟨rfl, rfl, rfl, rfl⟩, hR, hRA, hN⟩ := C
  intro H locs ls hP hD hS hl
  subst hw hdd
  exact va_put hx hb hts hin ty0 hty hnm hown hK hP hD hS q0 he hc kf hk (hts _ hlink) (j_same hts hsame) hfin (hty kf hk) hn hfit hl0 hd (fun H1 locs1 hP hD hS => kk H1 locs1 ls hP hD hS hl)
theorem j_iald (C : jC X cc nL own Ts rm D Y RO) {cA : ClassId} {m0 : Nat} {g : Int → Int} {a : Nat} {i : Int} (hq : (a, aI cA m0 g) ∈ ws ∨ (a, aI cA m0 g) ∈ RO) (hcA : cA = Y 0) (hi : 0 ≤ i ∧ i < (m0 : Int)) (hm : m0 < 2147483648) (hd : decode cc pc = .ok (.iaload, 1)) (kk : jW X nL k n ws lc (pc + 1) (vI (g i) :: st)) : jW X nL k n ws lc pc (vI i :: .ref a :: st) := by
  obtain ⟨p, l, e, R, s, m, args, below, meth, c, Q, D', Y', A, H0, RO'⟩ := X
  obtain ⟨⟨hx, hb, hml, hown, hts⟩, hK, hA, ⟨rfl, rfl, rfl, rfl⟩, hR, hRA, hN⟩ := C
  intro H locs ls hP hD hS hl
  subst hcA
  refine va_iald hx hb hK (j_cell hq hP hR hRA hS) 0 0 (cA := Y' 0) (n := m0) (f := fun k : Nat => Int32.ofInt (g (k : Int))) rfl rfl (nj_in hi hm) hd ?_
  rw [nj_to (by omega)]
  exact (kk H locs ls hP hD hS hl)
theorem j_aaldP (C : jC X cc nL own Ts rm D Y RO) {cA : ClassId} {m0 : Nat} {g : Int → Option Nat} {a : Nat} {i : Int} (hq : (a, aQ cA m0 g) ∈ ws ∨ (a, aQ cA m0 g) ∈ RO) (hcA : cA = Y 3) (hi : 0 ≤ i ∧ i < (m0 : Int)) (hm : m0 < 2147483648) (hd : decode cc pc = .ok (.aaload, 1)) (kk : jW X nL k n ws lc (pc + 1) (va_rf (g i) :: st)) : jW X nL k n ws lc pc (vI i :: .ref a :: st) := by
  obtain ⟨p, l, e, R, s, m, args, below, meth, c, Q, D', Y', A, H0, RO'⟩ := X
  obtain ⟨⟨hx, hb, hml, hown, hts⟩, hK, hA, ⟨rfl, rfl, rfl, rfl⟩, hR, hRA, hN⟩ := C
  intro H locs ls hP hD hS hl
  subst hcA
  refine va_aldq (C := RX5) hx hb hK (j_cell hq hP hR hRA hS) 0 3 (cA := Y' 3) (n := m0) (f := fun k : Nat => g (k : Int)) rfl rfl (nj_in hi hm) hd ?_
  rw [nj_to (by omega)]
  exact (kk H locs ls hP hD hS hl)
theorem j_aaldC (C : jC X cc nL own Ts rm D Y RO) {cA : ClassId} {m0 : Nat} {g : Int → Option Nat} {a : Nat} {i : Int} (hq : (a, aQ cA m0 g) ∈ ws ∨ (a, aQ cA m0 g) ∈ RO) (hcA : cA = Y 2) (hi : 0 ≤ i ∧ i < (m0 : Int)) (hm : m0 < 2147483648) (hd : decode cc pc = .ok (.aaload, 1)) (kk : jW X nL k n ws lc (pc + 1) (va_rf (g i) :: st)) : jW X nL k n ws lc pc (vI i :: .ref a :: st) := by
  obtain ⟨p, l, e, R, s, m, args, below, meth, c, Q, D', Y', A, H0, RO'⟩ := X
  obtain ⟨⟨hx, hb, hml, hown, hts⟩, hK, hA, ⟨rfl, rfl, rfl, rfl⟩, hR, hRA, hN⟩ := C
  intro H locs ls hP hD hS hl
  subst hcA
  refine va_aldq (C := RX1) hx hb hK (j_cell hq hP hR hRA hS) 0 2 (cA := Y' 2) (n := m0) (f := fun k : Nat => g (k : Int)) rfl rfl (nj_in hi hm) hd ?_
  rw [nj_to (by omega)]
  exact (kk H locs ls hP hD hS hl)
theorem j_iast (C : jC X cc nL own Ts rm D Y RO) {cA : ClassId} {m0 : Nat} {g : Int → Int} {a : Nat} {i x : Int} {ws' : va_W} (q0 : Nat) (he : ws[q0]? = some (a, aI cA m0 g)) (hcA : cA = Y 0) (hi : 0 ≤ i ∧ i < (m0 : Int)) (hm : m0 < 2147483648) (hw : ws.set q0 (a, aI cA m0 (up g i x)) = ws') (hd : decode cc pc = .ok (.iastore, 1)) (kk : jW X nL k n ws' lc (pc + 1) st) : jW X nL k n ws lc pc (vI x :: vI i :: .ref a :: st) := by
  obtain ⟨p, l, e, R, s, m, args, below, meth, c, Q, D', Y', A, H0, RO'⟩ := X
  obtain ⟨⟨hx, hb, hml, hown, hts⟩, hK, hA, ⟨rfl, rfl, rfl, rfl⟩, hR, hRA, hN⟩ := C
  intro H locs ls hP hD hS hl
  subst hcA hw
  refine va_iast hx hb hK hP hD hS q0 0 (cA := Y' 0) (n := m0) (f := fun k : Nat => Int32.ofInt (g (k : Int))) he rfl (nj_in hi hm) hd (fun H1 locs1 hP hD hS => ?_)
  rw [nj_up (by omega)] at hP hD
  exact kk H1 locs1 ls hP hD hS hl
theorem j_alenI (C : jC X cc nL own Ts rm D Y RO) {cA : ClassId} {m0 : Nat} {g : Int → Int} {a : Nat} (hq : (a, aI cA m0 g) ∈ ws ∨ (a, aI cA m0 g) ∈ RO) (hcA : cA = Y 0) (hd : decode cc pc = .ok (.arraylength, 1)) (kk : jW X nL k n ws lc (pc + 1) (vI (m0 : Int) :: st)) : jW X nL k n ws lc pc (.ref a :: st) := by
  obtain ⟨p, l, e, R, s, m, args, below, meth, c, Q, D', Y', A, H0, RO'⟩ := X
  obtain ⟨⟨hx, hb, hml, hown, hts⟩, hK, hA, ⟨rfl, rfl, rfl, rfl⟩, hR, hRA, hN⟩ := C
  intro H locs ls hP hD hS hl
  subst hcA
  exact va_alen hx hb hK (j_cell hq hP hR hRA hS) 0 0 rfl rfl (show Int32.ofNat m0 = Int32.ofInt (m0 : Int) from Int32.ofInt_eq_ofNat.symm) hd (kk H locs ls hP hD hS hl)
theorem j_alenP (C : jC X cc nL own Ts rm D Y RO) {cA : ClassId} {m0 : Nat} {g : Int → Option Nat} {a : Nat} (hq : (a, aQ cA m0 g) ∈ ws ∨ (a, aQ cA m0 g) ∈ RO) (hcA : cA = Y 3) (hd : decode cc pc = .ok (.arraylength, 1)) (kk : jW X nL k n ws lc (pc + 1) (vI (m0 : Int) :: st)) : jW X nL k n ws lc pc (.ref a :: st) := by
  obtain ⟨p, l, e, R, s, m, args, below, meth, c, Q, D', Y', A, H0, RO'⟩ := X
  obtain ⟨⟨hx, hb, hml, hown, hts⟩, hK, hA, ⟨rfl, rfl, rfl, rfl⟩, hR, hRA, hN⟩ := C
  intro H locs ls hP hD hS hl
  subst hcA
  exact va_alen hx hb hK (j_cell hq hP hR hRA hS) 0 3 rfl rfl (show Int32.ofNat m0 = Int32.ofInt (m0 : Int) from Int32.ofInt_eq_ofNat.symm) hd (kk H locs ls hP hD hS hl)
theorem j_locals {lc' : List (Nat × Value)} (ks : List Nat) (h : lv_pick lc ks = lc') (kk : jW X nL k n ws lc' pc st) : jW X nL k n ws lc pc st := by
  obtain ⟨p, l, e, R, s, m, args, below, meth, c, Q, D', Y', A, H0, RO'⟩ := X
  intro H locs ls hP hD hS hl
  exact kk H locs ls hP hD hS (lv_sub hl ks h)
theorem j_st {ws' : va_W} {lc' : List (Nat × Value)} {st' : List Value} (h1 : ws = ws') (h2 : lc = lc') (h3 : st = st') (kk : jW X nL k n ws' lc' pc st') : jW X nL k n ws lc pc st := by subst h1 h2 h3; exact kk
theorem j_widen {k' n' : Nat} (h1 : k ≤ k') (h2 : n ≤ n') (kk : jW X nL k' n' ws lc pc st) : jW X nL k n ws lc pc st := by
  obtain ⟨p, l, e, R, s, m, args, below, meth, c, Q, D', Y', A, H0, RO'⟩ := X
  intro H locs ls hP hD hS hl
  exact W.widen h1 h2 (kk H locs ls hP hD hS hl)
end JROWS
/-- what a method's start asks: its own cells w0, those that it reads RO, the tables -/
def jPre (D : va_G) (Y : Nat → ClassId) (w0 RO : va_W) (sz : Nat) : State → Prop := fun U => U.heap.size = sz ∧ va_P D vwCl w0 U.heap ∧ va_K D vwCl (jT Y) U ∧ va_D (fun _ => True) w0 ∧ va_P D vwCl RO U.heap ∧ (∀ a ∈ RO, ∀ b ∈ w0, a.1 ≠ b.1) ∧ jN U
def jB (D : va_G) (w0 : va_W) (sz : Nat) : va_W → State → Prop := fun w1 t => va_P D vwCl w1 t.heap ∧ va_D (va_A w0 sz) w1
/-- contracts: the method returns; post tells the answer and the cells behind it -/
def jMv (l : Launch) (y : MethodName) (wl : List Cond) (rm : Room) (D : va_G) (Y : Nat → ClassId) (RO : va_W) (av : List Value) (w0 : va_W) (post : va_W → Prop) : Prop := ∀ sz : Nat, Met l y wl rm (va_Pc av (jPre D Y w0 RO sz)) (va_Qv (fun w1 : va_W => post w1) (jB D w0 sz) (va_A w0 sz)) rm.cells rm.slots (va_A w0 sz)
def jMi (l : Launch) (y : MethodName) (wl : List Cond) (rm : Room) (D : va_G) (Y : Nat → ClassId) (RO : va_W) (av : List Value) (w0 : va_W) (post : Int → va_W → Prop) : Prop := ∀ sz : Nat, Met l y wl rm (va_Pc av (jPre D Y w0 RO sz)) (va_Qi (fun (r : Int32) (w1 : va_W) => ∃ e : Int, r = Int32.ofInt e ∧ post e w1) (jB D w0 sz) (va_A w0 sz)) rm.cells rm.slots (va_A w0 sz)
def jMl (l : Launch) (y : MethodName) (wl : List Cond) (rm : Room) (D : va_G) (Y : Nat → ClassId) (RO : va_W) (av : List Value) (w0 : va_W) (post : Int → va_W → Prop) : Prop := ∀ sz : Nat, Met l y wl rm (va_Pc av (jPre D Y w0 RO sz)) (va_Ql (fun (r : Int64) (w1 : va_W) => ∃ e : Int, r = Int64.ofInt e ∧ post e w1) (jB D w0 sz) (va_A w0 sz)) rm.cells rm.slots (va_A w0 sz)
def jMr (l : Launch) (y : MethodName) (wl : List Cond) (rm : Room) (D : va_G) (Y : Nat → ClassId) (RO : va_W) (av : List Value) (w0 : va_W) (post : Option Nat → va_W → Prop) : Prop := ∀ sz : Nat, Met l y wl rm (va_Pc av (jPre D Y w0 RO sz)) (va_Qq (fun (r : Option Nat) (w1 : va_W) => post r w1) (jB D w0 sz) (va_A w0 sz)) rm.cells rm.slots (va_A w0 sz)
theorem jPre.blind {D : va_G} {Y : Nat → ClassId} {w0 RO : va_W} {sz : Nat} {av : List Value} : FrameBlind (va_Pc av (jPre D Y w0 RO sz)) := by
  intro a U g mk q
  obtain ⟨q0, q1, qP, qK, qD, qR, qd, qN⟩ := q
  exact ⟨q0, q1, qP, va_K.moved (u := U) (U := U.calling g mk a) (Vm.Alike.refl U.vm) qK, qD, qR, qd, qN.same rfl⟩
theorem j_ros {w0 RO : va_W} {D : va_G} {H : Heap} {sz : Nat} (hsz : H.size = sz) (hR : va_P D vwCl RO H) (hd : ∀ a ∈ RO, ∀ b ∈ w0, a.1 ≠ b.1) : ∀ q ∈ RO, ¬ va_A w0 sz q.1 := by
  intro q hq h
  rcases h with ⟨k, e, h⟩ | h
  · exact hd q hq (q.1, e) (List.mem_of_getElem? h) rfl
  · obtain ⟨k, hk⟩ := List.mem_iff_getElem?.mp hq
    have := (hR k q hk).lt
    omega
theorem j_sub {D : va_G} {ws wc : va_W} {H : Heap} (hP : va_P D vwCl ws H) (is : List Nat) (hC : is.map (fun i => ws[i]?) = wc.map some) : va_P D vwCl wc H := by
  intro k q hq
  have h1 : (is.map (fun i => ws[i]?))[k]? = some (some q) := by rw [hC, List.getElem?_map, hq]; rfl
  rw [List.getElem?_map] at h1
  cases hi : is[k]? with
  | none => rw [hi] at h1; cases h1
  | some i => rw [hi] at h1; exact hP i q (Option.some.inj h1)
theorem j_at' {ws wc : va_W} {is : List Nat} (hC : is.map (fun i => ws[i]?) = wc.map some) {q : Nat × va_E} (hq : q ∈ wc) : ∃ i ∈ is, ws[i]? = some q := by
  obtain ⟨k, hk⟩ := List.mem_iff_getElem?.mp hq
  have h1 : (is.map (fun i => ws[i]?))[k]? = some (some q) := by rw [hC, List.getElem?_map, hk]; rfl
  rw [List.getElem?_map] at h1
  cases hi : is[k]? with
  | none => rw [hi] at h1; cases h1
  | some i => rw [hi] at h1; exact ⟨i, List.mem_of_getElem? hi, Option.some.inj h1⟩
theorem j_ro2 {D : va_G} {ws wr RO : va_W} {A : Nat → Prop} {H0 H : Heap} {locs : List Loc} (hP : va_P D vwCl ws H) (hR : va_P D vwCl RO H0) (hRA : ∀ q ∈ RO, ¬ A q.1) (hS : va_S A H0 H locs) (is : List Nat) (hC : is.map (fun i => ws[i]?) = wr.map some) : va_P D vwCl (wr ++ RO) H := by
  intro k q hq
  have hq1 : q ∈ wr ∨ q ∈ RO := List.mem_append.mp (List.mem_of_getElem? hq)
  exact j_cell hq1 (j_sub hP is hC) hR hRA hS 0 q rfl
theorem j_ap {ws wc wr RO : va_W} {A : Nat → Prop} (hD : va_D A ws) (hRA : ∀ q ∈ RO, ¬ A q.1) (isC isR : List Nat) (hC : isC.map (fun i => ws[i]?) = wc.map some) (hR : isR.map (fun i => ws[i]?) = wr.map some) (hdis : ∀ i ∈ isR, i ∉ isC) : ∀ a ∈ wr ++ RO, ∀ b ∈ wc, a.1 ≠ b.1 := by
  intro a ha b hb e
  obtain ⟨j, hj, hj2⟩ := j_at' hC hb
  rcases List.mem_append.mp ha with ha | ha
  · obtain ⟨i, hi, hi2⟩ := j_at' hR ha
    have := hD.1 i j a b hi2 hj2 e
    subst this
    exact hdis i hi hj
  · exact hRA a ha (e ▸ hD.2 j b hj2)
theorem j_perm {X : jX} {nL k n : Nat} {ws ws' : va_W} {lc : List (Nat × Value)} {pc : Nat} {st : List Value} (is : List Nat) (hn : va_nd is = true) (h : is.map (fun i => ws[i]?) = ws'.map some) (kk : jW X nL k n ws' lc pc st) : jW X nL k n ws lc pc st := by
  obtain ⟨p, l, e, R, s, m, args, below, meth, c, Q, D', Y', A, H0, RO'⟩ := X
  intro H locs ls hP hD hS hl
  exact kk H locs ls (j_sub hP is h) (hD.sub is hn h) hS hl
def jRv (X : jX) (cc : ByteArray) (nL mc ms : Nat) (post : va_W → Prop) : Prop := ∀ (k n : Nat) (w1 : va_W) (lc : List (Nat × Value)) (pc : Nat), k ≤ mc → n ≤ ms → post w1 → decode cc pc = .ok (.return_, 1) → jW X nL k n w1 lc pc []
/-- we are in a constructor -/
def jI (X : jX) : Prop := match X with
  | (p, l, e, R, s, m, args, below, meth, c, Q, D, _, A, H0, _) => meth.name = "<init>"
theorem j_ofv {l : Launch} {y : MethodName} {wl ws' : List Cond} {rm : Room} {D : va_G} {Y : Nat → ClassId} {RO w0 : va_W} {av : List Value} {post : va_W → Prop} {cc : ByteArray} {maxL : Nat} (own : String) (hy : plainName y.cls = true) (hw : wl = Cond.code y cc maxL none :: ws') (ho : y.cls = own) (hlen : (lg_sl av).length ≤ maxL) (body : ∀ X : jX, jC X cc maxL own wl rm D Y RO → jRv X cc maxL rm.cells rm.slots post → (y.name = "<init>" → jI X) → jW X maxL 0 0 w0 (lv_args 0 av) 0 []) : jMv l y wl rm D Y RO av w0 post := by
  intro sz
  refine Met.ofW (cc := cc) (maxL := maxL) (ret := none) hy hw ?_
  intro p e s m args below meth c s₁ B hml hv
  obtain ⟨rfl, hsz, hP, hK, hD0, hRO, hdis, hN⟩ := hv
  have hx := B.exec
  have hb := B.bytes
  have hr := B.returns
  have hts := atoms_spec (ws := wl) B.pre
  have hown : s.vm.findClass own = some m.cls := ho ▸ findClass_of_methodNamed B.named
  have hlocks := B.notSynchronized
  have hRA := j_ros hsz hRO hdis
  subst hsz
  have hD := hD0.self (sz := s.heap.size)
  rw [lg_entry_eq]
  have hl := lv_entry av (n := maxL) hlen
  refine body (p, l, e, (headSpec wl rm).room, s, m, av.toArray, below, meth, c, MQ below (_) av.toArray s rm.cells rm.slots (va_A w0 s.heap.size), D, Y, va_A w0 s.heap.size, s.heap, RO) ⟨⟨hx, hb, hml, hown, hts⟩, hK, fun q h => Or.inr h, ⟨rfl, rfl, rfl, rfl⟩, hRO, hRA, hN⟩ ?_ (fun hy => (name_of_methodNamed B.named B.method).1.trans hy) s.heap [] _ hP hD va_S.rf hl
  intro k n w1 lc pc hk hn hp hd H locs ls hP hD hS hl
  exact W.widen hk hn (W.vret hx hb hr (fun t ht hW => ⟨⟨w1, rfl, hp, by rw [ht]; exact hP, hD⟩, hS.F ht⟩) hS.2.2 hd hlocks)
def jRi (X : jX) (cc : ByteArray) (nL mc ms : Nat) (post : Int → va_W → Prop) : Prop := ∀ (k n : Nat) (w1 : va_W) (lc : List (Nat × Value)) (pc : Nat) (e : Int), k ≤ mc → n ≤ ms → post e w1 → decode cc pc = .ok (.ireturn, 1) → jW X nL k n w1 lc pc [vI e]
theorem j_ofi {l : Launch} {y : MethodName} {wl ws' : List Cond} {rm : Room} {D : va_G} {Y : Nat → ClassId} {RO w0 : va_W} {av : List Value} {post : Int → va_W → Prop} {cc : ByteArray} {maxL : Nat} (own : String) (hy : plainName y.cls = true) (hw : wl = Cond.code y cc maxL (some .int) :: ws') (ho : y.cls = own) (hlen : (lg_sl av).length ≤ maxL) (body : ∀ X : jX, jC X cc maxL own wl rm D Y RO → jRi X cc maxL rm.cells rm.slots post → jW X maxL 0 0 w0 (lv_args 0 av) 0 []) : jMi l y wl rm D Y RO av w0 post := by
  intro sz
  refine Met.ofW (cc := cc) (maxL := maxL) (ret := (some .int)) hy hw ?_
  intro p e s m args below meth c s₁ B hml hv
  obtain ⟨rfl, hsz, hP, hK, hD0, hRO, hdis, hN⟩ := hv
  have hx := B.exec
  have hb := B.bytes
  have hr := B.returns
  have hts := atoms_spec (ws := wl) B.pre
  have hown : s.vm.findClass own = some m.cls := ho ▸ findClass_of_methodNamed B.named
  have hlocks := B.notSynchronized
  have hRA := j_ros hsz hRO hdis
  subst hsz
  have hD := hD0.self (sz := s.heap.size)
  rw [lg_entry_eq]
  have hl := lv_entry av (n := maxL) hlen
  refine body (p, l, e, (headSpec wl rm).room, s, m, av.toArray, below, meth, c, MQ below (_) av.toArray s rm.cells rm.slots (va_A w0 s.heap.size), D, Y, va_A w0 s.heap.size, s.heap, RO) ⟨⟨hx, hb, hml, hown, hts⟩, hK, fun q h => Or.inr h, ⟨rfl, rfl, rfl, rfl⟩, hRO, hRA, hN⟩ ?_ s.heap [] _ hP hD va_S.rf hl
  intro k n w1 lc pc ev hk hn hp hd H locs ls hP hD hS hl
  exact W.widen hk hn (W.iret hx hb hr (fun t ht hW => ⟨⟨_, w1, rfl, ⟨ev, rfl, hp⟩, by rw [ht]; exact hP, hD⟩, hS.F ht⟩) hS.2.2 hd hlocks)
def jRz (X : jX) (cc : ByteArray) (nL mc ms : Nat) (post : Int → va_W → Prop) : Prop := ∀ (k n : Nat) (w1 : va_W) (lc : List (Nat × Value)) (pc : Nat) (e : Int), k ≤ mc → n ≤ ms → (e = 0 ∨ e = 1) → post e w1 → decode cc pc = .ok (.ireturn, 1) → jW X nL k n w1 lc pc [vI e]
theorem j_ofz {l : Launch} {y : MethodName} {wl ws' : List Cond} {rm : Room} {D : va_G} {Y : Nat → ClassId} {RO w0 : va_W} {av : List Value} {post : Int → va_W → Prop} {cc : ByteArray} {maxL : Nat} (own : String) (hy : plainName y.cls = true) (hw : wl = Cond.code y cc maxL (some .boolean) :: ws') (ho : y.cls = own) (hlen : (lg_sl av).length ≤ maxL) (body : ∀ X : jX, jC X cc maxL own wl rm D Y RO → jRz X cc maxL rm.cells rm.slots post → jW X maxL 0 0 w0 (lv_args 0 av) 0 []) : jMi l y wl rm D Y RO av w0 post := by
  intro sz
  refine Met.ofW (cc := cc) (maxL := maxL) (ret := (some .boolean)) hy hw ?_
  intro p e s m args below meth c s₁ B hml hv
  obtain ⟨rfl, hsz, hP, hK, hD0, hRO, hdis, hN⟩ := hv
  have hx := B.exec
  have hb := B.bytes
  have hr := B.returns
  have hts := atoms_spec (ws := wl) B.pre
  have hown : s.vm.findClass own = some m.cls := ho ▸ findClass_of_methodNamed B.named
  have hlocks := B.notSynchronized
  have hRA := j_ros hsz hRO hdis
  subst hsz
  have hD := hD0.self (sz := s.heap.size)
  rw [lg_entry_eq]
  have hl := lv_entry av (n := maxL) hlen
  refine body (p, l, e, (headSpec wl rm).room, s, m, av.toArray, below, meth, c, MQ below (_) av.toArray s rm.cells rm.slots (va_A w0 s.heap.size), D, Y, va_A w0 s.heap.size, s.heap, RO) ⟨⟨hx, hb, hml, hown, hts⟩, hK, fun q h => Or.inr h, ⟨rfl, rfl, rfl, rfl⟩, hRO, hRA, hN⟩ ?_ s.heap [] _ hP hD va_S.rf hl
  intro k n w1 lc pc ev hk hn hz hp hd H locs ls hP hD hS hl
  exact W.widen hk hn (W.zret hx hb hr (by rcases hz with rfl | rfl <;> rfl) (fun t ht hW => ⟨⟨_, w1, rfl, ⟨ev, rfl, hp⟩, by rw [ht]; exact hP, hD⟩, hS.F ht⟩) hS.2.2 hd hlocks)
def jRl (X : jX) (cc : ByteArray) (nL mc ms : Nat) (post : Int → va_W → Prop) : Prop := ∀ (k n : Nat) (w1 : va_W) (lc : List (Nat × Value)) (pc : Nat) (e : Int), k ≤ mc → n ≤ ms → post e w1 → decode cc pc = .ok (.lreturn, 1) → jW X nL k n w1 lc pc [vL e]
theorem j_ofl {l : Launch} {y : MethodName} {wl ws' : List Cond} {rm : Room} {D : va_G} {Y : Nat → ClassId} {RO w0 : va_W} {av : List Value} {post : Int → va_W → Prop} {cc : ByteArray} {maxL : Nat} (own : String) (hy : plainName y.cls = true) (hw : wl = Cond.code y cc maxL (some .long) :: ws') (ho : y.cls = own) (hlen : (lg_sl av).length ≤ maxL) (body : ∀ X : jX, jC X cc maxL own wl rm D Y RO → jRl X cc maxL rm.cells rm.slots post → jW X maxL 0 0 w0 (lv_args 0 av) 0 []) : jMl l y wl rm D Y RO av w0 post := by
  intro sz
  refine Met.ofW (cc := cc) (maxL := maxL) (ret := (some .long)) hy hw ?_
  intro p e s m args below meth c s₁ B hml hv
  obtain ⟨rfl, hsz, hP, hK, hD0, hRO, hdis, hN⟩ := hv
  have hx := B.exec
  have hb := B.bytes
  have hr := B.returns
  have hts := atoms_spec (ws := wl) B.pre
  have hown : s.vm.findClass own = some m.cls := ho ▸ findClass_of_methodNamed B.named
  have hlocks := B.notSynchronized
  have hRA := j_ros hsz hRO hdis
  subst hsz
  have hD := hD0.self (sz := s.heap.size)
  rw [lg_entry_eq]
  have hl := lv_entry av (n := maxL) hlen
  refine body (p, l, e, (headSpec wl rm).room, s, m, av.toArray, below, meth, c, MQ below (_) av.toArray s rm.cells rm.slots (va_A w0 s.heap.size), D, Y, va_A w0 s.heap.size, s.heap, RO) ⟨⟨hx, hb, hml, hown, hts⟩, hK, fun q h => Or.inr h, ⟨rfl, rfl, rfl, rfl⟩, hRO, hRA, hN⟩ ?_ s.heap [] _ hP hD va_S.rf hl
  intro k n w1 lc pc ev hk hn hp hd H locs ls hP hD hS hl
  exact W.widen hk hn (W.lret hx hb hr (fun t ht hW => ⟨⟨_, w1, rfl, ⟨ev, rfl, hp⟩, by rw [ht]; exact hP, hD⟩, hS.F ht⟩) hS.2.2 hd hlocks)
def jRr (X : jX) (cc : ByteArray) (nL mc ms : Nat) (post : Option Nat → va_W → Prop) : Prop := ∀ (k n : Nat) (w1 : va_W) (lc : List (Nat × Value)) (pc : Nat) (e : Option Nat), k ≤ mc → n ≤ ms → post e w1 → decode cc pc = .ok (.areturn, 1) → jW X nL k n w1 lc pc [va_rf e]
theorem j_ofr {l : Launch} {y : MethodName} {wl ws' : List Cond} {rm : Room} {D : va_G} {Y : Nat → ClassId} {RO w0 : va_W} {av : List Value} {post : Option Nat → va_W → Prop} {cc : ByteArray} {maxL : Nat} {rt : String} (own : String) (hy : plainName y.cls = true) (hw : wl = Cond.code y cc maxL (some (.object rt)) :: ws') (ho : y.cls = own) (hlen : (lg_sl av).length ≤ maxL) (body : ∀ X : jX, jC X cc maxL own wl rm D Y RO → jRr X cc maxL rm.cells rm.slots post → jW X maxL 0 0 w0 (lv_args 0 av) 0 []) : jMr l y wl rm D Y RO av w0 post := by
  intro sz
  refine Met.ofW (cc := cc) (maxL := maxL) (ret := (some (.object rt))) hy hw ?_
  intro p e s m args below meth c s₁ B hml hv
  obtain ⟨rfl, hsz, hP, hK, hD0, hRO, hdis, hN⟩ := hv
  have hx := B.exec
  have hb := B.bytes
  have hr := B.returns
  have hts := atoms_spec (ws := wl) B.pre
  have hown : s.vm.findClass own = some m.cls := ho ▸ findClass_of_methodNamed B.named
  have hlocks := B.notSynchronized
  have hRA := j_ros hsz hRO hdis
  subst hsz
  have hD := hD0.self (sz := s.heap.size)
  rw [lg_entry_eq]
  have hl := lv_entry av (n := maxL) hlen
  refine body (p, l, e, (headSpec wl rm).room, s, m, av.toArray, below, meth, c, MQ below (_) av.toArray s rm.cells rm.slots (va_A w0 s.heap.size), D, Y, va_A w0 s.heap.size, s.heap, RO) ⟨⟨hx, hb, hml, hown, hts⟩, hK, fun q h => Or.inr h, ⟨rfl, rfl, rfl, rfl⟩, hRO, hRA, hN⟩ ?_ s.heap [] _ hP hD va_S.rf hl
  intro k n w1 lc pc ev hk hn hp hd H locs ls hP hD hS hl
  exact W.widen hk hn (W.aret hx hb hr (Or.inl ⟨_, rfl⟩) (by cases ev with | none => exact Or.inl rfl | some a => exact Or.inr ⟨a, rfl⟩) (fun t ht hW => ⟨⟨ev, w1, rfl, hp, by rw [ht]; exact hP, hD⟩, hS.F ht⟩) hS.2.2 hd hlocks)
theorem j_cell2 {D : va_G} {wc RO : va_W} {H : Heap} {q : Nat × va_E} (hq : q ∈ wc ∨ q ∈ RO) (hP : va_P D vwCl wc H) (hR : va_P D vwCl RO H) : va_P D vwCl [q] H := by
  have hat : va_at D vwCl q H := by
    rcases hq with hq | hq
    · obtain ⟨k, hk⟩ := List.mem_iff_getElem?.mp hq
      exact hP k q hk
    · obtain ⟨k, hk⟩ := List.mem_iff_getElem?.mp hq
      exact hR k q hk
  intro k r hr
  cases k with
  | zero => cases hr; exact hat
  | succ k => simp at hr
theorem j_callVv {X : jX} {cc : ByteArray} {nL : Nat} {own : String} {Ts : List Cond} {rm : Room} {D : va_G} {Y : Nat → ClassId} {RO : va_W} {k n : Nat} {ws : va_W} {lc : List (Nat × Value)} {pc : Nat} {st stk As : List Value} {b : Nat} {y : MethodName} {wl wl' : List Cond} {rm' : Room} {post : va_W → Prop} {bytes : ByteArray} {maxL index na : Nat} (C : jC X cc nL own Ts rm D Y RO) (isC isR : List Nat) {wc wr : va_W} (hM : ∀ l, jMv l y wl rm' D Y (wr ++ RO) (.ref b :: As) wc post) (hC : isC.map (fun i => ws[i]?) = wc.map some) (hR0 : isR.map (fun i => ws[i]?) = wr.map some) (hnC : va_nd isC = true) (hnR : va_nd isR = true) (hdis : ∀ i ∈ isR, i ∉ isC) {ret : Option FieldType} (hw : wl = Cond.code y bytes maxL ret :: wl') {Cn : String} {T : u_T} {N ci : Nat} {fs : List Value} (hq : (b, oC ci fs) ∈ wc ∨ (b, oC ci fs) ∈ wr ++ RO) (hci : vwCl[ci]? = some (Cn, T, N)) (g : GoodIn Ts (wsV own index Cn y wl)) (hd0 : y.cls = Cn ∧ y.cls ≠ "java/lang/invoke/MethodHandle" ∧ y.cls ≠ "java/lang/invoke/VarHandle" ∧ (parseMethodDescriptor y.desc).map (fun d => d.parameters.length) = some na) (hRm : rm'.frames + 1 ≤ rm.frames ∧ 8 + (maxL + 11) + rm'.locals ≤ rm.locals) (hstk : stk = As.reverse ++ .ref b :: st) (hna : As.length = na) (hcat : (st.map fun v => v.category).sum ≤ 8) (hroom : k + rm'.cells ≤ rm.cells ∧ n + rm'.slots ≤ rm.slots) (hd : decode cc pc = .ok (.invokevirtual index, 3)) (kk : ∀ w1 : va_W, post w1 → jW X nL (k + rm'.cells) (n + rm'.slots) (wr ++ w1) lc (pc + 3) st) : jW X nL k n ws lc pc stk := by
  obtain ⟨p, l, e, R, s, m, args, below, meth, c, Q, D', Y', A, H0, RO'⟩ := X
  obtain ⟨⟨hx, hb, hml, hown, hts⟩, hK, hA, ⟨rfl, rfl, rfl, rfl⟩, hR, hRA, hN⟩ := C
  intro H locs ls hP hD hS hl
  subst hstk
  have hPc := j_sub hP isC hC
  have hDc := hD.sub isC hnC hC
  have hFc := va_free hD hS hA isC hC
  have hROc := j_ro2 hP hR hRA hS isR hR0
  have hap := j_ap hD hRA isC isR hC hR0 hdis
  refine va_callv (va_runV (As := As) (rest := st) ⟨hx, hb, hml, hown, hts⟩ (hM l _) (cwV na hts g hw rfl rfl hd0 hRm) ⟨jPre.blind, va_recv hK (j_cell2 hq hPc hROc) hci (q0 := 0) rfl, fun U hU hW => ⟨rfl, by rw [hU], by rw [hU]; exact hPc, va_K.moved hW.alike hK, hDc.weaken (fun _ _ _ _ => trivial), by rw [hU]; exact hROc, hap, hN.warm hW⟩⟩ rfl hna hl.1 rfl (lv_room hcat) hd hroom) hS (fun q _ h => hFc q h) hFc (fun w1 t H1 locs1 ht hvm hw1 hB hz1 hk1 hS => ?_)
  obtain ⟨hP1, hD1⟩ := hB
  rw [ht] at hP1
  obtain ⟨hP, hD⟩ := va_join hP hD isC isR hC hR0 hnR hdis hk1 hFc hP1 hD1
  exact kk w1 hw1 H1 locs1 ls hP hD hS hl
theorem j_callVi {X : jX} {cc : ByteArray} {nL : Nat} {own : String} {Ts : List Cond} {rm : Room} {D : va_G} {Y : Nat → ClassId} {RO : va_W} {k n : Nat} {ws : va_W} {lc : List (Nat × Value)} {pc : Nat} {st stk As : List Value} {b : Nat} {y : MethodName} {wl wl' : List Cond} {rm' : Room} {post : Int → va_W → Prop} {bytes : ByteArray} {maxL index na : Nat} (C : jC X cc nL own Ts rm D Y RO) (isC isR : List Nat) {wc wr : va_W} (hM : ∀ l, jMi l y wl rm' D Y (wr ++ RO) (.ref b :: As) wc post) (hC : isC.map (fun i => ws[i]?) = wc.map some) (hR0 : isR.map (fun i => ws[i]?) = wr.map some) (hnC : va_nd isC = true) (hnR : va_nd isR = true) (hdis : ∀ i ∈ isR, i ∉ isC) {ret : Option FieldType} (hw : wl = Cond.code y bytes maxL ret :: wl') {Cn : String} {T : u_T} {N ci : Nat} {fs : List Value} (hq : (b, oC ci fs) ∈ wc ∨ (b, oC ci fs) ∈ wr ++ RO) (hci : vwCl[ci]? = some (Cn, T, N)) (g : GoodIn Ts (wsV own index Cn y wl)) (hd0 : y.cls = Cn ∧ y.cls ≠ "java/lang/invoke/MethodHandle" ∧ y.cls ≠ "java/lang/invoke/VarHandle" ∧ (parseMethodDescriptor y.desc).map (fun d => d.parameters.length) = some na) (hRm : rm'.frames + 1 ≤ rm.frames ∧ 8 + (maxL + 11) + rm'.locals ≤ rm.locals) (hstk : stk = As.reverse ++ .ref b :: st) (hna : As.length = na) (hcat : (st.map fun v => v.category).sum ≤ 8) (hroom : k + rm'.cells ≤ rm.cells ∧ n + rm'.slots ≤ rm.slots) (hd : decode cc pc = .ok (.invokevirtual index, 3)) (kk : ∀ (ev : Int) (w1 : va_W), post ev w1 → jW X nL (k + rm'.cells) (n + rm'.slots) (wr ++ w1) lc (pc + 3) (vI ev :: st)) : jW X nL k n ws lc pc stk := by
  obtain ⟨p, l, e, R, s, m, args, below, meth, c, Q, D', Y', A, H0, RO'⟩ := X
  obtain ⟨⟨hx, hb, hml, hown, hts⟩, hK, hA, ⟨rfl, rfl, rfl, rfl⟩, hR, hRA, hN⟩ := C
  intro H locs ls hP hD hS hl
  subst hstk
  have hPc := j_sub hP isC hC
  have hDc := hD.sub isC hnC hC
  have hFc := va_free hD hS hA isC hC
  have hROc := j_ro2 hP hR hRA hS isR hR0
  have hap := j_ap hD hRA isC isR hC hR0 hdis
  refine va_calli (va_runV (As := As) (rest := st) ⟨hx, hb, hml, hown, hts⟩ (hM l _) (cwV na hts g hw rfl rfl hd0 hRm) ⟨jPre.blind, va_recv hK (j_cell2 hq hPc hROc) hci (q0 := 0) rfl, fun U hU hW => ⟨rfl, by rw [hU], by rw [hU]; exact hPc, va_K.moved hW.alike hK, hDc.weaken (fun _ _ _ _ => trivial), by rw [hU]; exact hROc, hap, hN.warm hW⟩⟩ rfl hna hl.1 rfl (lv_room hcat) hd hroom) hS (fun q _ h => hFc q h) hFc (fun r w1 t H1 locs1 ht hvm hw1 hB hz1 hk1 hS => ?_)
  obtain ⟨hP1, hD1⟩ := hB
  rw [ht] at hP1
  obtain ⟨hP, hD⟩ := va_join hP hD isC isR hC hR0 hnR hdis hk1 hFc hP1 hD1
  obtain ⟨ev, rfl, hp⟩ := hw1
  exact kk ev w1 hp H1 locs1 ls hP hD hS hl
theorem j_callVl {X : jX} {cc : ByteArray} {nL : Nat} {own : String} {Ts : List Cond} {rm : Room} {D : va_G} {Y : Nat → ClassId} {RO : va_W} {k n : Nat} {ws : va_W} {lc : List (Nat × Value)} {pc : Nat} {st stk As : List Value} {b : Nat} {y : MethodName} {wl wl' : List Cond} {rm' : Room} {post : Int → va_W → Prop} {bytes : ByteArray} {maxL index na : Nat} (C : jC X cc nL own Ts rm D Y RO) (isC isR : List Nat) {wc wr : va_W} (hM : ∀ l, jMl l y wl rm' D Y (wr ++ RO) (.ref b :: As) wc post) (hC : isC.map (fun i => ws[i]?) = wc.map some) (hR0 : isR.map (fun i => ws[i]?) = wr.map some) (hnC : va_nd isC = true) (hnR : va_nd isR = true) (hdis : ∀ i ∈ isR, i ∉ isC) {ret : Option FieldType} (hw : wl = Cond.code y bytes maxL ret :: wl') {Cn : String} {T : u_T} {N ci : Nat} {fs : List Value} (hq : (b, oC ci fs) ∈ wc ∨ (b, oC ci fs) ∈ wr ++ RO) (hci : vwCl[ci]? = some (Cn, T, N)) (g : GoodIn Ts (wsV own index Cn y wl)) (hd0 : y.cls = Cn ∧ y.cls ≠ "java/lang/invoke/MethodHandle" ∧ y.cls ≠ "java/lang/invoke/VarHandle" ∧ (parseMethodDescriptor y.desc).map (fun d => d.parameters.length) = some na) (hRm : rm'.frames + 1 ≤ rm.frames ∧ 8 + (maxL + 11) + rm'.locals ≤ rm.locals) (hstk : stk = As.reverse ++ .ref b :: st) (hna : As.length = na) (hcat : (st.map fun v => v.category).sum ≤ 8) (hroom : k + rm'.cells ≤ rm.cells ∧ n + rm'.slots ≤ rm.slots) (hd : decode cc pc = .ok (.invokevirtual index, 3)) (kk : ∀ (ev : Int) (w1 : va_W), post ev w1 → jW X nL (k + rm'.cells) (n + rm'.slots) (wr ++ w1) lc (pc + 3) (vL ev :: st)) : jW X nL k n ws lc pc stk := by
  obtain ⟨p, l, e, R, s, m, args, below, meth, c, Q, D', Y', A, H0, RO'⟩ := X
  obtain ⟨⟨hx, hb, hml, hown, hts⟩, hK, hA, ⟨rfl, rfl, rfl, rfl⟩, hR, hRA, hN⟩ := C
  intro H locs ls hP hD hS hl
  subst hstk
  have hPc := j_sub hP isC hC
  have hDc := hD.sub isC hnC hC
  have hFc := va_free hD hS hA isC hC
  have hROc := j_ro2 hP hR hRA hS isR hR0
  have hap := j_ap hD hRA isC isR hC hR0 hdis
  refine va_calll (va_runV (As := As) (rest := st) ⟨hx, hb, hml, hown, hts⟩ (hM l _) (cwV na hts g hw rfl rfl hd0 hRm) ⟨jPre.blind, va_recv hK (j_cell2 hq hPc hROc) hci (q0 := 0) rfl, fun U hU hW => ⟨rfl, by rw [hU], by rw [hU]; exact hPc, va_K.moved hW.alike hK, hDc.weaken (fun _ _ _ _ => trivial), by rw [hU]; exact hROc, hap, hN.warm hW⟩⟩ rfl hna hl.1 rfl (lv_room hcat) hd hroom) hS (fun q _ h => hFc q h) hFc (fun r w1 t H1 locs1 ht hvm hw1 hB hz1 hk1 hS => ?_)
  obtain ⟨hP1, hD1⟩ := hB
  rw [ht] at hP1
  obtain ⟨hP, hD⟩ := va_join hP hD isC isR hC hR0 hnR hdis hk1 hFc hP1 hD1
  obtain ⟨ev, rfl, hp⟩ := hw1
  exact kk ev w1 hp H1 locs1 ls hP hD hS hl
theorem j_callVr {X : jX} {cc : ByteArray} {nL : Nat} {own : String} {Ts : List Cond} {rm : Room} {D : va_G} {Y : Nat → ClassId} {RO : va_W} {k n : Nat} {ws : va_W} {lc : List (Nat × Value)} {pc : Nat} {st stk As : List Value} {b : Nat} {y : MethodName} {wl wl' : List Cond} {rm' : Room} {post : Option Nat → va_W → Prop} {bytes : ByteArray} {maxL index na : Nat} (C : jC X cc nL own Ts rm D Y RO) (isC isR : List Nat) {wc wr : va_W} (hM : ∀ l, jMr l y wl rm' D Y (wr ++ RO) (.ref b :: As) wc post) (hC : isC.map (fun i => ws[i]?) = wc.map some) (hR0 : isR.map (fun i => ws[i]?) = wr.map some) (hnC : va_nd isC = true) (hnR : va_nd isR = true) (hdis : ∀ i ∈ isR, i ∉ isC) {ret : Option FieldType} (hw : wl = Cond.code y bytes maxL ret :: wl') {Cn : String} {T : u_T} {N ci : Nat} {fs : List Value} (hq : (b, oC ci fs) ∈ wc ∨ (b, oC ci fs) ∈ wr ++ RO) (hci : vwCl[ci]? = some (Cn, T, N)) (g : GoodIn Ts (wsV own index Cn y wl)) (hd0 : y.cls = Cn ∧ y.cls ≠ "java/lang/invoke/MethodHandle" ∧ y.cls ≠ "java/lang/invoke/VarHandle" ∧ (parseMethodDescriptor y.desc).map (fun d => d.parameters.length) = some na) (hRm : rm'.frames + 1 ≤ rm.frames ∧ 8 + (maxL + 11) + rm'.locals ≤ rm.locals) (hstk : stk = As.reverse ++ .ref b :: st) (hna : As.length = na) (hcat : (st.map fun v => v.category).sum ≤ 8) (hroom : k + rm'.cells ≤ rm.cells ∧ n + rm'.slots ≤ rm.slots) (hd : decode cc pc = .ok (.invokevirtual index, 3)) (kk : ∀ (ev : Option Nat) (w1 : va_W), post ev w1 → jW X nL (k + rm'.cells) (n + rm'.slots) (wr ++ w1) lc (pc + 3) (va_rf ev :: st)) : jW X nL k n ws lc pc stk := by
  obtain ⟨p, l, e, R, s, m, args, below, meth, c, Q, D', Y', A, H0, RO'⟩ := X
  obtain ⟨⟨hx, hb, hml, hown, hts⟩, hK, hA, ⟨rfl, rfl, rfl, rfl⟩, hR, hRA, hN⟩ := C
  intro H locs ls hP hD hS hl
  subst hstk
  have hPc := j_sub hP isC hC
  have hDc := hD.sub isC hnC hC
  have hFc := va_free hD hS hA isC hC
  have hROc := j_ro2 hP hR hRA hS isR hR0
  have hap := j_ap hD hRA isC isR hC hR0 hdis
  refine va_callq (va_runV (As := As) (rest := st) ⟨hx, hb, hml, hown, hts⟩ (hM l _) (cwV na hts g hw rfl rfl hd0 hRm) ⟨jPre.blind, va_recv hK (j_cell2 hq hPc hROc) hci (q0 := 0) rfl, fun U hU hW => ⟨rfl, by rw [hU], by rw [hU]; exact hPc, va_K.moved hW.alike hK, hDc.weaken (fun _ _ _ _ => trivial), by rw [hU]; exact hROc, hap, hN.warm hW⟩⟩ rfl hna hl.1 rfl (lv_room hcat) hd hroom) hS (fun q _ h => hFc q h) hFc (fun r w1 t H1 locs1 ht hvm hw1 hB hz1 hk1 hS => ?_)
  obtain ⟨hP1, hD1⟩ := hB
  rw [ht] at hP1
  obtain ⟨hP, hD⟩ := va_join hP hD isC isR hC hR0 hnR hdis hk1 hFc hP1 hD1
  exact kk r w1 hw1 H1 locs1 ls hP hD hS hl
theorem j_callUi {X : jX} {cc : ByteArray} {nL : Nat} {own : String} {Ts : List Cond} {rm : Room} {D : va_G} {Y : Nat → ClassId} {RO : va_W} {k n : Nat} {ws : va_W} {lc : List (Nat × Value)} {pc : Nat} {st stk As : List Value} {b : Nat} {y : MethodName} {wl wl' : List Cond} {rm' : Room} {post : Int → va_W → Prop} {bytes : ByteArray} {maxL index na : Nat} (C : jC X cc nL own Ts rm D Y RO) (isC isR : List Nat) {wc wr : va_W} (hM : ∀ l, jMi l y wl rm' D Y (wr ++ RO) (.ref b :: As) wc post) (hC : isC.map (fun i => ws[i]?) = wc.map some) (hR0 : isR.map (fun i => ws[i]?) = wr.map some) (hnC : va_nd isC = true) (hnR : va_nd isR = true) (hdis : ∀ i ∈ isR, i ∉ isC) {ret : Option FieldType} (hw : wl = Cond.code y bytes maxL ret :: wl') {Cn owner : String} {x0 : MethodName} {T : u_T} {N ci : Nat} {fs : List Value} (hq : (b, oC ci fs) ∈ wc ∨ (b, oC ci fs) ∈ wr ++ RO) (hci : vwCl[ci]? = some (Cn, T, N)) (g : GoodIn Ts (va_wsU own index Cn owner x0 y wl)) (hyx : y = ⟨owner, x0.name, x0.desc⟩) (hd0 : owner ≠ "java/lang/invoke/MethodHandle" ∧ owner ≠ "java/lang/invoke/VarHandle" ∧ (parseMethodDescriptor x0.desc).map (fun d => d.parameters.length) = some na) (hRm : rm'.frames + 1 ≤ rm.frames ∧ 8 + (maxL + 11) + rm'.locals ≤ rm.locals) (hstk : stk = As.reverse ++ .ref b :: st) (hna : As.length = na) (hcat : (st.map fun v => v.category).sum ≤ 8) (hroom : k + rm'.cells ≤ rm.cells ∧ n + rm'.slots ≤ rm.slots) (hd : decode cc pc = .ok (.invokevirtual index, 3)) (kk : ∀ (ev : Int) (w1 : va_W), post ev w1 → jW X nL (k + rm'.cells) (n + rm'.slots) (wr ++ w1) lc (pc + 3) (vI ev :: st)) : jW X nL k n ws lc pc stk := by
  obtain ⟨p, l, e, R, s, m, args, below, meth, c, Q, D', Y', A, H0, RO'⟩ := X
  obtain ⟨⟨hx, hb, hml, hown, hts⟩, hK, hA, ⟨rfl, rfl, rfl, rfl⟩, hR, hRA, hN⟩ := C
  intro H locs ls hP hD hS hl
  subst hstk
  have hPc := j_sub hP isC hC
  have hDc := hD.sub isC hnC hC
  have hFc := va_free hD hS hA isC hC
  have hROc := j_ro2 hP hR hRA hS isR hR0
  have hap := j_ap hD hRA isC isR hC hR0 hdis
  refine va_calli (va_runU (As := As) (rest := st) ⟨hx, hb, hml, hown, hts⟩ (hM l _) (va_cwU na hts g hw rfl rfl hyx hd0 hRm) ⟨jPre.blind, va_recv hK (j_cell2 hq hPc hROc) hci (q0 := 0) rfl, fun U hU hW => ⟨rfl, by rw [hU], by rw [hU]; exact hPc, va_K.moved hW.alike hK, hDc.weaken (fun _ _ _ _ => trivial), by rw [hU]; exact hROc, hap, hN.warm hW⟩⟩ rfl hna hl.1 rfl (lv_room hcat) hd hroom) hS (fun q _ h => hFc q h) hFc (fun r w1 t H1 locs1 ht hvm hw1 hB hz1 hk1 hS => ?_)
  obtain ⟨hP1, hD1⟩ := hB
  rw [ht] at hP1
  obtain ⟨hP, hD⟩ := va_join hP hD isC isR hC hR0 hnR hdis hk1 hFc hP1 hD1
  obtain ⟨ev, rfl, hp⟩ := hw1
  exact kk ev w1 hp H1 locs1 ls hP hD hS hl
theorem j_callOi {X : jX} {cc : ByteArray} {nL : Nat} {own : String} {Ts : List Cond} {rm : Room} {D : va_G} {Y : Nat → ClassId} {RO : va_W} {k n : Nat} {ws : va_W} {lc : List (Nat × Value)} {pc : Nat} {st stk As : List Value} {b : Nat} {y : MethodName} {wl wl' : List Cond} {rm' : Room} {post : Int → va_W → Prop} {bytes : ByteArray} {maxL index na : Nat} (C : jC X cc nL own Ts rm D Y RO) (isC isR : List Nat) {wc wr : va_W} (hM : ∀ l, jMi l y wl rm' D Y (wr ++ RO) (.ref b :: As) wc post) (hC : isC.map (fun i => ws[i]?) = wc.map some) (hR0 : isR.map (fun i => ws[i]?) = wr.map some) (hnC : va_nd isC = true) (hnR : va_nd isR = true) (hdis : ∀ i ∈ isR, i ∉ isC) {ret : Option FieldType} (hw : wl = Cond.code y bytes maxL ret :: wl') {Cn owner : String} {x0 : MethodName} {T : u_T} {N ci : Nat} {fs : List Value} {b0 : ByteArray} {m0 : Nat} {r0 : Option FieldType} (hq : (b, oC ci fs) ∈ wc ∨ (b, oC ci fs) ∈ wr ++ RO) (hci : vwCl[ci]? = some (Cn, T, N)) (g : GoodIn Ts (va_wsO own index Cn owner x0 y wl)) (h0 : Cond.code ⟨owner, x0.name, x0.desc⟩ b0 m0 r0 ∈ Ts) (hd0 : owner ≠ "java/lang/invoke/MethodHandle" ∧ owner ≠ "java/lang/invoke/VarHandle" ∧ (parseMethodDescriptor x0.desc).map (fun d => d.parameters.length) = some na) (hRm : rm'.frames + 1 ≤ rm.frames ∧ 8 + (maxL + 11) + rm'.locals ≤ rm.locals) (hstk : stk = As.reverse ++ .ref b :: st) (hna : As.length = na) (hcat : (st.map fun v => v.category).sum ≤ 8) (hroom : k + rm'.cells ≤ rm.cells ∧ n + rm'.slots ≤ rm.slots) (hd : decode cc pc = .ok (.invokevirtual index, 3)) (kk : ∀ (ev : Int) (w1 : va_W), post ev w1 → jW X nL (k + rm'.cells) (n + rm'.slots) (wr ++ w1) lc (pc + 3) (vI ev :: st)) : jW X nL k n ws lc pc stk := by
  obtain ⟨p, l, e, R, s, m, args, below, meth, c, Q, D', Y', A, H0, RO'⟩ := X
  obtain ⟨⟨hx, hb, hml, hown, hts⟩, hK, hA, ⟨rfl, rfl, rfl, rfl⟩, hR, hRA, hN⟩ := C
  intro H locs ls hP hD hS hl
  subst hstk
  have hPc := j_sub hP isC hC
  have hDc := hD.sub isC hnC hC
  have hFc := va_free hD hS hA isC hC
  have hROc := j_ro2 hP hR hRA hS isR hR0
  have hap := j_ap hD hRA isC isR hC hR0 hdis
  refine va_calli (va_runU (As := As) (rest := st) ⟨hx, hb, hml, hown, hts⟩ (hM l _) (va_cwO na hts g hw rfl rfl h0 hd0 hRm) ⟨jPre.blind, va_recv hK (j_cell2 hq hPc hROc) hci (q0 := 0) rfl, fun U hU hW => ⟨rfl, by rw [hU], by rw [hU]; exact hPc, va_K.moved hW.alike hK, hDc.weaken (fun _ _ _ _ => trivial), by rw [hU]; exact hROc, hap, hN.warm hW⟩⟩ rfl hna hl.1 rfl (lv_room hcat) hd hroom) hS (fun q _ h => hFc q h) hFc (fun r w1 t H1 locs1 ht hvm hw1 hB hz1 hk1 hS => ?_)
  obtain ⟨hP1, hD1⟩ := hB
  rw [ht] at hP1
  obtain ⟨hP, hD⟩ := va_join hP hD isC isR hC hR0 hnR hdis hk1 hFc hP1 hD1
  obtain ⟨ev, rfl, hp⟩ := hw1
  exact kk ev w1 hp H1 locs1 ls hP hD hS hl
theorem j_callSv {X : jX} {cc : ByteArray} {nL : Nat} {own : String} {Ts : List Cond} {rm : Room} {D : va_G} {Y : Nat → ClassId} {RO : va_W} {k n : Nat} {ws : va_W} {lc : List (Nat × Value)} {pc : Nat} {st stk As : List Value} {y : MethodName} {wl wl' : List Cond} {rm' : Room} {post : va_W → Prop} {bytes : ByteArray} {maxL index na : Nat} (C : jC X cc nL own Ts rm D Y RO) (isC isR : List Nat) {wc wr : va_W} (hM : ∀ l, jMv l y wl rm' D Y (wr ++ RO) As wc post) (hC : isC.map (fun i => ws[i]?) = wc.map some) (hR0 : isR.map (fun i => ws[i]?) = wr.map some) (hnC : va_nd isC = true) (hnR : va_nd isR = true) (hdis : ∀ i ∈ isR, i ∉ isC) {ret : Option FieldType} (hw : wl = Cond.code y bytes maxL ret :: wl') (g : GoodIn Ts (va_wsS own index y wl)) (hd0 : y.cls ≠ "java/lang/invoke/MethodHandle" ∧ y.cls ≠ "java/lang/invoke/VarHandle" ∧ (parseMethodDescriptor y.desc).map (fun d => d.parameters.length) = some na) (hRm : rm'.frames + 1 ≤ rm.frames ∧ 8 + (maxL + 11) + rm'.locals ≤ rm.locals) (hstk : stk = As.reverse ++ st) (hna : As.length = na) (hcat : (st.map fun v => v.category).sum ≤ 8) (hroom : k + rm'.cells ≤ rm.cells ∧ n + rm'.slots ≤ rm.slots) (hd : decode cc pc = .ok (.invokestatic index, 3)) (kk : ∀ w1 : va_W, post w1 → jW X nL (k + rm'.cells) (n + rm'.slots) (wr ++ w1) lc (pc + 3) st) : jW X nL k n ws lc pc stk := by
  obtain ⟨p, l, e, R, s, m, args, below, meth, c, Q, D', Y', A, H0, RO'⟩ := X
  obtain ⟨⟨hx, hb, hml, hown, hts⟩, hK, hA, ⟨rfl, rfl, rfl, rfl⟩, hR, hRA, hN⟩ := C
  intro H locs ls hP hD hS hl
  subst hstk
  have hPc := j_sub hP isC hC
  have hDc := hD.sub isC hnC hC
  have hFc := va_free hD hS hA isC hC
  have hROc := j_ro2 hP hR hRA hS isR hR0
  have hap := j_ap hD hRA isC isR hC hR0 hdis
  refine va_callv (va_runS (As := As) (rest := st) ⟨hx, hb, hml, hown, hts⟩ (hM l _) (va_cwS na hts g hw rfl rfl hd0 hRm) ⟨jPre.blind, fun U hU hW => ⟨rfl, by rw [hU], by rw [hU]; exact hPc, va_K.moved hW.alike hK, hDc.weaken (fun _ _ _ _ => trivial), by rw [hU]; exact hROc, hap, hN.warm hW⟩⟩ rfl hna hl.1 rfl (lv_room hcat) hd hroom) hS (fun q _ h => hFc q h) hFc (fun w1 t H1 locs1 ht hvm hw1 hB hz1 hk1 hS => ?_)
  obtain ⟨hP1, hD1⟩ := hB
  rw [ht] at hP1
  obtain ⟨hP, hD⟩ := va_join hP hD isC isR hC hR0 hnR hdis hk1 hFc hP1 hD1
  exact kk w1 hw1 H1 locs1 ls hP hD hS hl
theorem j_callSi {X : jX} {cc : ByteArray} {nL : Nat} {own : String} {Ts : List Cond} {rm : Room} {D : va_G} {Y : Nat → ClassId} {RO : va_W} {k n : Nat} {ws : va_W} {lc : List (Nat × Value)} {pc : Nat} {st stk As : List Value} {y : MethodName} {wl wl' : List Cond} {rm' : Room} {post : Int → va_W → Prop} {bytes : ByteArray} {maxL index na : Nat} (C : jC X cc nL own Ts rm D Y RO) (isC isR : List Nat) {wc wr : va_W} (hM : ∀ l, jMi l y wl rm' D Y (wr ++ RO) As wc post) (hC : isC.map (fun i => ws[i]?) = wc.map some) (hR0 : isR.map (fun i => ws[i]?) = wr.map some) (hnC : va_nd isC = true) (hnR : va_nd isR = true) (hdis : ∀ i ∈ isR, i ∉ isC) {ret : Option FieldType} (hw : wl = Cond.code y bytes maxL ret :: wl') (g : GoodIn Ts (va_wsS own index y wl)) (hd0 : y.cls ≠ "java/lang/invoke/MethodHandle" ∧ y.cls ≠ "java/lang/invoke/VarHandle" ∧ (parseMethodDescriptor y.desc).map (fun d => d.parameters.length) = some na) (hRm : rm'.frames + 1 ≤ rm.frames ∧ 8 + (maxL + 11) + rm'.locals ≤ rm.locals) (hstk : stk = As.reverse ++ st) (hna : As.length = na) (hcat : (st.map fun v => v.category).sum ≤ 8) (hroom : k + rm'.cells ≤ rm.cells ∧ n + rm'.slots ≤ rm.slots) (hd : decode cc pc = .ok (.invokestatic index, 3)) (kk : ∀ (ev : Int) (w1 : va_W), post ev w1 → jW X nL (k + rm'.cells) (n + rm'.slots) (wr ++ w1) lc (pc + 3) (vI ev :: st)) : jW X nL k n ws lc pc stk := by
  obtain ⟨p, l, e, R, s, m, args, below, meth, c, Q, D', Y', A, H0, RO'⟩ := X
  obtain ⟨⟨hx, hb, hml, hown, hts⟩, hK, hA, ⟨rfl, rfl, rfl, rfl⟩, hR, hRA, hN⟩ := C
  intro H locs ls hP hD hS hl
  subst hstk
  have hPc := j_sub hP isC hC
  have hDc := hD.sub isC hnC hC
  have hFc := va_free hD hS hA isC hC
  have hROc := j_ro2 hP hR hRA hS isR hR0
  have hap := j_ap hD hRA isC isR hC hR0 hdis
  refine va_calli (va_runS (As := As) (rest := st) ⟨hx, hb, hml, hown, hts⟩ (hM l _) (va_cwS na hts g hw rfl rfl hd0 hRm) ⟨jPre.blind, fun U hU hW => ⟨rfl, by rw [hU], by rw [hU]; exact hPc, va_K.moved hW.alike hK, hDc.weaken (fun _ _ _ _ => trivial), by rw [hU]; exact hROc, hap, hN.warm hW⟩⟩ rfl hna hl.1 rfl (lv_room hcat) hd hroom) hS (fun q _ h => hFc q h) hFc (fun r w1 t H1 locs1 ht hvm hw1 hB hz1 hk1 hS => ?_)
  obtain ⟨hP1, hD1⟩ := hB
  rw [ht] at hP1
  obtain ⟨hP, hD⟩ := va_join hP hD isC isR hC hR0 hnR hdis hk1 hFc hP1 hD1
  obtain ⟨ev, rfl, hp⟩ := hw1
  exact kk ev w1 hp H1 locs1 ls hP hD hS hl
theorem j_callSl {X : jX} {cc : ByteArray} {nL : Nat} {own : String} {Ts : List Cond} {rm : Room} {D : va_G} {Y : Nat → ClassId} {RO : va_W} {k n : Nat} {ws : va_W} {lc : List (Nat × Value)} {pc : Nat} {st stk As : List Value} {y : MethodName} {wl wl' : List Cond} {rm' : Room} {post : Int → va_W → Prop} {bytes : ByteArray} {maxL index na : Nat} (C : jC X cc nL own Ts rm D Y RO) (isC isR : List Nat) {wc wr : va_W} (hM : ∀ l, jMl l y wl rm' D Y (wr ++ RO) As wc post) (hC : isC.map (fun i => ws[i]?) = wc.map some) (hR0 : isR.map (fun i => ws[i]?) = wr.map some) (hnC : va_nd isC = true) (hnR : va_nd isR = true) (hdis : ∀ i ∈ isR, i ∉ isC) {ret : Option FieldType} (hw : wl = Cond.code y bytes maxL ret :: wl') (g : GoodIn Ts (va_wsS own index y wl)) (hd0 : y.cls ≠ "java/lang/invoke/MethodHandle" ∧ y.cls ≠ "java/lang/invoke/VarHandle" ∧ (parseMethodDescriptor y.desc).map (fun d => d.parameters.length) = some na) (hRm : rm'.frames + 1 ≤ rm.frames ∧ 8 + (maxL + 11) + rm'.locals ≤ rm.locals) (hstk : stk = As.reverse ++ st) (hna : As.length = na) (hcat : (st.map fun v => v.category).sum ≤ 8) (hroom : k + rm'.cells ≤ rm.cells ∧ n + rm'.slots ≤ rm.slots) (hd : decode cc pc = .ok (.invokestatic index, 3)) (kk : ∀ (ev : Int) (w1 : va_W), post ev w1 → jW X nL (k + rm'.cells) (n + rm'.slots) (wr ++ w1) lc (pc + 3) (vL ev :: st)) : jW X nL k n ws lc pc stk := by
  obtain ⟨p, l, e, R, s, m, args, below, meth, c, Q, D', Y', A, H0, RO'⟩ := X
  obtain ⟨⟨hx, hb, hml, hown, hts⟩, hK, hA, ⟨rfl, rfl, rfl, rfl⟩, hR, hRA, hN⟩ := C
  intro H locs ls hP hD hS hl
  subst hstk
  have hPc := j_sub hP isC hC
  have hDc := hD.sub isC hnC hC
  have hFc := va_free hD hS hA isC hC
  have hROc := j_ro2 hP hR hRA hS isR hR0
  have hap := j_ap hD hRA isC isR hC hR0 hdis
  refine va_calll (va_runS (As := As) (rest := st) ⟨hx, hb, hml, hown, hts⟩ (hM l _) (va_cwS na hts g hw rfl rfl hd0 hRm) ⟨jPre.blind, fun U hU hW => ⟨rfl, by rw [hU], by rw [hU]; exact hPc, va_K.moved hW.alike hK, hDc.weaken (fun _ _ _ _ => trivial), by rw [hU]; exact hROc, hap, hN.warm hW⟩⟩ rfl hna hl.1 rfl (lv_room hcat) hd hroom) hS (fun q _ h => hFc q h) hFc (fun r w1 t H1 locs1 ht hvm hw1 hB hz1 hk1 hS => ?_)
  obtain ⟨hP1, hD1⟩ := hB
  rw [ht] at hP1
  obtain ⟨hP, hD⟩ := va_join hP hD isC isR hC hR0 hnR hdis hk1 hFc hP1 hD1
  obtain ⟨ev, rfl, hp⟩ := hw1
  exact kk ev w1 hp H1 locs1 ls hP hD hS hl
theorem j_callSr {X : jX} {cc : ByteArray} {nL : Nat} {own : String} {Ts : List Cond} {rm : Room} {D : va_G} {Y : Nat → ClassId} {RO : va_W} {k n : Nat} {ws : va_W} {lc : List (Nat × Value)} {pc : Nat} {st stk As : List Value} {y : MethodName} {wl wl' : List Cond} {rm' : Room} {post : Option Nat → va_W → Prop} {bytes : ByteArray} {maxL index na : Nat} (C : jC X cc nL own Ts rm D Y RO) (isC isR : List Nat) {wc wr : va_W} (hM : ∀ l, jMr l y wl rm' D Y (wr ++ RO) As wc post) (hC : isC.map (fun i => ws[i]?) = wc.map some) (hR0 : isR.map (fun i => ws[i]?) = wr.map some) (hnC : va_nd isC = true) (hnR : va_nd isR = true) (hdis : ∀ i ∈ isR, i ∉ isC) {ret : Option FieldType} (hw : wl = Cond.code y bytes maxL ret :: wl') (g : GoodIn Ts (va_wsS own index y wl)) (hd0 : y.cls ≠ "java/lang/invoke/MethodHandle" ∧ y.cls ≠ "java/lang/invoke/VarHandle" ∧ (parseMethodDescriptor y.desc).map (fun d => d.parameters.length) = some na) (hRm : rm'.frames + 1 ≤ rm.frames ∧ 8 + (maxL + 11) + rm'.locals ≤ rm.locals) (hstk : stk = As.reverse ++ st) (hna : As.length = na) (hcat : (st.map fun v => v.category).sum ≤ 8) (hroom : k + rm'.cells ≤ rm.cells ∧ n + rm'.slots ≤ rm.slots) (hd : decode cc pc = .ok (.invokestatic index, 3)) (kk : ∀ (ev : Option Nat) (w1 : va_W), post ev w1 → jW X nL (k + rm'.cells) (n + rm'.slots) (wr ++ w1) lc (pc + 3) (va_rf ev :: st)) : jW X nL k n ws lc pc stk := by
  obtain ⟨p, l, e, R, s, m, args, below, meth, c, Q, D', Y', A, H0, RO'⟩ := X
  obtain ⟨⟨hx, hb, hml, hown, hts⟩, hK, hA, ⟨rfl, rfl, rfl, rfl⟩, hR, hRA, hN⟩ := C
  intro H locs ls hP hD hS hl
  subst hstk
  have hPc := j_sub hP isC hC
  have hDc := hD.sub isC hnC hC
  have hFc := va_free hD hS hA isC hC
  have hROc := j_ro2 hP hR hRA hS isR hR0
  have hap := j_ap hD hRA isC isR hC hR0 hdis
  refine va_callq (va_runS (As := As) (rest := st) ⟨hx, hb, hml, hown, hts⟩ (hM l _) (va_cwS na hts g hw rfl rfl hd0 hRm) ⟨jPre.blind, fun U hU hW => ⟨rfl, by rw [hU], by rw [hU]; exact hPc, va_K.moved hW.alike hK, hDc.weaken (fun _ _ _ _ => trivial), by rw [hU]; exact hROc, hap, hN.warm hW⟩⟩ rfl hna hl.1 rfl (lv_room hcat) hd hroom) hS (fun q _ h => hFc q h) hFc (fun r w1 t H1 locs1 ht hvm hw1 hB hz1 hk1 hS => ?_)
  obtain ⟨hP1, hD1⟩ := hB
  rw [ht] at hP1
  obtain ⟨hP, hD⟩ := va_join hP hD isC isR hC hR0 hnR hdis hk1 hFc hP1 hD1
  exact kk r w1 hw1 H1 locs1 ls hP hD hS hl
theorem j_callSNi {X : jX} {cc : ByteArray} {nL : Nat} {own : String} {Ts : List Cond} {rm : Room} {D : va_G} {Y : Nat → ClassId} {RO : va_W} {k n : Nat} {ws : va_W} {lc : List (Nat × Value)} {pc : Nat} {st stk As : List Value} {y : MethodName} {wl wl' : List Cond} {rm' : Room} {post : Int → va_W → Prop} {bytes : ByteArray} {maxL index na : Nat} (C : jC X cc nL own Ts rm D Y RO) (isC isR : List Nat) {wc wr : va_W} (hM : ∀ l, jMi l y wl rm' D Y (wr ++ RO) As wc post) (hC : isC.map (fun i => ws[i]?) = wc.map some) (hR0 : isR.map (fun i => ws[i]?) = wr.map some) (hnC : va_nd isC = true) (hnR : va_nd isR = true) (hdis : ∀ i ∈ isR, i ∉ isC) {ret : Option FieldType} (hw : wl = Cond.code y bytes maxL ret :: wl') {host : String} (g : GoodIn Ts wl) (hst : Cond.static y ∈ Ts) (hini : Cond.initialized y.cls ∈ Ts) (hnw : ∀ U, jN U → va_Nw (.methodLinkNest own index y host) U) (hd0 : y.cls ≠ "java/lang/invoke/MethodHandle" ∧ y.cls ≠ "java/lang/invoke/VarHandle" ∧ (parseMethodDescriptor y.desc).map (fun d => d.parameters.length) = some na) (hRm : rm'.frames + 1 ≤ rm.frames ∧ 8 + (maxL + 11) + rm'.locals ≤ rm.locals) (hstk : stk = As.reverse ++ st) (hna : As.length = na) (hcat : (st.map fun v => v.category).sum ≤ 8) (hroom : k + rm'.cells ≤ rm.cells ∧ n + rm'.slots ≤ rm.slots) (hd : decode cc pc = .ok (.invokestatic index, 3)) (kk : ∀ (ev : Int) (w1 : va_W), post ev w1 → jW X nL (k + rm'.cells) (n + rm'.slots) (wr ++ w1) lc (pc + 3) (vI ev :: st)) : jW X nL k n ws lc pc stk := by
  obtain ⟨p, l, e, R, s, m, args, below, meth, c, Q, D', Y', A, H0, RO'⟩ := X
  obtain ⟨⟨hx, hb, hml, hown, hts⟩, hK, hA, ⟨rfl, rfl, rfl, rfl⟩, hR, hRA, hN⟩ := C
  intro H locs ls hP hD hS hl
  subst hstk
  have hPc := j_sub hP isC hC
  have hDc := hD.sub isC hnC hC
  have hFc := va_free hD hS hA isC hC
  have hROc := j_ro2 hP hR hRA hS isR hR0
  have hap := j_ap hD hRA isC isR hC hR0 hdis
  refine va_calli (va_runSN (As := As) (rest := st) ⟨hx, hb, hml, hown, hts⟩ (hM l _) ⟨va_cnB na hts g hw rfl rfl (hnw s hN) (hts _ hini) hd0 hRm, hts _ hst, trivial⟩ ⟨jPre.blind, fun U hU hW => ⟨rfl, by rw [hU], by rw [hU]; exact hPc, va_K.moved hW.alike hK, hDc.weaken (fun _ _ _ _ => trivial), by rw [hU]; exact hROc, hap, hN.warm hW⟩⟩ rfl hna hl.1 rfl (lv_room hcat) hd hroom) hS (fun q _ h => hFc q h) hFc (fun r w1 t H1 locs1 ht hvm hw1 hB hz1 hk1 hS => ?_)
  obtain ⟨hP1, hD1⟩ := hB
  rw [ht] at hP1
  obtain ⟨hP, hD⟩ := va_join hP hD isC isR hC hR0 hnR hdis hk1 hFc hP1 hD1
  obtain ⟨ev, rfl, hp⟩ := hw1
  exact kk ev w1 hp H1 locs1 ls hP hD hS hl
theorem j_callIv {X : jX} {cc : ByteArray} {nL : Nat} {own : String} {Ts : List Cond} {rm : Room} {D : va_G} {Y : Nat → ClassId} {RO : va_W} {k n : Nat} {ws : va_W} {lc : List (Nat × Value)} {pc : Nat} {st stk As : List Value} {b : Nat} {y : MethodName} {wl wl' : List Cond} {rm' : Room} {post : va_W → Prop} {bytes : ByteArray} {maxL index na : Nat} (C : jC X cc nL own Ts rm D Y RO) (isC isR : List Nat) {wc wr : va_W} (hM : ∀ l, jMv l y wl rm' D Y (wr ++ RO) (.ref b :: As) wc post) (hC : isC.map (fun i => ws[i]?) = wc.map some) (hR0 : isR.map (fun i => ws[i]?) = wr.map some) (hnC : va_nd isC = true) (hnR : va_nd isR = true) (hdis : ∀ i ∈ isR, i ∉ isC) (hw : wl = Cond.code y bytes maxL none :: wl') (g : GoodIn Ts wl) (hini : Cond.initialized y.cls ∈ Ts) (hlk : Cond.methodLink own index y ∈ Ts) (hinst : Cond.instanceMethod y ∈ Ts) (hy1 : y.name = "<init>") (hd0 : y.cls ≠ "java/lang/invoke/MethodHandle" ∧ y.cls ≠ "java/lang/invoke/VarHandle" ∧ (parseMethodDescriptor y.desc).map (fun d => d.parameters.length) = some na) (hRm : rm'.frames + 1 ≤ rm.frames ∧ 8 + (maxL + 11) + rm'.locals ≤ rm.locals) (hstk : stk = As.reverse ++ .ref b :: st) (hna : As.length = na) (hcat : (st.map fun v => v.category).sum ≤ 8) (hroom : k + rm'.cells ≤ rm.cells ∧ n + rm'.slots ≤ rm.slots) (hd : decode cc pc = .ok (.invokespecial index, 3)) (kk : ∀ w1 : va_W, post w1 → jW X nL (k + rm'.cells) (n + rm'.slots) (wr ++ w1) lc (pc + 3) st) : jW X nL k n ws lc pc stk := by
  obtain ⟨p, l, e, R, s, m, args, below, meth, c, Q, D', Y', A, H0, RO'⟩ := X
  obtain ⟨⟨hx, hb, hml, hown, hts⟩, hK, hA, ⟨rfl, rfl, rfl, rfl⟩, hR, hRA, hN⟩ := C
  intro H locs ls hP hD hS hl
  subst hstk
  have hPc := j_sub hP isC hC
  have hDc := hD.sub isC hnC hC
  have hFc := va_free hD hS hA isC hC
  have hROc := j_ro2 hP hR hRA hS isR hR0
  have hap := j_ap hD hRA isC isR hC hR0 hdis
  refine va_callv (va_runI (As := As) (rest := st) ⟨hx, hb, hml, hown, hts⟩ (hM l _) (cwI na hts g hw rfl rfl (hts _ hini) (hts _ hlk) (hts _ hinst) hy1 hd0 hRm) ⟨jPre.blind, fun U hU hW => ⟨rfl, by rw [hU], by rw [hU]; exact hPc, va_K.moved hW.alike hK, hDc.weaken (fun _ _ _ _ => trivial), by rw [hU]; exact hROc, hap, hN.warm hW⟩⟩ rfl hna hl.1 rfl (lv_room hcat) hd hroom) hS (fun q _ h => hFc q h) hFc (fun w1 t H1 locs1 ht hvm hw1 hB hz1 hk1 hS => ?_)
  obtain ⟨hP1, hD1⟩ := hB
  rw [ht] at hP1
  obtain ⟨hP, hD⟩ := va_join hP hD isC isR hC hR0 hnR hdis hk1 hFc hP1 hD1
  exact kk w1 hw1 H1 locs1 ls hP hD hS hl
theorem j_callINv {X : jX} {cc : ByteArray} {nL : Nat} {own : String} {Ts : List Cond} {rm : Room} {D : va_G} {Y : Nat → ClassId} {RO : va_W} {k n : Nat} {ws : va_W} {lc : List (Nat × Value)} {pc : Nat} {st stk As : List Value} {b : Nat} {y : MethodName} {wl wl' : List Cond} {rm' : Room} {post : va_W → Prop} {bytes : ByteArray} {maxL index na : Nat} (C : jC X cc nL own Ts rm D Y RO) (isC isR : List Nat) {wc wr : va_W} (hM : ∀ l, jMv l y wl rm' D Y (wr ++ RO) (.ref b :: As) wc post) (hC : isC.map (fun i => ws[i]?) = wc.map some) (hR0 : isR.map (fun i => ws[i]?) = wr.map some) (hnC : va_nd isC = true) (hnR : va_nd isR = true) (hdis : ∀ i ∈ isR, i ∉ isC) (hw : wl = Cond.code y bytes maxL none :: wl') {host : String} (g : GoodIn Ts wl) (hini : Cond.initialized y.cls ∈ Ts) (hinst : Cond.instanceMethod y ∈ Ts) (hnw : ∀ U, jN U → va_Nw (.methodLinkNest own index y host) U) (hy1 : y.name = "<init>") (hd0 : y.cls ≠ "java/lang/invoke/MethodHandle" ∧ y.cls ≠ "java/lang/invoke/VarHandle" ∧ (parseMethodDescriptor y.desc).map (fun d => d.parameters.length) = some na) (hRm : rm'.frames + 1 ≤ rm.frames ∧ 8 + (maxL + 11) + rm'.locals ≤ rm.locals) (hstk : stk = As.reverse ++ .ref b :: st) (hna : As.length = na) (hcat : (st.map fun v => v.category).sum ≤ 8) (hroom : k + rm'.cells ≤ rm.cells ∧ n + rm'.slots ≤ rm.slots) (hd : decode cc pc = .ok (.invokespecial index, 3)) (kk : ∀ w1 : va_W, post w1 → jW X nL (k + rm'.cells) (n + rm'.slots) (wr ++ w1) lc (pc + 3) st) : jW X nL k n ws lc pc stk := by
  obtain ⟨p, l, e, R, s, m, args, below, meth, c, Q, D', Y', A, H0, RO'⟩ := X
  obtain ⟨⟨hx, hb, hml, hown, hts⟩, hK, hA, ⟨rfl, rfl, rfl, rfl⟩, hR, hRA, hN⟩ := C
  intro H locs ls hP hD hS hl
  subst hstk
  have hPc := j_sub hP isC hC
  have hDc := hD.sub isC hnC hC
  have hFc := va_free hD hS hA isC hC
  have hROc := j_ro2 hP hR hRA hS isR hR0
  have hap := j_ap hD hRA isC isR hC hR0 hdis
  refine va_callv (va_runIN (As := As) (rest := st) ⟨hx, hb, hml, hown, hts⟩ (hM l _) ⟨va_cnB na hts g hw rfl rfl (hnw s hN) (hts _ hini) hd0 hRm, hy1, hts _ hinst⟩ ⟨jPre.blind, fun U hU hW => ⟨rfl, by rw [hU], by rw [hU]; exact hPc, va_K.moved hW.alike hK, hDc.weaken (fun _ _ _ _ => trivial), by rw [hU]; exact hROc, hap, hN.warm hW⟩⟩ rfl hna hl.1 rfl (lv_room hcat) hd hroom) hS (fun q _ h => hFc q h) hFc (fun w1 t H1 locs1 ht hvm hw1 hB hz1 hk1 hS => ?_)
  obtain ⟨hP1, hD1⟩ := hB
  rw [ht] at hP1
  obtain ⟨hP, hD⟩ := va_join hP hD isC isR hC hR0 hnR hdis hk1 hFc hP1 hD1
  exact kk w1 hw1 H1 locs1 ls hP hD hS hl
