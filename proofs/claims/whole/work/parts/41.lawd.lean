def LW (Y : Nat → ClassId) (k : Nat → Nat) (h : Nat) (r : Nat → Nat) (np : Int) (nc : Int) (pl : Int) (ik : Int) (S : MS) (T : MS) (U : MS) (G : GS) (v : Int → Int) (kv : Int → Int) (f : Int → Int) (mo : Int → Int) (f2 : Int → Int) (m2 : Int → Int) (z : Int → Int) (g : Int → Int) (g2 : Int → Int) (pg : Int → Int) (x : Nat) (y : Nat) (cad : Int → Nat) (pad : Int → Nat) (cs : Int → CT) (ps : Int → PT) : va_W := [((k 0), oC 8 [.ref (k 1), .ref (k 2), vI nc, .ref (k 3), vI np, .ref (k 4), .ref (k 7), vI ik, .ref (k 10), .ref (k 13), .ref (k 14)]), ((k 1), oC 3 [.ref (k 17), vI pl]), ((k 2), aQ (Y 2) 4 (orow nc cad)), ((k 3), aQ (Y 3) 6 (orow np pad)), ((k 4), oC 2 [.ref (k 5), .ref (k 6), vI (ms_w S), vI (ms_l S), vI (ms_s S), vI (ms_a S), vI (ms_t S), vI (ms_p S)]), ((k 5), aI (Y 0) 7 (ms_h S)), ((k 6), aI (Y 0) 420 (ms_m S)), ((k 7), oC 2 [.ref (k 8), .ref (k 9), vI (ms_w T), vI (ms_l T), vI (ms_s T), vI (ms_a T), vI (ms_t T), vI (ms_p T)]), ((k 8), aI (Y 0) 7 (ms_h T)), ((k 9), aI (Y 0) 420 (ms_m T)), ((k 10), oC 2 [.ref (k 11), .ref (k 12), vI (ms_w U), vI (ms_l U), vI (ms_s U), vI (ms_a U), vI (ms_t U), vI (ms_p U)]), ((k 11), aI (Y 0) 7 (ms_h U)), ((k 12), aI (Y 0) 420 (ms_m U)), ((k 13), aI (Y 0) 7 z), ((k 14), oC 7 [.ref x, .ref y]), (x, aI (Y 0) 271 g), (y, aI (Y 0) 271 g2), ((k 17), aI (Y 0) 16 pg), (h, oC 9 [.ref (r 0), .ref (r 1), vI (ms_w S), vI (ms_l S), vL (ms_s S), vI (ms_a S), vI (ms_t S), vI (ms_p S), vI (g_np G), .ref (r 9), .ref (r 10), .ref (r 11), .ref (r 12), .ref (r 13), vI (g_nc G), .ref (r 15), .ref (r 16), .ref (r 17), vI (g_pl G), .ref (r 19), vI (g_ik G), vL (g_ks G), .ref (r 22), vL (g_ss G), .ref (r 24), vI (g_fa G), vI (g_iw G), vI (g_nw G), vI (g_ns G), vI (g_ne G), .ref (r 30), .ref (r 31), .ref (r 32), .ref (r 33), vL (g_h G)]), ((r 1), aI (Y 0) 7 (ms_h S)), ((r 0), aI (Y 0) 420 (ms_m S)), ((r 9), aI (Y 0) 6 (kof ps)), ((r 10), aI (Y 0) 6 (nof ps)), ((r 11), aI (Y 0) 6 (wof ps)), ((r 12), aI (Y 0) 6 (iof ps)), ((r 13), aI (Y 0) 6 (zof ps)), ((r 15), aI (Y 0) 4 (cwof cs)), ((r 16), aI (Y 0) 4 (czof cs)), ((r 17), aI (Y 0) 4 (ceof cs)), ((r 19), aI (Y 1) 16 pg), ((r 22), aI (Y 0) 432 kv), ((r 24), aI (Y 0) 432 v), ((r 30), aI (Y 0) 271 f), ((r 31), aI (Y 0) 271 mo), ((r 32), aI (Y 0) 271 f2), ((r 33), aI (Y 0) 271 m2)]
def lawIH (X : jX) (Y : Nat → ClassId) (k : Nat → Nat) (h : Nat) (r : Nat → Nat) (b : Nat) (i : Int) : Prop := ∀ (np : Int) (nc : Int) (pl : Int) (ik : Int) (S : MS) (T : MS) (U : MS) (G : GS) (v : Int → Int) (kv : Int → Int) (f : Int → Int) (mo : Int → Int) (f2 : Int → Int) (m2 : Int → Int) (z : Int → Int) (g : Int → Int) (g2 : Int → Int) (pg : Int → Int) (x : Nat) (y : Nat) (cad : Int → Nat) (pad : Int → Nat) (cs : Int → CT) (ps : Int → PT) (kk nn : Nat), INV np nc pl ik S T G kv pg cs ps → kk ≤ 100 + i.toNat → nn ≤ 10000 + i.toNat → jW X 4 kk nn (LW Y k h r np nc pl ik S T U G v kv f mo f2 m2 z g g2 pg x y cad pad cs ps ++ PLW np nc cad pad cs ps) [(3, vI i), (2, .ref h), (1, .ref (k 0)), (0, .ref b)] 18 []
theorem lorI_in (a b : Int) : -9223372036854775808 ≤ lorI a b ∧ lorI a b ≤ 9223372036854775807 := by
  have h1 := Int64.le_toInt (Int64.ofInt a ||| Int64.ofInt b)
  have h2 := Int64.toInt_lt (Int64.ofInt a ||| Int64.ofInt b)
  unfold lorI
  omega
theorem okPg_0 {pg : Int → Int} : okPg pg 0 := ⟨by decide, fun i h0 h1 => by omega⟩
theorem ok_sRestore {ik : Int} {S T : MS} (h : okS S ∧ ms_w S ≤ 9999) (g : okS T ∧ ms_w T ≤ 9999) : okS (sRestore ik S T) ∧ ms_w (sRestore ik S T) ≤ 9999 := by
  unfold sRestore
  split
  · exact h
  · exact g
theorem okP_chS {p w v np : Int} {ps : Int → PT} (hps : ∀ i, 0 ≤ i ∧ i < np → okP (ps i)) (hp : 0 ≤ p ∧ p < np) : okP (chS p w v ps) := by
  have h := hps p hp
  obtain ⟨a, a1, a2, a3, b, c, d⟩ := h
  unfold chS
  split
  · next hm =>
    unfold mbP at hm
    unfold chP
    split
    · exact ⟨a, a1, a2, a3, show 1 ≤ v ∧ v ≤ 9 by omega, c, d⟩
    split
    · exact ⟨a, a1, a2, a3, b, show 0 ≤ v ∧ v ≤ 10 by omega, d⟩
    · exact ⟨a, a1, a2, a3, b, c, show 0 ≤ v ∧ v ≤ 10 by omega⟩
  · exact hps p hp
theorem okP_up {np q : Int} {ps : Int → PT} {P : PT} (hps : ∀ i, 0 ≤ i ∧ i < np → okP (ps i)) (hP : okP P) : ∀ i, 0 ≤ i ∧ i < np → okP (up ps q P i) := by
  intro i hi
  unfold up
  split
  · exact hP
  · exact hps i hi
theorem okP_new {np : Int} {ps : Int → PT} {P : PT} (hps : ∀ i, 0 ≤ i ∧ i < np → okP (ps i)) (hP : okP P) : ∀ i, 0 ≤ i ∧ i < np + 1 → okP (up ps np P i) := by
  intro i hi
  unfold up
  split
  · exact hP
  · exact hps i (by omega)
theorem okC_new {nc : Int} {cs : Int → CT} {C : CT} (hcs : ∀ i, 0 ≤ i ∧ i < nc → okC (cs i)) (hC : okC C) : ∀ i, 0 ≤ i ∧ i < nc + 1 → okC (up cs nc C i) := by
  intro i hi
  unfold up
  split
  · exact hC
  · exact hcs i (by omega)
theorem chS_k {p w v : Int} {ps : Int → PT} : pk (chS p w v ps) = pk (ps p) := by
  unfold chS
  split
  · unfold chP stW stI stZ
    (repeat' split) <;> rfl
  · rfl
theorem chS_n {p w v : Int} {ps : Int → PT} : pn (chS p w v ps) = pn (ps p) := by
  unfold chS
  split
  · unfold chP stW stI stZ
    (repeat' split) <;> rfl
  · rfl
theorem kof_chS {p w v : Int} {ps : Int → PT} : kof (up ps p (chS p w v ps)) = kof ps := by
  funext j
  show pk (up ps p (chS p w v ps) j) = pk (ps j)
  unfold up
  split
  · next q => rw [chS_k, q]
  · rfl
theorem nof_chS {p w v : Int} {ps : Int → PT} : nof (up ps p (chS p w v ps)) = nof ps := by
  funext j
  show pn (up ps p (chS p w v ps) j) = pn (ps j)
  unfold up
  split
  · next q => rw [chS_n, q]
  · rfl
