/-! p34's pictures: the law's own rows beside the moor -/
/-- marks, how: they tell the moor, while no pebble has come on a cairn of 9 -/
def LR (S : MS) (mk hw : Int → Int) : Prop := (∀ j, 0 ≤ mk j ∧ mk j ≤ ms_w S) ∧ (hw 0 = ms_w S ∧ hw 1 = ms_l S ∧ hw 2 = ms_a S ∧ hw 3 = ms_t S ∧ hw 5 = ms_p S) ∧ (hw 6 = 0 ∨ hw 6 = 1) ∧ (hw 6 = 0 → ∀ c, 0 ≤ c → c < 7 → ms_h S c ≤ 9 ∧ ∀ j, 0 ≤ j → j < ms_h S c → mk (9 * c + j) = ms_m S (60 * c + j))
theorem LR_full {S : MS} {mk hw : Int → Int} {c y : Int} (h : LR S mk hw) (e : ms_h S c = 60) : LR (putS c y S) mk (up hw 5 (hw 5 + 1)) := by
  rw [putS_full e]
  obtain ⟨h1, ⟨a, b, c', d, f⟩, h3, h4⟩ := h
  exact ⟨h1, ⟨a, b, c', d, congrArg (· + 1) f⟩, h3, h4⟩
theorem LR_high {S : MS} {mk hw : Int → Int} {c y : Int} (h : LR S mk hw) (e : ¬ ms_h S c = 60) : LR (putS c y S) mk (up hw 6 1) := by
  rw [putS_not e]
  obtain ⟨h1, h2, h3, h4⟩ := h
  exact ⟨h1, h2, Or.inr rfl, fun q => absurd q (by show ¬ (1 : Int) = 0; decide)⟩
theorem LR_low {S : MS} {mk hw : Int → Int} {c x y : Int} (hS : okS S) (h : LR S mk hw) (hc : 0 ≤ c ∧ c < 7) (e : ms_h S c < 9) (hx : 0 ≤ x ∧ x ≤ ms_w S) (hxy : hw 6 = 0 → x = y) : LR (putS c y S) (up mk (9 * c + ms_h S c) x) hw := by
  rw [putS_not (by omega)]
  obtain ⟨h1, h2, h3, h4⟩ := h
  have hh := hS.1 c hc
  refine ⟨fun j => ?_, h2, h3, fun q c' hc0 hc1 => ?_⟩
  · show 0 ≤ up mk _ x j ∧ up mk _ x j ≤ ms_w S
    unfold up
    split
    · exact hx
    · exact h1 j
  · obtain ⟨g1, g2⟩ := h4 q c' hc0 hc1
    have hh' := hS.1 c' ⟨hc0, hc1⟩
    show up (ms_h S) c (ms_h S c + 1) c' ≤ 9 ∧ ∀ j, 0 ≤ j → j < up (ms_h S) c (ms_h S c + 1) c' → up mk (9 * c + ms_h S c) x (9 * c' + j) = up (ms_m S) (60 * c + ms_h S c) y (60 * c' + j)
    by_cases z : c' = c
    · subst z
      rw [up_same]
      refine ⟨by omega, fun j j0 j1 => ?_⟩
      by_cases w : j = ms_h S c'
      · rw [w, up_same, up_same]; exact hxy q
      · rw [up_ne _ _ _ _ (by omega), up_ne _ _ _ _ (by omega)]
        exact g2 j j0 (by omega)
    · rw [up_ne _ _ _ _ z]
      refine ⟨g1, fun j j0 j1 => ?_⟩
      rw [up_ne _ _ _ _ (by omega), up_ne _ _ _ _ (by omega)]
      exact g2 j j0 j1
theorem LR_L {S : MS} {mk hw : Int → Int} (v : Int) (h : LR S mk hw) : LR (setL S v) mk (up hw 1 v) := by
  obtain ⟨h1, ⟨a, b, c', d, f⟩, h3, h4⟩ := h
  exact ⟨h1, ⟨a, rfl, c', d, f⟩, h3, h4⟩
theorem LR_A {S : MS} {mk hw : Int → Int} (n : Int) (h : LR S mk hw) : LR (setA S (ms_a S + n)) mk (up hw 2 (hw 2 + n)) := by
  obtain ⟨h1, ⟨a, b, c', d, f⟩, h3, h4⟩ := h
  exact ⟨h1, ⟨a, b, congrArg (· + n) c', d, f⟩, h3, h4⟩
theorem LR_D {S : MS} {mk hw : Int → Int} (v : Int) (h : LR S mk hw) : LR (setD S v) mk hw := h
theorem LR_W {S : MS} {mk hw : Int → Int} (h : LR S mk hw) : LR (setW S (ms_w S + 1)) mk (up hw 0 (hw 0 + 1)) := by
  obtain ⟨h1, ⟨a, b, c', d, f⟩, h3, h4⟩ := h
  exact ⟨fun j => by have := h1 j; show 0 ≤ mk j ∧ mk j ≤ ms_w S + 1; omega, ⟨congrArg (· + 1) a, b, c', d, f⟩, h3, h4⟩
theorem LR_H {S : MS} {mk hw : Int → Int} {c v : Int} (hv : v ≤ ms_h S c) (h : LR S mk hw) : LR (setH S (up (ms_h S) c v)) mk hw := by
  obtain ⟨h1, h2, h3, h4⟩ := h
  refine ⟨h1, h2, h3, fun q c' hc0 hc1 => ?_⟩
  obtain ⟨g1, g2⟩ := h4 q c' hc0 hc1
  show up (ms_h S) c v c' ≤ 9 ∧ ∀ j, 0 ≤ j → j < up (ms_h S) c v c' → mk (9 * c' + j) = ms_m S (60 * c' + j)
  by_cases z : c' = c
  · subst z
    rw [up_same]
    exact ⟨by omega, fun j j0 j1 => g2 j j0 (by omega)⟩
  · rw [up_ne _ _ _ _ z]
    exact ⟨g1, g2⟩
theorem LR_T {S : MS} {mk hw : Int → Int} (n : Int) (h : LR S mk hw) : LR (ms_h S, ms_m S, ms_w S, ms_l S, ms_s S, ms_a S, ms_t S + n, ms_p S) mk (up hw 3 (hw 3 + n)) := by
  obtain ⟨h1, ⟨a, b, c', d, f⟩, h3, h4⟩ := h
  exact ⟨h1, ⟨a, b, c', congrArg (· + n) d, f⟩, h3, h4⟩
theorem LR_take {S : MS} {mk hw : Int → Int} {c n : Int} (hn : 0 ≤ offS c n S) (h : LR S mk hw) : LR (takeS c n S) mk (up hw 3 (hw 3 + offS c n S)) :=
  LR_T (S := setH S (up (ms_h S) c (ms_h S c - offS c n S))) (offS c n S) (LR_H (by omega) h)
theorem offS_in {S : MS} {c n : Int} (hS : okS S) (hc : 0 ≤ c ∧ c < 7) (hn : 0 ≤ n) : 0 ≤ offS c n S ∧ offS c n S ≤ ms_h S c := by
  have := hS.1 c hc
  unfold offS
  split <;> omega
-- the last cairn is told first
theorem putN_setL (c n v : Int) (S : MS) : putN c n (setL S v) = setL (putN c n S) v := by
  unfold putN fo
  induction n.toNat with
  | zero => rfl
  | succ k ih => show putW c (foldI _ k _) = setL (putW c (foldI _ k _)) v; rw [ih]; exact putS_setL c _ v _
theorem layS_setL (c n v : Int) (S : MS) : layS c n (setL S v) = setL (layS c n S) v := by
  unfold layS
  rw [putN_setL]
  rfl
theorem wish_alt (C : CT) (P : PT) (num : Int) (S : MS) : wishS C P num S = layS (ruleS (cw C) num S) (giftP P) (setL S (ruleS (cw C) num S)) := by
  rw [layS_setL]
  rfl
theorem steal_setL (c to v : Int) (S : MS) : stealS c to (setL S v) = setL (stealS c to S) v := by
  unfold stealS
  split
  · rfl
  · by_cases q : ms_h S c = 0
    · rw [if_pos (show ms_h (setL S v) c = 0 from q), if_pos q]
    · rw [if_neg (show ¬ ms_h (setL S v) c = 0 from q), if_neg q, ← putS_setL]
      rfl
theorem sin_alt (C : CT) (P : PT) (num : Int) (S : MS) : sinS C P num S = stealS (fromS C P num S) (hideP P) (setL S (fromS C P num S)) := by
  rw [steal_setL]
  rfl
theorem lay_succ {c n : Int} {S : MS} (h : 0 ≤ n) : putN c (n + 1) S = putS c (ms_w (putN c n S)) (putN c n S) := putN_succ h
-- a rule's cairn, by heights and the last
def ruleL (rl : Int) (h : Int → Int) (last num : Int) : Int := if rl = 7 then mostI h else if rl = 8 then leastI h else if rl = 9 then num else if rl = 10 then (last + 1) % 7 else rl
theorem ruleL_S (rl num : Int) (S : MS) : ruleL rl (ms_h S) (ms_l S) num = ruleS rl num S := rfl
def mxP (h : Int → Int) (c b : Int) : Prop := (0 ≤ b ∧ b < 7) ∧ (b = 0 ∨ c < b) ∧ (∀ j, c < j → j < 7 → h j ≤ h b) ∧ ∀ j, c < j → j < b → h j < h b
theorem mx_0 (h : Int → Int) : mxP h 6 0 := ⟨by decide, Or.inl rfl, fun j a b => by omega, fun j a b => by omega⟩
theorem mx_take {h : Int → Int} {c b : Int} (hc : 0 ≤ c ∧ c < 7) (p : mxP h c b) (q : h b ≤ h c) : mxP h (c - 1) c := by
  obtain ⟨p1, p2, p3, p4⟩ := p
  refine ⟨hc, Or.inr (by omega), fun j a z => ?_, fun j a z => by omega⟩
  by_cases e : j = c
  · rw [e]; exact Int.le_refl _
  · exact Int.le_trans (p3 j (by omega) z) q
theorem mx_keep {h : Int → Int} {c b : Int} (hc : 0 ≤ c ∧ c < 7) (p : mxP h c b) (q : h c < h b) : mxP h (c - 1) b := by
  obtain ⟨p1, p2, p3, p4⟩ := p
  refine ⟨p1, p2.imp id (fun z => by omega), fun j a z => ?_, fun j a z => ?_⟩
  · by_cases e : j = c
    · rw [e]; omega
    · exact p3 j (by omega) z
  · by_cases e : j = c
    · rw [e]; exact q
    · exact p4 j (by omega) z
theorem mostI_char (h : Int → Int) : ∀ j, 0 ≤ j → j < 7 → h j ≤ h (mostI h) ∧ (j < mostI h → h j < h (mostI h)) := by
  have := fo_ind (f := mostF h) (s := 0) (n := 7) (P := fun k b => (0 ≤ b ∧ (b < k ∨ b = 0)) ∧ ∀ j, 0 ≤ j → j < k → h j ≤ h b ∧ (j < b → h j < h b)) (by decide) ⟨by decide, fun j a b => by omega⟩ (fun k b hk _ hb => by
    obtain ⟨h1, h2⟩ := hb
    unfold mostF
    by_cases q : h b < h k
    · rw [if_pos q]
      refine ⟨by omega, fun j a z => ?_⟩
      by_cases e : j = k
      · rw [e]; exact ⟨Int.le_refl _, fun w => absurd w (Int.lt_irrefl _)⟩
      · have := (h2 j a (by omega)).1
        exact ⟨by omega, fun _ => by omega⟩
    · rw [if_neg q]
      refine ⟨by omega, fun j a z => ?_⟩
      by_cases e : j = k
      · rw [e]
        exact ⟨by omega, fun w => by omega⟩
      · exact h2 j a (by omega))
  exact this.2
theorem mx_end {h : Int → Int} {b : Int} (p : mxP h (-1) b) : mostI h = b := by
  obtain ⟨p1, p2, p3, p4⟩ := p
  have hm := mostI_in h
  have a1 := mostI_char h b p1.1 p1.2
  have b1 := p3 (mostI h) (by omega) hm.2
  rcases Int.lt_trichotomy b (mostI h) with q | q | q
  · have := a1.2 q; omega
  · exact q.symm
  · have := p4 (mostI h) (by omega) q; omega
theorem least_neg (h : Int → Int) : leastI h = mostI (fun j => - h j) := by
  unfold leastI mostI
  have e : leastF h = mostF (fun j => - h j) := by
    funext i b
    show (if h i < h b then i else b) = (if - h b < - h i then i else b)
    by_cases q : h i < h b
    · rw [if_pos q, if_pos (by omega)]
    · rw [if_neg q, if_neg (by omega)]
  rw [e]
theorem sum7 (h : Int → Int) : sumI h 7 = h 0 + h 1 + h 2 + h 3 + h 4 + h 5 + h 6 := by
  have : sumI h 7 = 0 + h 0 + h 1 + h 2 + h 3 + h 4 + h 5 + h 6 := rfl
  omega
theorem sum_up {h : Int → Int} {c : Int} (hc : 0 ≤ c ∧ c < 7) (v : Int) : sumI (up h c v) 7 = sumI h 7 - h c + v := by
  rw [sum7, sum7]
  rcases (show c = 0 ∨ c = 1 ∨ c = 2 ∨ c = 3 ∨ c = 4 ∨ c = 5 ∨ c = 6 by omega) with rfl | rfl | rfl | rfl | rfl | rfl | rfl
  · show v + h 1 + h 2 + h 3 + h 4 + h 5 + h 6 = _; omega
  · show h 0 + v + h 2 + h 3 + h 4 + h 5 + h 6 = _; omega
  · show h 0 + h 1 + v + h 3 + h 4 + h 5 + h 6 = _; omega
  · show h 0 + h 1 + h 2 + v + h 4 + h 5 + h 6 = _; omega
  · show h 0 + h 1 + h 2 + h 3 + v + h 5 + h 6 = _; omega
  · show h 0 + h 1 + h 2 + h 3 + h 4 + v + h 6 = _; omega
  · show h 0 + h 1 + h 2 + h 3 + h 4 + h 5 + v = _; omega
-- what was laid, less what was taken, less what was spilt, lies
def defS (S : MS) : Int := ms_a S - ms_t S - ms_p S - sumI (ms_h S) 7
theorem def_put {c x : Int} {S : MS} (hc : 0 ≤ c ∧ c < 7) : defS (putS c x S) = defS S - 1 := by
  by_cases q : ms_h S c = 60
  · rw [putS_full q]
    show ms_a S - ms_t S - (ms_p S + 1) - sumI (ms_h S) 7 = ms_a S - ms_t S - ms_p S - sumI (ms_h S) 7 - 1
    omega
  · rw [putS_not q]
    show ms_a S - ms_t S - ms_p S - sumI (up (ms_h S) c (ms_h S c + 1)) 7 = ms_a S - ms_t S - ms_p S - sumI (ms_h S) 7 - 1
    rw [sum_up hc]
    omega
theorem def_putN {c n : Int} {S : MS} (hc : 0 ≤ c ∧ c < 7) (hn : 0 ≤ n) : defS (putN c n S) = defS S - n := by
  refine fo_ind (P := fun k T => defS T = defS S - k) hn (by omega) (fun k T _ _ hT => ?_)
  show defS (putS c (ms_w T) T) = _
  rw [def_put hc, hT]
  omega
theorem def_lay {c n : Int} {S : MS} (hc : 0 ≤ c ∧ c < 7) (hn : 0 ≤ n) : defS (layS c n S) = defS S := by
  have h := def_putN (S := S) hc hn
  have e : defS (layS c n S) = defS (putN c n S) + n := by
    show (ms_a (putN c n S) + n) - ms_t (putN c n S) - ms_p (putN c n S) - sumI (ms_h (putN c n S)) 7 = (ms_a (putN c n S) - ms_t (putN c n S) - ms_p (putN c n S) - sumI (ms_h (putN c n S)) 7) + n
    omega
  omega
theorem def_take {c n : Int} {S : MS} (hc : 0 ≤ c ∧ c < 7) : defS (takeS c n S) = defS S := by
  show ms_a S - (ms_t S + offS c n S) - ms_p S - sumI (up (ms_h S) c (ms_h S c - offS c n S)) 7 = ms_a S - ms_t S - ms_p S - sumI (ms_h S) 7
  rw [sum_up hc]
  omega
theorem def_steal {c to : Int} {S : MS} (hc : 0 ≤ c ∧ c < 7) (ht : -1 ≤ to ∧ to < 7) : defS (stealS c to S) = defS S := by
  unfold stealS
  split
  · exact def_take hc
  split
  · rfl
  · rw [def_put (by omega)]
    show ms_a S - ms_t S - ms_p S - sumI (up (ms_h S) c (ms_h S c - 1)) 7 - 1 = ms_a S - ms_t S - ms_p S - sumI (ms_h S) 7
    rw [sum_up hc]
    omega
theorem def_walk {C : CT} {P : PT} {num : Int} {S : MS} (h : okS S) (hC : okC C) (hP : okP P) (hn : 0 ≤ num ∧ num < 7) : defS (walkS C P num S) = defS S := by
  have h1 := okS_draw h
  have h2 := okS_draw h1
  unfold walkS
  split
  · have hr := ruleS_in hC.1 hn h1
    have hg := giftP_in hP
    exact def_lay (S := drawS S) hr (by omega)
  split
  · have hr := fromS_in (P := P) h2 hC hn
    exact def_steal (S := drawS (drawS S)) hr (hideP_in hP)
  · rfl
theorem def_go {C : CT} {ps : Int → PT} {np : Int} {S : MS} (h : okS S) (hC : okC C) (hp : ∀ i, 0 ≤ i ∧ i < np → okP (ps i)) (hn : 0 ≤ np ∧ np ≤ 6) : defS (goS C ps np S) = defS S := by
  have e : defS (allS C ps np (setW S (ms_w S + 1))) = defS S := by
    have := fo_ind (f := fun p T => parS C (ps p) p (pw (ps p)) T) (s := setW S (ms_w S + 1)) (n := np) (P := fun _ T => okS T ∧ defS T = defS S) hn.1 ⟨okS_W h, rfl⟩ (fun k T h0 h1 hT => by
      have hk := hp k ⟨h0, h1⟩
      have := fo_ind (f := fun _ T => walkS C (ps k) k T) (s := T) (n := pw (ps k)) (P := fun _ U => okS U ∧ defS U = defS S) (by have := hk.2.2.2.2.1; omega) hT (fun j U _ _ hU => by
        have h5 := okS_walk (num := k) hU.1 hC hk (by omega)
        exact ⟨h5.1, (def_walk hU.1 hC hk (by omega)).trans hU.2⟩)
      exact this)
    exact this.2
  unfold goS floodS
  split
  · unfold drownS
    rw [def_take (leastI_in _), e]
  · exact e
theorem def_weeks {C : CT} {ps : Int → PT} {np n : Int} {S : MS} (h : okS S) (hC : okC C) (hp : ∀ i, 0 ≤ i ∧ i < np → okP (ps i)) (hn : 0 ≤ np ∧ np ≤ 6) (h0 : 0 ≤ n) : defS (weeksS C ps np n S) = defS S := by
  have := fo_ind (f := fun _ T => goS C ps np T) (s := S) (n := n) (P := fun k T => okS T ∧ defS T = defS S) h0 ⟨h, rfl⟩ (fun k T _ _ hT => by
    have := okS_go hT.1 hC hp hn
    exact ⟨this.1, (def_go hT.1 hC hp hn).trans hT.2⟩)
  exact this.2
/-- the row of the parishes, of a custom, of all customs -/
def RWho (np : Int) (ps : Int → PT) (who : Int → Int) : Prop := ∀ p, 0 ≤ p → p < np → who (5 * p) = pk (ps p) ∧ who (5 * p + 1) = pn (ps p) ∧ who (5 * p + 2) = pw (ps p) ∧ who (5 * p + 3) = pi (ps p) ∧ who (5 * p + 4) = pz (ps p)
def RCu (C : CT) (cu : Int → Int) : Prop := cu 0 = cw C ∧ cu 1 = cz C ∧ cu 2 = ce C
def RAll (nc : Int) (cs : Int → CT) (al : Int → Int) : Prop := ∀ t, 0 ≤ t → t < nc → al (3 * t) = cw (cs t) ∧ al (3 * t + 1) = cz (cs t) ∧ al (3 * t + 2) = ce (cs t)
theorem andmax (x : Int) : 0 ≤ andI x 2147483647 ∧ andI x 2147483647 ≤ 2147483647 := by
  have h1 : Int32.ofInt x &&& Int32.ofInt 2147483647 = Int32.ofInt (x % 2147483648) := by
    apply Int32.toBitVec.inj
    rw [Int32.toBitVec_and]
    show BitVec.ofInt 32 x &&& BitVec.ofInt 32 2147483647 = BitVec.ofInt 32 (x % 2147483648)
    apply BitVec.eq_of_toNat_eq
    rw [BitVec.toNat_and, BitVec.toNat_ofInt, BitVec.toNat_ofInt, BitVec.toNat_ofInt]
    rw [show ((2147483647 : Int) % ((2 ^ 32 : Nat) : Int)).toNat = 2 ^ 31 - 1 from rfl, Nat.and_two_pow_sub_one_eq_mod]
    omega
  unfold andI
  rw [h1, Int32.toInt_ofInt_of_le (by omega) (by omega)]
  omega
-- a page of one custom
def ltC (r : Int) : Int := if r < 7 then 48 + r else if r = 7 then 109 else if r = 8 then 108 else if r = 9 then 112 else 110
theorem ltC_rule {r : Int} (h : okR r) : ruleI (ltC r) = r ∧ 1 ≤ ltC r ∧ ltC r ≤ 126 := by
  unfold okR at h
  rcases (show r = 0 ∨ r = 1 ∨ r = 2 ∨ r = 3 ∨ r = 4 ∨ r = 5 ∨ r = 6 ∨ r = 7 ∨ r = 8 ∨ r = 9 ∨ r = 10 by omega) with rfl | rfl | rfl | rfl | rfl | rfl | rfl | rfl | rfl | rfl | rfl <;> decide
theorem fault_all {pg : Int → Int} {pl : Int} (h0 : 0 ≤ pl) (h : ∀ i, 0 ≤ i → i < pl → fitP i (pg i)) : faultI pg pl = pl := by
  unfold faultI badI
  rcases fst_cases (P := fun i => ¬ fitP i (pg i)) (n := pl) h0 with q | q
  · rw [if_pos q.1]
  · exact absurd (h _ q.1 q.2.1) q.2.2.1
theorem page4 {pg : Int → Int} {a b : Int} (ha : okR a) (hb : okR b) (h0 : pg 0 = 119) (h1 : pg 1 = ltC a) (h2 : pg 2 = 115) (h3 : pg 3 = ltC b) : ∀ i, 0 ≤ i → i < 4 → fitP i (pg i) := by
  intro i i0 i1
  have ra := (ltC_rule ha).1
  have rb := (ltC_rule hb).1
  unfold okR at ha hb
  rcases (show i = 0 ∨ i = 1 ∨ i = 2 ∨ i = 3 by omega) with rfl | rfl | rfl | rfl
  · exact Or.inl ⟨rfl, h0⟩
  · exact Or.inr (Or.inl ⟨rfl, by rw [h1, ra]; omega⟩)
  · exact Or.inr (Or.inr (Or.inl ⟨rfl, h2⟩))
  · exact Or.inr (Or.inr (Or.inr (Or.inl ⟨rfl, by rw [h3, rb]; omega⟩)))
theorem page6 {pg : Int → Int} {a b e : Int} (ha : okR a) (hb : okR b) (he : 1 ≤ e ∧ e ≤ 9) (h0 : pg 0 = 119) (h1 : pg 1 = ltC a) (h2 : pg 2 = 115) (h3 : pg 3 = ltC b) (h4 : pg 4 = 102) (h5 : pg 5 = 48 + e) : ∀ i, 0 ≤ i → i < 6 → fitP i (pg i) := by
  intro i i0 i1
  by_cases q : i < 4
  · exact page4 ha hb h0 h1 h2 h3 i i0 q
  rcases (show i = 4 ∨ i = 5 by omega) with rfl | rfl
  · exact Or.inr (Or.inr (Or.inr (Or.inr (Or.inl ⟨rfl, h4⟩))))
  · exact Or.inr (Or.inr (Or.inr (Or.inr (Or.inr ⟨rfl, by omega⟩))))
theorem cus4 {pg : Int → Int} {a b : Int} (ha : okR a) (hb : okR b) (h0 : pg 0 = 119) (h1 : pg 1 = ltC a) (h2 : pg 2 = 115) (h3 : pg 3 = ltC b) : faultI pg 4 = 4 ∧ cusP pg 4 ∧ cusI pg 4 = (a, b, 0) := by
  have f := fault_all (pl := 4) (by decide) (page4 ha hb h0 h1 h2 h3)
  refine ⟨f, ⟨Or.inl rfl, f⟩, ?_⟩
  unfold cusI
  rw [h1, h3, (ltC_rule ha).1, (ltC_rule hb).1, if_neg (by decide)]
theorem cus6 {pg : Int → Int} {a b e : Int} (ha : okR a) (hb : okR b) (he : 1 ≤ e ∧ e ≤ 9) (h0 : pg 0 = 119) (h1 : pg 1 = ltC a) (h2 : pg 2 = 115) (h3 : pg 3 = ltC b) (h4 : pg 4 = 102) (h5 : pg 5 = 48 + e) : faultI pg 6 = 6 ∧ cusP pg 6 ∧ cusI pg 6 = (a, b, e) := by
  have f := fault_all (pl := 6) (by decide) (page6 ha hb he h0 h1 h2 h3 h4 h5)
  refine ⟨f, ⟨Or.inr rfl, f⟩, ?_⟩
  unfold cusI
  rw [h1, h3, h5, (ltC_rule ha).1, (ltC_rule hb).1, if_pos rfl, show 48 + e - 48 = e by omega]
theorem ln_one {c : Int} (hc : 1 ≤ c ∧ c ≤ 126) : lnI c = 1 := by
  have e0 : codeW c 0 = c := by show c % 256 = c; omega
  have e1 : ∀ i : Int, 1 ≤ i ∧ i < 8 → codeW c i = 0 := by
    intro i hi
    rcases (show i = 1 ∨ i = 2 ∨ i = 3 ∨ i = 4 ∨ i = 5 ∨ i = 6 ∨ i = 7 by omega) with rfl | rfl | rfl | rfl | rfl | rfl | rfl
    · show c / 256 % 256 = 0; omega
    · show c / 65536 % 256 = 0; omega
    · show c / 16777216 % 256 = 0; omega
    · show c / 4294967296 % 256 = 0; omega
    · show c / 1099511627776 % 256 = 0; omega
    · show c / 281474976710656 % 256 = 0; omega
    · show c / 72057594037927936 % 256 = 0; omega
  have := fo_ind (f := lnF c) (s := 0) (n := 8) (P := fun k m => (k = 0 ∧ m = 0) ∨ (0 < k ∧ m = 1)) (by decide) (Or.inl ⟨rfl, rfl⟩) (fun k m h0 h1 h => by
    refine Or.inr ⟨by omega, ?_⟩
    unfold lnF
    rcases h with ⟨a, b⟩ | ⟨a, b⟩
    · subst a b
      rw [if_neg (by decide), e0, if_neg (by omega), if_neg (by omega)]
      rfl
    · rw [b, if_neg (by decide), e1 k (by omega), if_neg (by omega), if_pos rfl])
  unfold lnI
  omega
theorem let_one {c pl : Int} {pg : Int → Int} (hc : 1 ≤ c ∧ c ≤ 126) (hp : 0 ≤ pl ∧ pl < 16) : rLetters c pl = pl + 1 ∧ sLetN c pl = pl + 1 ∧ sLetG c pl pg = up pg pl c := by
  have e := ln_one hc
  unfold rLetters sLetN sLetG
  rw [e, if_neg (by decide), if_neg (by omega), if_neg (by decide), if_neg (by omega), if_neg (by decide), if_neg (by omega)]
  refine ⟨rfl, rfl, ?_⟩
  show up pg (pl + 0) (codeW c 0) = up pg pl c
  rw [show pl + 0 = pl by omega, show codeW c 0 = c by show c % 256 = c; omega]
theorem RWho_new {p : Int} {ps : Int → PT} {who : Int → Int} {kd n w x z : Int} (hp : 0 ≤ p) (h : RWho p ps who) : RWho (p + 1) (up ps p (kd, n, w, x, z)) (up (up (up (up (up who (5 * p) kd) (5 * p + 1) n) (5 * p + 2) w) (5 * p + 3) x) (5 * p + 4) z) := by
  intro q q0 q1
  by_cases e : q = p
  · rw [e, up_same]
    refine ⟨?_, ?_, ?_, ?_, ?_⟩
    · rw [up_ne _ _ _ _ (by omega), up_ne _ _ _ _ (by omega), up_ne _ _ _ _ (by omega), up_ne _ _ _ _ (by omega), up_same]
    · rw [up_ne _ _ _ _ (by omega), up_ne _ _ _ _ (by omega), up_ne _ _ _ _ (by omega), up_same]
    · rw [up_ne _ _ _ _ (by omega), up_ne _ _ _ _ (by omega), up_same]
    · rw [up_ne _ _ _ _ (by omega), up_same]
    · rw [up_same]
  · rw [up_ne _ _ _ _ e]
    obtain ⟨a, b, c, d, f⟩ := h q q0 (by omega)
    refine ⟨?_, ?_, ?_, ?_, ?_⟩
    · rw [up_ne _ _ _ _ (by omega), up_ne _ _ _ _ (by omega), up_ne _ _ _ _ (by omega), up_ne _ _ _ _ (by omega), up_ne _ _ _ _ (by omega)]; exact a
    · rw [up_ne _ _ _ _ (by omega), up_ne _ _ _ _ (by omega), up_ne _ _ _ _ (by omega), up_ne _ _ _ _ (by omega), up_ne _ _ _ _ (by omega)]; exact b
    · rw [up_ne _ _ _ _ (by omega), up_ne _ _ _ _ (by omega), up_ne _ _ _ _ (by omega), up_ne _ _ _ _ (by omega), up_ne _ _ _ _ (by omega)]; exact c
    · rw [up_ne _ _ _ _ (by omega), up_ne _ _ _ _ (by omega), up_ne _ _ _ _ (by omega), up_ne _ _ _ _ (by omega), up_ne _ _ _ _ (by omega)]; exact d
    · rw [up_ne _ _ _ _ (by omega), up_ne _ _ _ _ (by omega), up_ne _ _ _ _ (by omega), up_ne _ _ _ _ (by omega), up_ne _ _ _ _ (by omega)]; exact f
