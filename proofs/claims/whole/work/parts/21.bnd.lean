/-! bounds: what all walkers together can do, as sets of (net, sins); rows of least or most -/
abbrev ltE (e a b : Int) : Prop := (e = 1 ∧ a < b) ∨ (e = -1 ∧ b < a)
abbrev leE (e a b : Int) : Prop := (e = 1 ∧ a ≤ b) ∨ (e = -1 ∧ b ≤ a)
/-- a row of the least (e = 1) or the most (e = -1) of A; N where there is none -/
def mtI (e N : Int) (A : Int → Int → Prop) (g : Int → Int) : Prop := ∀ j : Int, 0 ≤ j ∧ j < 271 → (g j = N ∧ ∀ c, ¬ A j c) ∨ (A j (g j) ∧ ∀ c, A j c → leE e (g j) c)
theorem mt_take {e N : Int} {A : Int → Int → Prop} {g : Int → Int} (h : mtI e N A g) (he : e = 1 ∨ e = -1) {p c : Int} (hl : ltE e c (g p)) : mtI e N (fun j x => A j x ∨ (j = p ∧ x = c)) (up g p c) := by
  intro j hj
  by_cases q : j = p
  · rw [q, up_same]
    rw [q] at hj
    refine Or.inr ⟨Or.inr ⟨rfl, rfl⟩, fun x hx => ?_⟩
    rcases hx with hx | ⟨_, hx⟩
    · rcases h p hj with ⟨_, h0⟩ | ⟨_, h1⟩
      · exact absurd hx (h0 x)
      · have := h1 x hx; omega
    · omega
  · rw [up_ne _ _ _ _ q]
    rcases h j hj with ⟨h0, h1⟩ | ⟨h0, h1⟩
    · exact Or.inl ⟨h0, fun x hx => hx.elim (h1 x) (fun z => q z.1)⟩
    · exact Or.inr ⟨Or.inl h0, fun x hx => hx.elim (h1 x) (fun z => absurd z.1 q)⟩
theorem mt_keep {e N : Int} {A : Int → Int → Prop} {g : Int → Int} (h : mtI e N A g) (he : e = 1 ∨ e = -1) {p c : Int} (hl : (0 ≤ p ∧ p < 271) → ¬ ltE e c (g p)) (hc : ltE e c N) : mtI e N (fun j x => A j x ∨ (j = p ∧ x = c)) g := by
  intro j hj
  rcases h j hj with ⟨h0, h1⟩ | ⟨h0, h1⟩
  · refine Or.inl ⟨h0, fun x hx => ?_⟩
    rcases hx with hx | ⟨q, hx⟩
    · exact h1 x hx
    · rw [q] at hj h0
      have := hl hj
      rw [h0] at this
      exact this hc
  · refine Or.inr ⟨Or.inl h0, fun x hx => ?_⟩
    rcases hx with hx | ⟨q, hx⟩
    · exact h1 x hx
    · have := hl (q ▸ hj)
      rw [← q] at this
      omega
theorem mt_of {e N : Int} {A B : Int → Int → Prop} {g : Int → Int} (h : mtI e N A g) (h1 : ∀ j x, 0 ≤ j ∧ j < 271 → A j x → B j x) (h2 : ∀ j x, 0 ≤ j ∧ j < 271 → B j x → ∃ y, A j y ∧ leE e y x) : mtI e N B g := by
  intro j hj
  rcases h j hj with ⟨a, b⟩ | ⟨a, b⟩
  · refine Or.inl ⟨a, fun c hc => ?_⟩
    obtain ⟨y, hy, _⟩ := h2 j c hj hc
    exact b y hy
  · refine Or.inr ⟨h1 j _ hj a, fun c hc => ?_⟩
    obtain ⟨y, hy, hl⟩ := h2 j c hj hc
    have := b y hy
    omega
theorem mt_iff {e N : Int} {A B : Int → Int → Prop} {g : Int → Int} (he : e = 1 ∨ e = -1) (h : mtI e N A g) (h1 : ∀ j x, 0 ≤ j ∧ j < 271 → (A j x ↔ B j x)) : mtI e N B g := mt_of h (fun j x hj q => (h1 j x hj).mp q) (fun j x hj q => ⟨x, (h1 j x hj).mpr q, by omega⟩)
theorem mt_none (e N : Int) : mtI e N (fun _ _ => False) (fun _ => N) := fun _ _ => Or.inl ⟨rfl, fun _ q => q⟩
/-- a cost is offered to a place -/
def offF (p c : Int) (g : Int → Int) : Int → Int := if (0 ≤ p ∧ p < 271) ∧ c < g p then up g p c else g
theorem offF_rng {p c : Int} {g : Int → Int} (hg : ∀ j, -501 ≤ g j ∧ g j ≤ 1000) (hc : -501 ≤ c ∧ c ≤ 1000) : ∀ j, -501 ≤ offF p c g j ∧ offF p c g j ≤ 1000 := by
  intro j
  unfold offF
  split
  · unfold up
    split
    · exact hc
    · exact hg j
  · exact hg j
theorem mt_off {A : Int → Int → Prop} {g : Int → Int} (h : mtI 1 1000 A g) (C : Prop) [Decidable C] {p c : Int} (hc : c < 1000) : mtI 1 1000 (fun j x => A j x ∨ (C ∧ j = p ∧ x = c)) (if C then offF p c g else g) := by
  by_cases hC : C
  · rw [if_pos hC]
    refine mt_iff (A := fun j x => A j x ∨ (j = p ∧ x = c)) (Or.inl rfl) ?_ (fun j x _ => ⟨fun q => q.imp id (fun z => ⟨hC, z⟩), fun q => q.imp id (fun z => z.2)⟩)
    unfold offF
    by_cases q : (0 ≤ p ∧ p < 271) ∧ c < g p
    · rw [if_pos q]
      exact mt_take h (Or.inl rfl) (by omega)
    · rw [if_neg q]
      exact mt_keep h (Or.inl rfl) (fun z => by omega) (by omega)
  · rw [if_neg hC]
    exact mt_iff (Or.inl rfl) h (fun j x _ => ⟨Or.inl, fun q => q.elim id (fun z => absurd z.1 hC)⟩)
/-- what one walker adds, place by place (the class) -/
def st1 (P : PT) (row : Int → Int) (i : Int) (g : Int → Int) : Int → Int := if 0 < pi P then offF (i + giftP P) (row i) g else g
def st2 (P : PT) (m sc : Int) (row : Int → Int) (i : Int) (g : Int → Int) : Int → Int := if m = 1 ∧ pi P < 10 ∧ 0 < pz P then offF (i - lossP P) (row i + sc) g else g
def st3 (P : PT) (row : Int → Int) (i : Int) (g : Int → Int) : Int → Int := if pi P < 10 ∧ pz P < 10 then offF i (row i) g else g
def stepF (P : PT) (m sc : Int) (row : Int → Int) (i : Int) (g : Int → Int) : Int → Int := if row i = 1000 then g else st3 P row i (st2 P m sc row i (st1 P row i g))
theorem st1_y {P : PT} {row : Int → Int} {i : Int} {g : Int → Int} (h : 0 < pi P) : st1 P row i g = offF (i + giftP P) (row i) g := if_pos h
theorem st1_n {P : PT} {row : Int → Int} {i : Int} {g : Int → Int} (h : ¬ 0 < pi P) : st1 P row i g = g := if_neg h
theorem st2_y {P : PT} {m sc : Int} {row : Int → Int} {i : Int} {g : Int → Int} (h : m = 1 ∧ pi P < 10 ∧ 0 < pz P) : st2 P m sc row i g = offF (i - lossP P) (row i + sc) g := if_pos h
theorem st2_n {P : PT} {m sc : Int} {row : Int → Int} {i : Int} {g : Int → Int} (h : ¬ (m = 1 ∧ pi P < 10 ∧ 0 < pz P)) : st2 P m sc row i g = g := if_neg h
theorem st3_y {P : PT} {row : Int → Int} {i : Int} {g : Int → Int} (h : pi P < 10 ∧ pz P < 10) : st3 P row i g = offF i (row i) g := if_pos h
theorem st3_n {P : PT} {row : Int → Int} {i : Int} {g : Int → Int} (h : ¬ (pi P < 10 ∧ pz P < 10)) : st3 P row i g = g := if_neg h
def OfC (P : PT) (m sc : Int) (row : Int → Int) (i j x : Int) : Prop := ¬ row i = 1000 ∧ ((0 < pi P ∧ j = i + giftP P ∧ x = row i) ∨ ((m = 1 ∧ pi P < 10 ∧ 0 < pz P) ∧ j = i - lossP P ∧ x = row i + sc) ∨ ((pi P < 10 ∧ pz P < 10) ∧ j = i ∧ x = row i))
theorem mt_step {P : PT} {m sc i : Int} {row g : Int → Int} {A : Int → Int → Prop} (h : mtI 1 1000 A g) (hr : row i = 1000 ∨ row i ≤ 500) (hs : sc ≤ 1) : mtI 1 1000 (fun j x => A j x ∨ OfC P m sc row i j x) (stepF P m sc row i g) := by
  unfold stepF st3 st2 st1
  by_cases q : row i = 1000
  · rw [if_pos q]
    exact mt_iff (Or.inl rfl) h (fun j x _ => ⟨Or.inl, fun z => z.elim id (fun y => absurd q y.1)⟩)
  · rw [if_neg q]
    have a1 := mt_off h (0 < pi P) (p := i + giftP P) (c := row i) (by omega)
    have a2 := mt_off a1 (m = 1 ∧ pi P < 10 ∧ 0 < pz P) (p := i - lossP P) (c := row i + sc) (by omega)
    have a3 := mt_off a2 (pi P < 10 ∧ pz P < 10) (p := i) (c := row i) (by omega)
    refine mt_iff (Or.inl rfl) a3 (fun j x _ => ⟨fun z => ?_, fun z => ?_⟩)
    · rcases z with ((z | z) | z) | z
      · exact Or.inl z
      · exact Or.inr ⟨q, Or.inl z⟩
      · exact Or.inr ⟨q, Or.inr (Or.inl z)⟩
      · exact Or.inr ⟨q, Or.inr (Or.inr z)⟩
    · rcases z with z | ⟨_, z | z | z⟩
      · exact Or.inl (Or.inl (Or.inl z))
      · exact Or.inl (Or.inl (Or.inr z))
      · exact Or.inl (Or.inr z)
      · exact Or.inr z
theorem mt_fold {P : PT} {m sc n : Int} {row : Int → Int} (hr : ∀ j, 0 ≤ j ∧ j < 271 → row j = 1000 ∨ row j ≤ 500) (hs : sc ≤ 1) (hn : 0 ≤ n) (hn2 : n ≤ 271) : mtI 1 1000 (fun j x => ∃ i, (0 ≤ i ∧ i < n) ∧ OfC P m sc row i j x) (fo (stepF P m sc row) n (fun _ => 1000)) := by
  refine fo_ind (P := fun n g => mtI 1 1000 (fun j x => ∃ i, (0 ≤ i ∧ i < n) ∧ OfC P m sc row i j x) g) hn ?_ (fun k g h0 h1 h => ?_)
  · exact mt_iff (Or.inl rfl) (mt_none 1 1000) (fun j x _ => ⟨False.elim, fun ⟨i, hi, _⟩ => by omega⟩)
  · refine mt_iff (Or.inl rfl) (mt_step h (hr k ⟨h0, by omega⟩) hs) (fun j x _ => ⟨fun z => ?_, fun z => ?_⟩)
    · rcases z with ⟨i, hi, z⟩ | z
      · exact ⟨i, by omega, z⟩
      · exact ⟨k, by omega, z⟩
    · obtain ⟨i, hi, z⟩ := z
      by_cases e : i = k
      · rw [e] at z; exact Or.inr z
      · exact Or.inl ⟨i, by omega, z⟩
/-- sets of (net, sins): bounded, summed -/
abbrev QT : Type := Int → Int → Prop
def bQ (k : Int) (Q : QT) : Prop := ∀ n t, Q n t → -k ≤ n ∧ n ≤ 4 * k ∧ 0 ≤ t ∧ t ≤ k
def zQ : QT := fun n t => n = 0 ∧ t = 0
def smQ (X Y : QT) : QT := fun n t => ∃ a b, X a b ∧ Y (n - a) (t - b)
theorem zQ_b : bQ 0 zQ := fun n t h => by unfold zQ at h; omega
theorem smQ_b {a b : Int} {X Y : QT} (hX : bQ a X) (hY : bQ b Y) : bQ (a + b) (smQ X Y) := by
  intro n t ⟨x, y, h1, h2⟩
  have := hX _ _ h1
  have := hY _ _ h2
  omega
theorem smQ_rc (X Y Z : QT) : smQ (smQ X Y) Z = smQ (smQ X Z) Y := by
  have go : ∀ (Y Z : QT) n t, smQ (smQ X Y) Z n t → smQ (smQ X Z) Y n t := by
    intro Y Z n t ⟨a, b, ⟨a1, b1, h1, h2⟩, h3⟩
    refine ⟨a1 + (n - a), b1 + (t - b), ⟨a1, b1, h1, ?_⟩, ?_⟩
    · rw [show a1 + (n - a) - a1 = n - a by omega, show b1 + (t - b) - b1 = t - b by omega]; exact h3
    · rw [show n - (a1 + (n - a)) = a - a1 by omega, show t - (b1 + (t - b)) = b - b1 by omega]; exact h2
  funext n t
  exact propext ⟨go Y Z n t, go Z Y n t⟩
/-- of a parish's first j walkers so many wish, so many sin -/
def canJ (P : PT) (m j w s : Int) : Prop := (0 ≤ w ∧ 0 ≤ s ∧ w + s ≤ j) ∧ (w = 0 ∨ 0 < pi P) ∧ (s = 0 ∨ (m = 1 ∧ pi P < 10 ∧ 0 < pz P)) ∧ (w + s = j ∨ (pi P < 10 ∧ pz P < 10))
def DJ (P : PT) (m j : Int) : QT := fun n t => ∃ w, canJ P m j w t ∧ n = giftP P * w - lossP P * t
theorem gw_in {P : PT} (hP : okP P) {w : Int} (hw : 0 ≤ w) : 0 ≤ giftP P * w ∧ w ≤ giftP P * w ∧ giftP P * w ≤ 4 * w := by
  have hg := giftP_in hP
  rcases (show giftP P = 1 ∨ giftP P = 2 ∨ giftP P = 3 ∨ giftP P = 4 by omega) with h | h | h | h <;> rw [h] <;> omega
theorem ls_in {P : PT} {s : Int} (hs : 0 ≤ s) : 0 ≤ lossP P * s ∧ lossP P * s ≤ s := by
  have hg := lossP_in P
  rcases (show lossP P = 0 ∨ lossP P = 1 by omega) with h | h <;> rw [h] <;> omega
theorem DJ_b {P : PT} (hP : okP P) (m j : Int) : bQ j (DJ P m j) := by
  intro n t ⟨w, ⟨h, _⟩, e⟩
  have h1 := gw_in hP (w := w) (by omega)
  have h2 := ls_in (P := P) (s := t) (by omega)
  omega
/-- one walker more -/
def stQ (P : PT) (m : Int) (Q : QT) : QT := fun n t => (0 < pi P ∧ Q (n - giftP P) t) ∨ ((m = 1 ∧ pi P < 10 ∧ 0 < pz P) ∧ Q (n + lossP P) (t - 1)) ∨ ((pi P < 10 ∧ pz P < 10) ∧ Q n t)
theorem stQ_sm (P : PT) (m : Int) (Q : QT) {j : Int} (hj : 0 ≤ j) : stQ P m (smQ Q (DJ P m j)) = smQ Q (DJ P m (j + 1)) := by
  funext n t
  refine propext ⟨fun h => ?_, fun h => ?_⟩
  · rcases h with ⟨hw, a, b, hQ, w, hc, e⟩ | ⟨hs, a, b, hQ, w, hc, e⟩ | ⟨hr, a, b, hQ, w, hc, e⟩
    · refine ⟨a, b, hQ, w + 1, ?_, ?_⟩
      · unfold canJ at hc ⊢; omega
      · rw [Int.mul_add, Int.mul_one]; omega
    · refine ⟨a, b, hQ, w, ?_, ?_⟩
      · unfold canJ at hc ⊢; omega
      · rw [show t - b = (t - 1 - b) + 1 by omega, Int.mul_add (lossP P), Int.mul_one]; omega
    · refine ⟨a, b, hQ, w, ?_, e⟩
      unfold canJ at hc ⊢; omega
  · obtain ⟨a, b, hQ, w, hc, e⟩ := h
    by_cases q : w + (t - b) = j + 1
    · by_cases hw : 1 ≤ w
      · refine Or.inl ⟨by unfold canJ at hc; omega, a, b, hQ, w - 1, by unfold canJ at hc ⊢; omega, ?_⟩
        rw [show w = (w - 1) + 1 by omega, Int.mul_add, Int.mul_one] at e
        omega
      · refine Or.inr (Or.inl ⟨by unfold canJ at hc; omega, a, b, hQ, w, by unfold canJ at hc ⊢; omega, ?_⟩)
        rw [show t - b = (t - 1 - b) + 1 by omega, Int.mul_add (lossP P), Int.mul_one] at e
        omega
    · exact Or.inr (Or.inr ⟨by unfold canJ at hc; omega, a, b, hQ, w, by unfold canJ at hc ⊢; omega, e⟩)
theorem sm_DJ0 (P : PT) (m : Int) (Q : QT) : smQ Q (DJ P m 0) = Q := by
  funext n t
  refine propext ⟨fun ⟨a, b, hQ, w, hc, e⟩ => ?_, fun h => ⟨n, t, h, 0, ?_, ?_⟩⟩
  · unfold canJ at hc
    have hw : w = 0 := by omega
    have ht : t - b = 0 := by omega
    rw [hw, ht, Int.mul_zero, Int.mul_zero] at e
    rw [show n = a by omega, show t = b by omega]
    exact hQ
  · unfold canJ; omega
  · rw [show t - t = 0 by omega, Int.mul_zero, Int.mul_zero]; omega
/-- the costs of a set: a sin costs sc -/
def AC (sc : Int) (Q : QT) : Int → Int → Prop := fun j x => ∃ s, Q (j - 54) s ∧ x = sc * s
theorem mt_walk {P : PT} {m sc : Int} {Q : QT} {row : Int → Int} (hsc : sc = 1 ∨ sc = -1) (hP : okP P) (hb : bQ 53 Q) (h : mtI 1 1000 (AC sc Q) row) : mtI 1 1000 (AC sc (stQ P m Q)) (fo (stepF P m sc row) 271 (fun _ => 1000)) := by
  have hg := giftP_in hP
  have hl := lossP_in P
  have hr : ∀ j, 0 ≤ j ∧ j < 271 → row j = 1000 ∨ row j ≤ 500 := by
    intro j hj
    rcases h j hj with h0 | ⟨⟨s, hs, e⟩, _⟩
    · exact Or.inl h0.1
    · have := hb _ _ hs
      rcases hsc with q | q <;> rw [q] at e <;> omega
  have key : ∀ i, -53 ≤ i - 54 → i - 54 ≤ 4 * 53 → ∀ s, Q (i - 54) s → ¬ row i = 1000 ∧ leE 1 (row i) (sc * s) := by
    intro i h0 h1 s hs
    rcases h i (by omega) with ⟨_, z⟩ | ⟨⟨s', hs', e⟩, z⟩
    · exact absurd ⟨s, hs, rfl⟩ (z (sc * s))
    · refine ⟨?_, z _ ⟨s, hs, rfl⟩⟩
      have := hb _ _ hs'
      rcases hsc with q | q <;> rw [q] at e <;> omega
  refine mt_of (mt_fold hr (by omega) (by decide) (by decide)) (fun j x hj hx => ?_) (fun j x hj hx => ?_)
  · obtain ⟨i, hi, hne, hx⟩ := hx
    rcases h i hi with ⟨z, _⟩ | ⟨⟨s, hs, e⟩, _⟩
    · exact absurd z hne
    · rcases hx with ⟨c, hj2, hx⟩ | ⟨c, hj2, hx⟩ | ⟨c, hj2, hx⟩
      · exact ⟨s, Or.inl ⟨c, by rw [show j - 54 - giftP P = i - 54 by omega]; exact hs⟩, by rw [hx, e]⟩
      · exact ⟨s + 1, Or.inr (Or.inl ⟨c, by rw [show j - 54 + lossP P = i - 54 by omega, show s + 1 - 1 = s by omega]; exact hs⟩), by rw [hx, e, Int.mul_add, Int.mul_one]⟩
      · exact ⟨s, Or.inr (Or.inr ⟨c, by rw [hj2]; exact hs⟩), by rw [hx, e]⟩
  · obtain ⟨s, hs, hx⟩ := hx
    rcases hs with ⟨c, hs⟩ | ⟨c, hs⟩ | ⟨c, hs⟩
    · have hbb := hb _ _ hs
      have hk := key (j - giftP P) (by omega) (by omega) s (by rw [show j - giftP P - 54 = j - 54 - giftP P by omega]; exact hs)
      exact ⟨row (j - giftP P), ⟨j - giftP P, by omega, hk.1, Or.inl ⟨c, by omega, rfl⟩⟩, by rw [hx]; exact hk.2⟩
    · have hbb := hb _ _ hs
      have hk := key (j + lossP P) (by omega) (by omega) (s - 1) (by rw [show j + lossP P - 54 = j - 54 + lossP P by omega]; exact hs)
      refine ⟨row (j + lossP P) + sc, ⟨j + lossP P, by omega, hk.1, Or.inr (Or.inl ⟨c, by omega, rfl⟩)⟩, ?_⟩
      have e : sc * s = sc * (s - 1) + sc := by
        rw [show s = (s - 1) + 1 by omega, Int.mul_add, Int.mul_one, show s - 1 + 1 - 1 = s - 1 by omega]
      have := hk.2
      rw [hx, e]
      omega
    · have hbb := hb _ _ hs
      have hk := key j (by omega) (by omega) s hs
      exact ⟨row j, ⟨j, by omega, hk.1, Or.inr (Or.inr ⟨c, rfl, rfl⟩)⟩, by rw [hx]; exact hk.2⟩
theorem mt_rng {sc : Int} {Q : QT} {row : Int → Int} (hsc : sc = 1 ∨ sc = -1) (hb : bQ 54 Q) (h : mtI 1 1000 (AC sc Q) row) : ∀ j, 0 ≤ j ∧ j < 271 → row j = 1000 ∨ (-500 ≤ row j ∧ row j ≤ 500) := by
  intro j hj
  rcases h j hj with h0 | ⟨⟨s, hs, e⟩, _⟩
  · exact Or.inl h0.1
  · have := hb _ _ hs
    rcases hsc with q | q <;> rw [q] at e <;> omega
/-- the class's set: parish by parish but one, walker by walker; the reference's, with bounds for one parish's sins -/
def BQ (ps : Int → PT) (but n : Int) : QT := fo (fun p Q => if p = but then Q else smQ Q (DJ (ps p) 1 (pw (ps p)))) n zQ
def DL (P : PT) (lo hi : Int) : QT := fun n t => DJ P 1 (pw P) n t ∧ lo ≤ t ∧ t ≤ hi
def AQ (ps : Int → PT) (one lo hi n : Int) : QT := fo (fun p Q => smQ Q (if p = one then DL (ps p) lo hi else DJ (ps p) 1 (pw (ps p)))) n zQ
theorem BQ_succ (ps : Int → PT) (but : Int) {n : Int} (hn : 0 ≤ n) : BQ ps but (n + 1) = if n = but then BQ ps but n else smQ (BQ ps but n) (DJ (ps n) 1 (pw (ps n))) := fo_succ _ hn zQ
theorem AQ_succ (ps : Int → PT) (one lo hi : Int) {n : Int} (hn : 0 ≤ n) : AQ ps one lo hi (n + 1) = smQ (AQ ps one lo hi n) (if n = one then DL (ps n) lo hi else DJ (ps n) 1 (pw (ps n))) := fo_succ _ hn zQ
theorem bQ_up {a b : Int} {Q : QT} (h : bQ a Q) (hab : a ≤ b) : bQ b Q := fun n t q => by have := h n t q; omega
theorem BQ_b {ps : Int → PT} {but n : Int} (hn : 0 ≤ n) (hps : ∀ i, 0 ≤ i ∧ i < n → okP (ps i)) : bQ (9 * n) (BQ ps but n) := by
  refine fo_ind (P := fun k Q => bQ (9 * k) Q) hn zQ_b (fun k Q h0 h1 h => ?_)
  have hP := hps k ⟨h0, h1⟩
  have hw := hP.2.2.2.2.1
  split
  · exact bQ_up h (by omega)
  · exact bQ_up (smQ_b h (DJ_b hP 1 (pw (ps k)))) (by omega)
theorem AQ_b {ps : Int → PT} {one lo hi n : Int} (hn : 0 ≤ n) (hps : ∀ i, 0 ≤ i ∧ i < n → okP (ps i)) : bQ (9 * n) (AQ ps one lo hi n) := by
  refine fo_ind (P := fun k Q => bQ (9 * k) Q) hn zQ_b (fun k Q h0 h1 h => ?_)
  have hP := hps k ⟨h0, h1⟩
  have hw := hP.2.2.2.2.1
  split
  · exact bQ_up (smQ_b h (fun n t q => DJ_b hP 1 (pw (ps k)) n t q.1)) (by omega)
  · exact bQ_up (smQ_b h (DJ_b hP 1 (pw (ps k)))) (by omega)
theorem AQ_all {ps : Int → PT} {one lo hi n : Int} (hn : 0 ≤ n) (ho : one < 0 ∨ n ≤ one) : AQ ps one lo hi n = BQ ps one n := by
  have h := fo_ind (f := fun p Q => smQ Q (if p = one then DL (ps p) lo hi else DJ (ps p) 1 (pw (ps p)))) (s := zQ) (P := fun k Q => Q = BQ ps one k) hn rfl (fun k Q h0 h1 h => by rw [BQ_succ ps one h0, if_neg (by omega), if_neg (by omega), h])
  exact h
/-- one parish's walkers at the end -/
theorem AQ_one {ps : Int → PT} {one lo hi n : Int} (ho : 0 ≤ one) (hn : one < n) : AQ ps one lo hi n = smQ (BQ ps one n) (DL (ps one) lo hi) := by
  have h := fo_ind (f := fun p Q => smQ Q (if p = one then DL (ps p) lo hi else DJ (ps p) 1 (pw (ps p)))) (s := zQ) (n := n) (P := fun k Q => (k ≤ one ∧ Q = BQ ps one k) ∨ (one < k ∧ Q = smQ (BQ ps one k) (DL (ps one) lo hi))) (by omega) (Or.inl ⟨ho, rfl⟩) (fun k Q h0 h1 h => ?_)
  · rcases h with h | h
    · omega
    · exact h.2
  · rw [BQ_succ ps one h0]
    rcases h with ⟨h, e⟩ | ⟨h, e⟩
    · by_cases q : k = one
      · rw [if_pos q, if_pos q, e, q]; exact Or.inr ⟨by omega, rfl⟩
      · rw [if_neg q, if_neg q, e]; exact Or.inl ⟨by omega, rfl⟩
    · rw [if_neg (by omega), if_neg (by omega), e, smQ_rc]; exact Or.inr ⟨by omega, rfl⟩
theorem AQ_sub {ps : Int → PT} {one lo hi n : Int} (hn : 0 ≤ n) : ∀ a t, AQ ps one lo hi n a t → BQ ps (-1) n a t := by
  refine fo_ind (P := fun (k : Int) (Q : QT) => ∀ a t, Q a t → BQ ps (-1) k a t) hn (fun a t h => h) (fun k Q h0 h1 h a t hq => ?_)
  rw [BQ_succ ps (-1) h0, if_neg (by omega)]
  obtain ⟨x, y, h2, h3⟩ := hq
  refine ⟨x, y, h x y h2, ?_⟩
  revert h3
  split
  · exact fun h3 => h3.1
  · exact id
/-- none of a parish sins -/
theorem DL_00 (P : PT) : DL P 0 0 = DJ P 0 (pw P) := by
  funext n t
  refine propext ⟨fun ⟨⟨w, hc, e⟩, h0, h1⟩ => ⟨w, ?_, e⟩, fun ⟨w, hc, e⟩ => ⟨⟨w, ?_, e⟩, ?_, ?_⟩⟩ <;> unfold canJ at hc <;> (try unfold canJ) <;> omega
/-- one of a parish sins: the others, and one sin more -/
theorem DL_19 {P : PT} (hP : okP P) (n t : Int) : DL P 1 9 n t ↔ (pi P < 10 ∧ 0 < pz P) ∧ DJ P 1 (pw P - 1) (n + lossP P) (t - 1) := by
  have hw := hP.2.2.2.2.1
  refine ⟨fun ⟨⟨w, hc, e⟩, h0, h1⟩ => ⟨by unfold canJ at hc; omega, w, by unfold canJ at hc ⊢; omega, ?_⟩, fun ⟨hz, w, hc, e⟩ => ⟨⟨w, by unfold canJ at hc ⊢; omega, ?_⟩, ?_, ?_⟩⟩
  · rw [show t = (t - 1) + 1 by omega, Int.mul_add (lossP P), Int.mul_one] at e; omega
  · rw [show t = (t - 1) + 1 by omega, Int.mul_add (lossP P), Int.mul_one]; omega
  · unfold canJ at hc; omega
  · unfold canJ at hc; omega
/-- the answers -/
noncomputable def canI (ps : Int → PT) (np n one lo hi : Int) : Int := @ite _ (∃ t, AQ ps one lo hi np n t) (Classical.propDecidable _) 1 0
theorem canI_1 {ps : Int → PT} {np n one lo hi : Int} (h : ∃ t, AQ ps one lo hi np n t) : canI ps np n one lo hi = 1 := by unfold canI; exact @if_pos _ (Classical.propDecidable _) h _ _ _
theorem canI_0 {ps : Int → PT} {np n one lo hi : Int} (h : ¬ ∃ t, AQ ps one lo hi np n t) : canI ps np n one lo hi = 0 := by unfold canI; exact @if_neg _ (Classical.propDecidable _) h _ _ _
theorem canI_c (ps : Int → PT) (np n one lo hi : Int) : (canI ps np n one lo hi = 1 ∧ ∃ t, AQ ps one lo hi np n t) ∨ (canI ps np n one lo hi = 0 ∧ ¬ ∃ t, AQ ps one lo hi np n t) := by
  by_cases h : ∃ t, AQ ps one lo hi np n t
  · exact Or.inl ⟨canI_1 h, h⟩
  · exact Or.inr ⟨canI_0 h, h⟩
def endP (e : Int) (A : Int → Prop) (x : Int) : Prop := (x = -1 ∧ ∀ t, ¬ A t) ∨ (A x ∧ ∀ t, A t → leE e x t)
noncomputable def endI (e : Int) (A : Int → Prop) : Int := Classical.epsilon (endP e A)
theorem endI_of {e x : Int} {A : Int → Prop} (h : endP e A x) : endI e A = x := by
  have h2 : endP e A (endI e A) := Classical.epsilon_spec ⟨x, h⟩
  generalize endI e A = y at h2 ⊢
  rcases h with ⟨a, b⟩ | ⟨a, b⟩ <;> rcases h2 with ⟨c, d⟩ | ⟨c, d⟩
  · omega
  · exact absurd c (b y)
  · exact absurd a (d x)
  · have := b y c
    have := d x a
    omega
noncomputable def mustF (ps : Int → PT) (np n p b : Int) : Int := orI b (if canI ps np n p 0 0 = 0 then shlI 1 p else 0)
noncomputable def mayF (ps : Int → PT) (np n p b : Int) : Int := orI b (if canI ps np n p 1 9 = 1 then shlI 1 p else 0)
noncomputable def rBounds (n w np : Int) (ps : Int → PT) : Int := if n < -54 ∨ 216 < n then -102 else if w = 0 then endI 1 (BQ ps (-1) np n) else if w = 1 then endI (-1) (BQ ps (-1) np n) else if w = 2 then (if canI ps np n (-1) 0 0 = 0 then 0 else fo (mustF ps np n) np 0) else if w = 3 then (if canI ps np n (-1) 0 0 = 0 then 0 else fo (mayF ps np n) np 0) else -102
theorem orI_in (a b : Int) : -2147483648 ≤ orI a b ∧ orI a b ≤ 2147483647 := by
  have h1 := Int32.le_toInt (Int32.ofInt a ||| Int32.ofInt b)
  have h2 := Int32.toInt_lt (Int32.ofInt a ||| Int32.ofInt b)
  unfold orI
  omega
theorem orI_0 {b : Int} (h : -2147483648 ≤ b ∧ b ≤ 2147483647) : orI b 0 = b := by
  unfold orI
  rw [show Int32.ofInt 0 = 0 from rfl, Int32.or_zero, Int32.toInt_ofInt_of_le (by omega) (by omega)]
theorem may_none {ps : Int → PT} {np n : Int} (hnp : 0 ≤ np ∧ np ≤ 6) (h : canI ps np n (-1) 0 0 = 0) : ∀ p, canI ps np n p 1 9 = 0 := by
  intro p
  refine canI_0 (fun ⟨t, ht⟩ => ?_)
  rcases canI_c ps np n (-1) 0 0 with q | q
  · omega
  · exact q.2 ⟨t, by rw [AQ_all hnp.1 (Or.inl (by decide))]; exact AQ_sub hnp.1 n t ht⟩
/-- the first row; what a row says of a net -/
def row0 : Int → Int := up (fun _ => 1000) 54 0
theorem mt_row0 {sc : Int} : mtI 1 1000 (AC sc zQ) row0 := by
  intro j hj
  unfold row0
  by_cases q : j = 54
  · rw [q, up_same]
    refine Or.inr ⟨⟨0, ⟨by decide, rfl⟩, by omega⟩, fun c hc => ?_⟩
    obtain ⟨s, hs, e⟩ := hc
    rw [hs.2, Int.mul_zero] at e
    omega
  · rw [up_ne _ _ _ _ q]
    refine Or.inl ⟨rfl, fun c hc => ?_⟩
    obtain ⟨s, hs, e⟩ := hc
    have := hs.1
    omega
def costI (n : Int) (g : Int → Int) : Int := if 0 ≤ n + 54 ∧ n + 54 < 271 then g (n + 54) else 1000
theorem cost_c {sc : Int} {Q : QT} {g : Int → Int} (hsc : sc = 1 ∨ sc = -1) (hb : bQ 54 Q) (h : mtI 1 1000 (AC sc Q) g) (n : Int) : (costI n g = 1000 ∧ ∀ t, ¬ Q n t) ∨ ((-54 ≤ costI n g ∧ costI n g ≤ 54) ∧ ∃ t, Q n t ∧ costI n g = sc * t ∧ ∀ s, Q n s → sc * t ≤ sc * s) := by
  unfold costI
  by_cases q : 0 ≤ n + 54 ∧ n + 54 < 271
  · rw [if_pos q]
    rcases h _ q with ⟨h0, h1⟩ | ⟨⟨s, hs, e⟩, h1⟩
    · refine Or.inl ⟨h0, fun t ht => h1 (sc * t) ⟨t, ?_, rfl⟩⟩
      rw [show n + 54 - 54 = n by omega]; exact ht
    · rw [show n + 54 - 54 = n by omega] at hs
      have hbs := hb _ _ hs
      refine Or.inr ⟨by rcases hsc with z | z <;> rw [z] at e <;> omega, s, hs, e, fun s2 hs2 => ?_⟩
      have := h1 (sc * s2) ⟨s2, by rw [show n + 54 - 54 = n by omega]; exact hs2, rfl⟩
      omega
  · rw [if_neg q]
    exact Or.inl ⟨rfl, fun t ht => by have := hb _ _ ht; omega⟩
theorem few_end {Q : QT} {g : Int → Int} (hb : bQ 54 Q) (h : mtI 1 1000 (AC 1 Q) g) (n : Int) : endI 1 (Q n) = if costI n g = 1000 then -1 else costI n g := by
  refine endI_of ?_
  rcases cost_c (Or.inl rfl) hb h n with ⟨h0, h1⟩ | ⟨hr, t, ht, e, h1⟩
  · rw [if_pos h0]; exact Or.inl ⟨rfl, h1⟩
  · rw [if_neg (by omega), e, Int.one_mul]
    exact Or.inr ⟨ht, fun s hs => by have := h1 s hs; omega⟩
theorem most_end {Q : QT} {g : Int → Int} (hb : bQ 54 Q) (h : mtI 1 1000 (AC (-1) Q) g) (n : Int) : endI (-1) (Q n) = if costI n g = 1000 then -1 else - costI n g := by
  refine endI_of ?_
  rcases cost_c (Or.inr rfl) hb h n with ⟨h0, h1⟩ | ⟨hr, t, ht, e, h1⟩
  · rw [if_pos h0]; exact Or.inl ⟨rfl, h1⟩
  · rw [if_neg (by omega), show -costI n g = t by omega]
    exact Or.inr ⟨ht, fun s hs => by have := h1 s hs; omega⟩
theorem BQ_bb {ps : Int → PT} {but n : Int} (hb : 0 ≤ but ∧ but < n) (hps : ∀ i, 0 ≤ i ∧ i < n → okP (ps i)) : bQ (9 * (n - 1)) (BQ ps but n) := by
  have h := fo_ind (f := fun p Q => if p = but then Q else smQ Q (DJ (ps p) 1 (pw (ps p)))) (s := zQ) (n := n) (P := fun k Q => bQ (9 * (if but < k then k - 1 else k)) Q) (by omega) (by rw [if_neg (by omega)]; exact zQ_b) (fun k Q h0 h1 h => ?_)
  · rw [if_pos hb.2] at h; exact h
  · have hP := hps k ⟨h0, h1⟩
    have hw := hP.2.2.2.2.1
    by_cases q : k = but
    · rw [if_pos q, if_pos (by omega)]; rw [if_neg (by omega)] at h; exact bQ_up h (by omega)
    · rw [if_neg q]
      by_cases q2 : but < k
      · rw [if_pos (by omega)]; rw [if_pos q2] at h; exact bQ_up (smQ_b h (DJ_b hP 1 (pw (ps k)))) (by omega)
      · rw [if_neg (by omega)]; rw [if_neg q2] at h; exact bQ_up (smQ_b h (DJ_b hP 1 (pw (ps k)))) (by omega)
/-- the class's two questions, by the reference's words -/
theorem can_out {ps : Int → PT} {np who n : Int} {g : Int → Int} (hw : 0 ≤ who ∧ who < np) (hb : bQ 54 (smQ (BQ ps who np) (DJ (ps who) 0 (pw (ps who))))) (h : mtI 1 1000 (AC 1 (smQ (BQ ps who np) (DJ (ps who) 0 (pw (ps who))))) g) : canI ps np n who 0 0 = if costI n g = 1000 then 0 else 1 := by
  have e : AQ ps who 0 0 np = smQ (BQ ps who np) (DJ (ps who) 0 (pw (ps who))) := by rw [AQ_one hw.1 hw.2, DL_00]
  rcases cost_c (Or.inl rfl) hb h n with ⟨h0, h1⟩ | ⟨hr, t, ht, _, _⟩
  · rw [if_pos h0]; exact canI_0 (fun ⟨t, ht⟩ => h1 t (by rw [e] at ht; exact ht))
  · rw [if_neg (by omega)]; exact canI_1 ⟨t, by rw [e]; exact ht⟩
theorem can_in0 {ps : Int → PT} {np who n : Int} (hw : 0 ≤ who ∧ who < np) (hP : okP (ps who)) (hz : ¬ (pi (ps who) < 10 ∧ 0 < pz (ps who))) : canI ps np n who 1 9 = 0 := by
  refine canI_0 (fun ⟨t, ht⟩ => ?_)
  rw [AQ_one hw.1 hw.2] at ht
  obtain ⟨a, b, _, h2⟩ := ht
  exact hz ((DL_19 hP _ _).mp h2).1
theorem can_in {ps : Int → PT} {np who n : Int} {g : Int → Int} (hw : 0 ≤ who ∧ who < np) (hP : okP (ps who)) (hz : pi (ps who) < 10 ∧ 0 < pz (ps who)) (hb : bQ 54 (smQ (BQ ps who np) (DJ (ps who) 1 (pw (ps who) - 1)))) (h : mtI 1 1000 (AC 1 (smQ (BQ ps who np) (DJ (ps who) 1 (pw (ps who) - 1)))) g) : canI ps np n who 1 9 = if costI (n + lossP (ps who)) g = 1000 then 0 else 1 := by
  have e : AQ ps who 1 9 np = smQ (BQ ps who np) (DL (ps who) 1 9) := AQ_one hw.1 hw.2
  rcases cost_c (Or.inl rfl) hb h (n + lossP (ps who)) with ⟨h0, h1⟩ | ⟨hr, t, ht, _, _⟩
  · rw [if_pos h0]
    refine canI_0 (fun ⟨t, ht⟩ => ?_)
    rw [e] at ht
    obtain ⟨a, b, h2, h3⟩ := ht
    have h4 := ((DL_19 hP _ _).mp h3).2
    refine h1 (t - 1) ⟨a, b, h2, ?_⟩
    rw [show n + lossP (ps who) - a = n - a + lossP (ps who) by omega, show t - 1 - b = t - b - 1 by omega]
    exact h4
  · rw [if_neg (by omega)]
    obtain ⟨a, b, h2, h3⟩ := ht
    refine canI_1 ⟨t + 1, ?_⟩
    rw [e]
    refine ⟨a, b, h2, (DL_19 hP _ _).mpr ⟨hz, ?_⟩⟩
    rw [show n - a + lossP (ps who) = n + lossP (ps who) - a by omega, show t + 1 - b - 1 = t - b by omega]
    exact h3
theorem can_all {ps : Int → PT} {np n : Int} {sc : Int} {g : Int → Int} (hnp : 0 ≤ np ∧ np ≤ 6) (hsc : sc = 1 ∨ sc = -1) (hb : bQ 54 (BQ ps (-1) np)) (h : mtI 1 1000 (AC sc (BQ ps (-1) np)) g) : canI ps np n (-1) 0 0 = if costI n g = 1000 then 0 else 1 := by
  have e : AQ ps (-1) 0 0 np = BQ ps (-1) np := AQ_all hnp.1 (Or.inl (by decide))
  rcases cost_c hsc hb h n with ⟨h0, h1⟩ | ⟨hr, t, ht, _, _⟩
  · rw [if_pos h0]; exact canI_0 (fun ⟨t, ht⟩ => h1 t (by rw [e] at ht; exact ht))
  · rw [if_neg (by omega)]; exact canI_1 ⟨t, by rw [e]; exact ht⟩
theorem may_fo {ps : Int → PT} {np n : Int} (h : ∀ p, canI ps np n p 1 9 = 0) (k : Int) : fo (mayF ps np n) k 0 = 0 := by
  unfold fo
  induction k.toNat with
  | zero => rfl
  | succ k ih =>
    show mayF ps np n (k : Int) (foldI (mayF ps np n) k 0) = 0
    rw [ih]
    unfold mayF
    rw [if_neg (by have := h (k : Int); omega)]
    exact orI_0 (by decide)
theorem mustF_y {ps : Int → PT} {np n p b : Int} (h : canI ps np n p 0 0 = 0) : mustF ps np n p b = orI b (shlI 1 p) := by unfold mustF; rw [if_pos h]
theorem mustF_n {ps : Int → PT} {np n p b : Int} (h : ¬ canI ps np n p 0 0 = 0) (hb : -2147483648 ≤ b ∧ b ≤ 2147483647) : mustF ps np n p b = b := by unfold mustF; rw [if_neg h]; exact orI_0 hb
theorem mayF_y {ps : Int → PT} {np n p b : Int} (h : canI ps np n p 1 9 = 1) : mayF ps np n p b = orI b (shlI 1 p) := by unfold mayF; rw [if_pos h]
theorem mayF_n {ps : Int → PT} {np n p b : Int} (h : ¬ canI ps np n p 1 9 = 1) (hb : -2147483648 ≤ b ∧ b ≤ 2147483647) : mayF ps np n p b = b := by unfold mayF; rw [if_neg h]; exact orI_0 hb
