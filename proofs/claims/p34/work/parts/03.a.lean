/-! what the calls do, over whole numbers -/
def foldI {σ : Type} (f : Int → σ → σ) : Nat → σ → σ
  | 0, s => s
  | k + 1, s => f (k : Int) (foldI f k s)
/-- f over 0, 1 .. n-1 -/
def fo {σ : Type} (f : Int → σ → σ) (n : Int) (s : σ) : σ := foldI f n.toNat s
theorem fo_zero {σ : Type} (f : Int → σ → σ) (s : σ) : fo f 0 s = s := rfl
theorem fo_succ {σ : Type} (f : Int → σ → σ) {n : Int} (h : 0 ≤ n) (s : σ) : fo f (n + 1) s = f n (fo f n s) := by
  unfold fo
  have e : (n + 1).toNat = n.toNat + 1 := by omega
  rw [e]
  show f ((n.toNat : Nat) : Int) _ = _
  rw [show ((n.toNat : Nat) : Int) = n by omega]
theorem fo_neg {σ : Type} (f : Int → σ → σ) {n : Int} (h : n ≤ 0) (s : σ) : fo f n s = s := by
  unfold fo
  rw [show n.toNat = 0 by omega]
  rfl
/-- what holds at the start and is kept holds in the end -/
theorem fo_ind {σ : Type} {f : Int → σ → σ} (P : Int → σ → Prop) {n : Int} (hn : 0 ≤ n) {s : σ} (h0 : P 0 s) (hs : ∀ (k : Int) (t : σ), 0 ≤ k → k < n → P k t → P (k + 1) (f k t)) : P n (fo f n s) := by
  have go : ∀ m : Nat, (m : Int) ≤ n → P (m : Int) (foldI f m s) := by
    intro m
    induction m with
    | zero => intro _; exact h0
    | succ m ih =>
      intro hm
      have := hs (m : Int) _ (by omega) (by omega) (ih (by omega))
      rw [show ((m + 1 : Nat) : Int) = (m : Int) + 1 by omega]
      exact this
  have := go n.toNat (by omega)
  rwa [show ((n.toNat : Nat) : Int) = n by omega] at this
theorem up_self {α : Type} (g : Int → α) (i : Int) : up g i (g i) = g := by
  funext j
  unfold up
  by_cases h : j = i
  · rw [if_pos h, h]
  · rw [if_neg h]
/-- the moor: heights, marks, week, last, seed, laid, taken, spilt -/
abbrev MS : Type := (Int → Int) × (Int → Int) × Int × Int × Int × Int × Int × Int
abbrev ms_h (S : MS) : Int → Int := S.1
abbrev ms_m (S : MS) : Int → Int := S.2.1
abbrev ms_w (S : MS) : Int := S.2.2.1
abbrev ms_l (S : MS) : Int := S.2.2.2.1
abbrev ms_s (S : MS) : Int := S.2.2.2.2.1
abbrev ms_a (S : MS) : Int := S.2.2.2.2.2.1
abbrev ms_t (S : MS) : Int := S.2.2.2.2.2.2.1
abbrev ms_p (S : MS) : Int := S.2.2.2.2.2.2.2
def okS (S : MS) : Prop := (∀ i : Int, 0 ≤ i ∧ i < 7 → 0 ≤ ms_h S i ∧ ms_h S i ≤ 60) ∧ (∀ j : Int, 0 ≤ ms_m S j ∧ ms_m S j ≤ ms_w S) ∧ (0 ≤ ms_l S ∧ ms_l S < 7) ∧ (0 ≤ ms_s S ∧ ms_s S ≤ 2147483647)
theorem okS.w {S : MS} (h : okS S) : 0 ≤ ms_w S := by have := h.2.1 0; omega
/-- a pebble with its mark comes upon a cairn -/
def putS (c x : Int) (S : MS) : MS := if ms_h S c = 60 then (ms_h S, ms_m S, ms_w S, ms_l S, ms_s S, ms_a S, ms_t S, ms_p S + 1) else (up (ms_h S) c (ms_h S c + 1), up (ms_m S) (60 * c + ms_h S c) x, ms_w S, ms_l S, ms_s S, ms_a S, ms_t S, ms_p S)
theorem putS_full {c x : Int} {S : MS} (h : ms_h S c = 60) : putS c x S = (ms_h S, ms_m S, ms_w S, ms_l S, ms_s S, ms_a S, ms_t S, ms_p S + 1) := if_pos h
theorem putS_not {c x : Int} {S : MS} (h : ¬ ms_h S c = 60) : putS c x S = (up (ms_h S) c (ms_h S c + 1), up (ms_m S) (60 * c + ms_h S c) x, ms_w S, ms_l S, ms_s S, ms_a S, ms_t S, ms_p S) := if_neg h
theorem putS_w (c x : Int) (S : MS) : ms_w (putS c x S) = ms_w S := by unfold putS; split <;> rfl
theorem putS_l (c x : Int) (S : MS) : ms_l (putS c x S) = ms_l S := by unfold putS; split <;> rfl
theorem putS_s (c x : Int) (S : MS) : ms_s (putS c x S) = ms_s S := by unfold putS; split <;> rfl
theorem putS_a (c x : Int) (S : MS) : ms_a (putS c x S) = ms_a S := by unfold putS; split <;> rfl
theorem putS_t (c x : Int) (S : MS) : ms_t (putS c x S) = ms_t S := by unfold putS; split <;> rfl
theorem okS_put {c x : Int} {S : MS} (h : okS S) (hc : 0 ≤ c ∧ c < 7) (hx : 0 ≤ x ∧ x ≤ ms_w S) : okS (putS c x S) := by
  by_cases hf : ms_h S c = 60
  · rw [putS_full hf]; exact h
  · rw [putS_not hf]
    refine ⟨fun i hi => ?_, fun j => ?_, h.2.2⟩
    · show 0 ≤ up (ms_h S) c _ i ∧ up (ms_h S) c _ i ≤ 60
      unfold up
      have h1 := h.1 i hi
      have h2 := h.1 c hc
      split <;> omega
    · show 0 ≤ up (ms_m S) _ x j ∧ up (ms_m S) _ x j ≤ ms_w S
      unfold up
      split
      · exact hx
      · exact h.2.1 j
def setA (S : MS) (v : Int) : MS := (ms_h S, ms_m S, ms_w S, ms_l S, ms_s S, v, ms_t S, ms_p S)
def setL (S : MS) (v : Int) : MS := (ms_h S, ms_m S, ms_w S, v, ms_s S, ms_a S, ms_t S, ms_p S)
def setW (S : MS) (v : Int) : MS := (ms_h S, ms_m S, v, ms_l S, ms_s S, ms_a S, ms_t S, ms_p S)
def setD (S : MS) (v : Int) : MS := (ms_h S, ms_m S, ms_w S, ms_l S, v, ms_a S, ms_t S, ms_p S)
def setH (S : MS) (v : Int → Int) : MS := (v, ms_m S, ms_w S, ms_l S, ms_s S, ms_a S, ms_t S, ms_p S)
def putW (c : Int) (S : MS) : MS := putS c (ms_w S) S
def putN (c n : Int) (S : MS) : MS := fo (fun _ T => putW c T) n S
/-- so many new pebbles are laid on a cairn -/
def layS (c n : Int) (S : MS) : MS := setA (putN c n S) (ms_a (putN c n S) + n)
theorem okS_putN {c n : Int} {S : MS} (h : okS S) (hc : 0 ≤ c ∧ c < 7) (hn : 0 ≤ n) : okS (putN c n S) ∧ ms_w (putN c n S) = ms_w S ∧ ms_a (putN c n S) = ms_a S := by
  refine fo_ind (P := fun _ T => okS T ∧ ms_w T = ms_w S ∧ ms_a T = ms_a S) hn ⟨h, rfl, rfl⟩ (fun k T _ _ hT => ?_)
  exact ⟨okS_put hT.1 hc ⟨hT.1.w, Int.le_refl _⟩, (putS_w _ _ _).trans hT.2.1, (putS_a _ _ _).trans hT.2.2⟩
theorem okS_lay {c n : Int} {S : MS} (h : okS S) (hc : 0 ≤ c ∧ c < 7) (hn : 0 ≤ n) : okS (layS c n S) := (okS_putN h hc hn).1
theorem layS_w {c n : Int} {S : MS} (h : okS S) (hc : 0 ≤ c ∧ c < 7) (hn : 0 ≤ n) : ms_w (layS c n S) = ms_w S := (okS_putN h hc hn).2.1
theorem putS_setA (c x v : Int) (S : MS) : putS c x (setA S v) = setA (putS c x S) v := by
  by_cases h : ms_h S c = 60
  · rw [putS_full (S := setA S v) h, putS_full h]; rfl
  · rw [putS_not (S := setA S v) h, putS_not h]; rfl
theorem putN_setA (c n v : Int) (S : MS) : putN c n (setA S v) = setA (putN c n S) v := by
  unfold putN fo
  induction n.toNat with
  | zero => rfl
  | succ k ih => show putW c (foldI _ k _) = setA (putW c (foldI _ k _)) v; rw [ih]; exact putS_setA c _ v _
/-- so many taken off a cairn, as far as there are some -/
def offS (c n : Int) (S : MS) : Int := if ms_h S c < n then ms_h S c else n
def takeS (c n : Int) (S : MS) : MS := (up (ms_h S) c (ms_h S c - offS c n S), ms_m S, ms_w S, ms_l S, ms_s S, ms_a S, ms_t S + offS c n S, ms_p S)
theorem okS_take {c n : Int} {S : MS} (h : okS S) (hc : 0 ≤ c ∧ c < 7) (hn : 0 ≤ n) : okS (takeS c n S) := by
  refine ⟨fun i hi => ?_, h.2.1, h.2.2⟩
  show 0 ≤ up (ms_h S) c _ i ∧ up (ms_h S) c _ i ≤ 60
  have h1 := h.1 i hi
  have h2 := h.1 c hc
  unfold up offS
  split <;> (try split) <;> omega
/-- the cairn with most, with fewest (of like ones the least) -/
def mostF (h : Int → Int) (i b : Int) : Int := if h b < h i then i else b
def leastF (h : Int → Int) (i b : Int) : Int := if h i < h b then i else b
def mostI (h : Int → Int) : Int := fo (mostF h) 7 0
def leastI (h : Int → Int) : Int := fo (leastF h) 7 0
theorem mostI_in (h : Int → Int) : 0 ≤ mostI h ∧ mostI h < 7 := by
  have := fo_ind (f := mostF h) (s := 0) (n := 7) (P := fun k b => 0 ≤ b ∧ (b < k ∨ (k = 0 ∧ b = 0))) (by decide) (by decide) (fun k b hk _ hb => by unfold mostF; split <;> omega)
  unfold mostI; omega
theorem leastI_in (h : Int → Int) : 0 ≤ leastI h ∧ leastI h < 7 := by
  have := fo_ind (f := leastF h) (s := 0) (n := 7) (P := fun k b => 0 ≤ b ∧ (b < k ∨ (k = 0 ∧ b = 0))) (by decide) (by decide) (fun k b hk _ hb => by unfold leastF; split <;> omega)
  unfold leastI; omega
def sumF (h : Int → Int) (i s : Int) : Int := s + h i
def sumI (h : Int → Int) (n : Int) : Int := fo (sumF h) n 0
/-- a draw -/
def drawS (S : MS) : MS := setD S ((1103515245 * ms_s S + 12345) % 2147483648)
def drawV (S : MS) : Int := (ms_s S / 65536) % 10
theorem okS_draw {S : MS} (h : okS S) : okS (drawS S) := ⟨h.1, h.2.1, h.2.2.1, by show 0 ≤ (1103515245 * ms_s S + 12345) % 2147483648 ∧ (1103515245 * ms_s S + 12345) % 2147483648 ≤ 2147483647; omega⟩
/-- a rule's cairn -/
def ruleS (r num : Int) (S : MS) : Int := if r = 7 then mostI (ms_h S) else if r = 8 then leastI (ms_h S) else if r = 9 then num else if r = 10 then (ms_l S + 1) % 7 else r
def okR (r : Int) : Prop := 0 ≤ r ∧ r ≤ 10
theorem ruleS_in {r num : Int} {S : MS} (hr : okR r) (hn : 0 ≤ num ∧ num < 7) (h : okS S) : 0 ≤ ruleS r num S ∧ ruleS r num S < 7 := by
  unfold ruleS
  have h1 := mostI_in (ms_h S)
  have h2 := leastI_in (ms_h S)
  have h3 := h.2.2.1
  unfold okR at hr
  split
  · exact h1
  split
  · exact h2
  split
  · exact hn
  split
  · omega
  · omega
/-- a parish: kind, n, walkers, wish, sin; a custom: the rule of a wish, of a sin, every -/
abbrev PT : Type := Int × Int × Int × Int × Int
abbrev pk (P : PT) : Int := P.1
abbrev pn (P : PT) : Int := P.2.1
abbrev pw (P : PT) : Int := P.2.2.1
abbrev pi (P : PT) : Int := P.2.2.2.1
abbrev pz (P : PT) : Int := P.2.2.2.2
abbrev CT : Type := Int × Int × Int
abbrev cw (C : CT) : Int := C.1
abbrev cz (C : CT) : Int := C.2.1
abbrev ce (C : CT) : Int := C.2.2
def okP (P : PT) : Prop := (0 ≤ pk P ∧ pk P ≤ 3) ∧ (pk P = 0 → pn P = 0) ∧ (pk P = 1 → 2 ≤ pn P ∧ pn P ≤ 4) ∧ (2 ≤ pk P → 0 ≤ pn P ∧ pn P < 7) ∧ (1 ≤ pw P ∧ pw P ≤ 9) ∧ (0 ≤ pi P ∧ pi P ≤ 10) ∧ (0 ≤ pz P ∧ pz P ≤ 10)
def okC (C : CT) : Prop := okR (cw C) ∧ okR (cz C) ∧ (0 ≤ ce C ∧ ce C ≤ 9)
def giftP (P : PT) : Int := if pk P = 1 then pn P else 1
def lossP (P : PT) : Int := if 2 ≤ pk P then 0 else 1
def hideP (P : PT) : Int := if 2 ≤ pk P then pn P else -1
theorem giftP_in {P : PT} (h : okP P) : 1 ≤ giftP P ∧ giftP P ≤ 4 := by
  unfold giftP
  have := h.2.2.1
  split
  · have := this (by assumption); omega
  · omega
theorem lossP_in (P : PT) : 0 ≤ lossP P ∧ lossP P ≤ 1 := by unfold lossP; split <;> omega
theorem hideP_in {P : PT} (h : okP P) : -1 ≤ hideP P ∧ hideP P < 7 := by
  unfold hideP
  have := h.2.2.2.1
  split
  · have := this (by assumption); omega
  · omega
/-- the mark so deep in a cairn -/
def markS (c d : Int) (S : MS) : Int := if 0 ≤ d ∧ d < ms_h S c then ms_m S (60 * c + (ms_h S c - 1 - d)) else -1
def wishS (C : CT) (P : PT) (num : Int) (S : MS) : MS := setL (layS (ruleS (cw C) num S) (giftP P) S) (ruleS (cw C) num S)
def stealS (c to : Int) (S : MS) : MS := if to = -1 then takeS c 1 S else if ms_h S c = 0 then S else putS to (markS c 0 S) (setH S (up (ms_h S) c (ms_h S c - 1)))
def fromS (C : CT) (P : PT) (num : Int) (S : MS) : Int := if pk P = 3 then mostI (ms_h S) else ruleS (cz C) num S
def sinS (C : CT) (P : PT) (num : Int) (S : MS) : MS := setL (stealS (fromS C P num S) (hideP P) S) (fromS C P num S)
def walkS (C : CT) (P : PT) (num : Int) (S : MS) : MS := if drawV (drawS S) < pi P then wishS C P num (drawS S) else if drawV (drawS (drawS S)) < pz P then sinS C P num (drawS (drawS S)) else drawS (drawS S)
def parS (C : CT) (P : PT) (num n : Int) (S : MS) : MS := fo (fun _ T => walkS C P num T) n S
def allS (C : CT) (ps : Int → PT) (np : Int) (S : MS) : MS := fo (fun p T => parS C (ps p) p (pw (ps p)) T) np S
def floodP (C : CT) (w : Int) : Prop := 0 < ce C ∧ w % ce C = 0
def drownS (S : MS) : MS := takeS (leastI (ms_h S)) ((ms_h S (leastI (ms_h S)) + 1) / 2) S
def floodS (C : CT) (S : MS) : MS := if 0 < ce C ∧ ms_w S % ce C = 0 then drownS S else S
def goS (C : CT) (ps : Int → PT) (np : Int) (S : MS) : MS := floodS C (allS C ps np (setW S (ms_w S + 1)))
def weeksS (C : CT) (ps : Int → PT) (np n : Int) (S : MS) : MS := fo (fun _ T => goS C ps np T) n S
theorem okS_L {S : MS} (h : okS S) {c : Int} (hc : 0 ≤ c ∧ c < 7) : okS (setL S c) := ⟨h.1, h.2.1, hc, h.2.2.2⟩
theorem okS_W {S : MS} (h : okS S) : okS (setW S (ms_w S + 1)) := ⟨h.1, fun j => by have := h.2.1 j; show 0 ≤ ms_m S j ∧ ms_m S j ≤ ms_w S + 1; omega, h.2.2⟩
theorem okS_H {S : MS} (h : okS S) {c : Int} (hc : 0 ≤ c ∧ c < 7) (h0 : ¬ ms_h S c = 0) : okS (setH S (up (ms_h S) c (ms_h S c - 1))) := by
  refine ⟨fun i hi => ?_, h.2.1, h.2.2⟩
  show 0 ≤ up (ms_h S) c _ i ∧ up (ms_h S) c _ i ≤ 60
  have h1 := h.1 i hi
  have h2 := h.1 c hc
  unfold up
  split <;> omega
theorem markS_in {c d : Int} {S : MS} (h : okS S) : -1 ≤ markS c d S ∧ markS c d S ≤ ms_w S := by
  unfold markS
  have := h.w
  split
  · have := h.2.1 (60 * c + (ms_h S c - 1 - d)); omega
  · omega
theorem okS_steal {c to : Int} {S : MS} (h : okS S) (hc : 0 ≤ c ∧ c < 7) (ht : -1 ≤ to ∧ to < 7) : okS (stealS c to S) ∧ ms_w (stealS c to S) = ms_w S := by
  unfold stealS
  split
  · exact ⟨okS_take h hc (by decide), rfl⟩
  split
  · exact ⟨h, rfl⟩
  · next h1 h2 =>
    refine ⟨okS_put (okS_H h hc h2) (by omega) ?_, putS_w _ _ _⟩
    have h3 := h.1 c hc
    unfold markS
    rw [if_pos (by omega)]
    exact h.2.1 _
theorem fromS_in {C : CT} {P : PT} {num : Int} {S : MS} (h : okS S) (hC : okC C) (hn : 0 ≤ num ∧ num < 7) : 0 ≤ fromS C P num S ∧ fromS C P num S < 7 := by
  unfold fromS
  split
  · exact mostI_in _
  · exact ruleS_in hC.2.1 hn h
theorem okS_walk {C : CT} {P : PT} {num : Int} {S : MS} (h : okS S) (hC : okC C) (hP : okP P) (hn : 0 ≤ num ∧ num < 7) : okS (walkS C P num S) ∧ ms_w (walkS C P num S) = ms_w S := by
  have h1 := okS_draw h
  have h2 := okS_draw h1
  unfold walkS
  split
  · have hr := ruleS_in hC.1 hn h1
    have hg := giftP_in hP
    exact ⟨okS_L (okS_lay h1 hr (by omega)) hr, layS_w h1 hr (by omega)⟩
  split
  · have hr := fromS_in (P := P) h2 hC hn
    have := okS_steal h2 hr (hideP_in hP)
    exact ⟨okS_L this.1 hr, this.2⟩
  · exact ⟨h2, rfl⟩
theorem okS_par {C : CT} {P : PT} {num n : Int} {S : MS} (h : okS S) (hC : okC C) (hP : okP P) (hn : 0 ≤ num ∧ num < 7) (h0 : 0 ≤ n) : okS (parS C P num n S) ∧ ms_w (parS C P num n S) = ms_w S := by
  refine fo_ind (P := fun _ T => okS T ∧ ms_w T = ms_w S) h0 ⟨h, rfl⟩ (fun k T _ _ hT => ?_)
  have := okS_walk (num := num) hT.1 hC hP hn
  exact ⟨this.1, this.2.trans hT.2⟩
theorem okS_all {C : CT} {ps : Int → PT} {np : Int} {S : MS} (h : okS S) (hC : okC C) (hp : ∀ i, 0 ≤ i ∧ i < np → okP (ps i)) (hn : 0 ≤ np ∧ np ≤ 6) : okS (allS C ps np S) ∧ ms_w (allS C ps np S) = ms_w S := by
  refine fo_ind (P := fun _ T => okS T ∧ ms_w T = ms_w S) hn.1 ⟨h, rfl⟩ (fun k T h0 h1 hT => ?_)
  have hk := hp k ⟨h0, h1⟩
  have := okS_par (num := k) hT.1 hC hk (by omega) (n := pw (ps k)) (by have := hk.2.2.2.2.1; omega)
  exact ⟨this.1, this.2.trans hT.2⟩
theorem okS_flood {C : CT} {S : MS} (h : okS S) : okS (floodS C S) ∧ ms_w (floodS C S) = ms_w S := by
  unfold floodS
  split
  · have hl := leastI_in (ms_h S)
    have := h.1 _ hl
    exact ⟨okS_take h hl (by omega), rfl⟩
  · exact ⟨h, rfl⟩
theorem okS_go {C : CT} {ps : Int → PT} {np : Int} {S : MS} (h : okS S) (hC : okC C) (hp : ∀ i, 0 ≤ i ∧ i < np → okP (ps i)) (hn : 0 ≤ np ∧ np ≤ 6) : okS (goS C ps np S) ∧ ms_w (goS C ps np S) = ms_w S + 1 := by
  have h1 := okS_all (okS_W h) hC hp hn
  have h2 := okS_flood (C := C) h1.1
  exact ⟨h2.1, h2.2.trans h1.2⟩
theorem okS_weeks {C : CT} {ps : Int → PT} {np n : Int} {S : MS} (h : okS S) (hC : okC C) (hp : ∀ i, 0 ≤ i ∧ i < np → okP (ps i)) (hn : 0 ≤ np ∧ np ≤ 6) (h0 : 0 ≤ n) : okS (weeksS C ps np n S) ∧ ms_w (weeksS C ps np n S) = ms_w S + n := by
  refine fo_ind (P := fun k T => okS T ∧ ms_w T = ms_w S + k) h0 ⟨h, by omega⟩ (fun k T _ _ hT => ?_)
  have := okS_go hT.1 hC hp hn
  exact ⟨this.1, by rw [this.2, hT.2]; omega⟩
/-- the class's cells of a parish, of a custom; the row of the parishes -/
def pcl (kd : Int) : Nat := if kd = 0 then 4 else if kd = 1 then 5 else if kd = 2 then 6 else 0
def pC (a : Nat) (P : PT) : Nat × va_E := (a, oC (pcl (pk P)) [vI (pn P), vI (pw P), vI (pi P), vI (pz P)])
def cC (a : Nat) (C : CT) : Nat × va_E := (a, oC 1 [vI (cw C), vI (cz C), vI (ce C)])
def orow (n : Int) (ad : Int → Nat) : Int → Option Nat := fun i => if 0 ≤ i ∧ i < n then some (ad i) else none
theorem orow_in {n i : Int} {ad : Int → Nat} (h : 0 ≤ i ∧ i < n) : orow n ad i = some (ad i) := if_pos h
theorem orow_out {n i : Int} {ad : Int → Nat} (h : ¬ (0 ≤ i ∧ i < n)) : orow n ad i = none := if_neg h
theorem putN_succ {c n : Int} {S : MS} (h : 0 ≤ n) : putN c (n + 1) S = putS c (ms_w (putN c n S)) (putN c n S) := fo_succ _ h S
theorem weeksS_succ {C : CT} {ps : Int → PT} {np n : Int} {S : MS} (h : 0 ≤ n) : weeksS C ps np (n + 1) S = goS C ps np (weeksS C ps np n S) := fo_succ _ h S
theorem parS_succ {C : CT} {P : PT} {num n : Int} {S : MS} (h : 0 ≤ n) : parS C P num (n + 1) S = walkS C P num (parS C P num n S) := fo_succ _ h S
theorem up_agree {z f : Int → Int} {i : Int} (h : ∀ j : Int, 0 ≤ j → j < i → z j = f j) : ∀ j : Int, 0 ≤ j → j < i + 1 → up z i (f i) j = f j := by
  intro j h0 h1
  unfold up
  by_cases q : j = i
  · rw [if_pos q, q]
  · rw [if_neg q]; exact h j h0 (by omega)
theorem pC_0 {a : Nat} {P : PT} (h : pk P = 0) : pC a P = (a, oC 4 [vI (pn P), vI (pw P), vI (pi P), vI (pz P)]) := by unfold pC pcl; rw [if_pos h]
theorem pC_1 {a : Nat} {P : PT} (h : pk P = 1) : pC a P = (a, oC 5 [vI (pn P), vI (pw P), vI (pi P), vI (pz P)]) := by unfold pC pcl; rw [if_neg (by omega), if_pos h]
theorem pC_2 {a : Nat} {P : PT} (h : pk P = 2) : pC a P = (a, oC 6 [vI (pn P), vI (pw P), vI (pi P), vI (pz P)]) := by unfold pC pcl; rw [if_neg (by omega), if_neg (by omega), if_pos h]
theorem pC_3 {a : Nat} {P : PT} (h : pk P = 3) : pC a P = (a, oC 0 [vI (pn P), vI (pw P), vI (pi P), vI (pz P)]) := by unfold pC pcl; rw [if_neg (by omega), if_neg (by omega), if_neg (by omega)]
theorem j_getP {X : jX} {cc : ByteArray} {nL : Nat} {own : String} {Ts : List Cond} {rm : Room} {D : va_G} {Y : Nat → ClassId} {RO : va_W} {k n : Nat} {ws : va_W} {lc : List (Nat × Value)} {pc index : Nat} {ref : String} {st : List Value} (C : jC X cc nL own Ts rm D Y RO) {a : Nat} {P : PT} {v : Value} (hq : pC a P ∈ ws ∨ pC a P ∈ RO) (hk : 0 ≤ pk P ∧ pk P ≤ 3) (h4 : ∀ w ∈ u_ws RX5 TX5 4, w ∈ Ts) (h5 : ∀ w ∈ u_ws RX6 TX6 4, w ∈ Ts) (h6 : ∀ w ∈ u_ws RX7 TX7 4, w ∈ Ts) (h0 : ∀ w ∈ u_ws RX0 TX0 4, w ∈ Ts) (kf : Nat) (hkf : kf < 4) (hlink : Cond.fieldLink own index ref (TX5 kf).2.1 (TX5 kf).2.2.1 ∈ Ts) (hsame : (TX5 kf).1 = ref ∨ Cond.sameField ref (TX5 kf).1 (TX5 kf).2.1 (TX5 kf).2.2.1 ∈ Ts) (hv : [vI (pn P), vI (pw P), vI (pi P), vI (pz P)][kf]? = some v) (hd : decode cc pc = .ok (.getfield index, 3)) (kk : jW X nL k n ws lc (pc + 3) (v :: st)) : jW X nL k n ws lc pc (.ref a :: st) := by
  have e6 : TX6 = TX5 := rfl
  have e7 : TX7 = TX5 := rfl
  have e0 : TX0 = TX5 := rfl
  rcases (show pk P = 0 ∨ pk P = 1 ∨ pk P = 2 ∨ pk P = 3 by omega) with h | h | h | h
  · rw [pC_0 h] at hq
    exact j_get C (T := TX5) hq rfl h4 kf hkf hlink hsame hv hd kk
  · rw [pC_1 h] at hq
    exact j_get C (T := TX6) hq rfl h5 kf hkf hlink hsame hv hd kk
  · rw [pC_2 h] at hq
    exact j_get C (T := TX7) hq rfl h6 kf hkf hlink hsame hv hd kk
  · rw [pC_3 h] at hq
    exact j_get C (T := TX0) hq rfl h0 kf hkf hlink hsame hv hd kk
/-- what about() tells of a parish, customTold() of a custom -/
def toldP (P : PT) (w : Int) : Int := if w = 0 then pk P else if w = 1 then pn P else if w = 2 then pw P else if w = 3 then pi P else if w = 4 then pz P else giftP P
def toldC (C : CT) (w : Int) : Int := if w = 0 then cw C else if w = 1 then cz C else ce C
theorem toldP_0 {P : PT} {w : Int} (h : w = 0) : toldP P w = pk P := by unfold toldP; rw [if_pos h]
theorem toldP_1 {P : PT} {w : Int} (h : w = 1) : toldP P w = pn P := by unfold toldP; rw [if_neg (by omega), if_pos h]
theorem toldP_2 {P : PT} {w : Int} (h : w = 2) : toldP P w = pw P := by unfold toldP; rw [if_neg (by omega), if_neg (by omega), if_pos h]
theorem toldP_3 {P : PT} {w : Int} (h : w = 3) : toldP P w = pi P := by unfold toldP; rw [if_neg (by omega), if_neg (by omega), if_neg (by omega), if_pos h]
theorem toldP_4 {P : PT} {w : Int} (h : w = 4) : toldP P w = pz P := by unfold toldP; rw [if_neg (by omega), if_neg (by omega), if_neg (by omega), if_neg (by omega), if_pos h]
theorem toldP_5 {P : PT} {w : Int} (h : w < 0 ∨ 4 < w) : toldP P w = giftP P := by unfold toldP; rw [if_neg (by omega), if_neg (by omega), if_neg (by omega), if_neg (by omega), if_neg (by omega)]
theorem land31 (x : Int) : landI x 2147483647 = x % 2147483648 := by
  unfold landI
  have h1 : Int64.ofInt x &&& Int64.ofInt 2147483647 = Int64.ofInt (x % 2147483648) := by
    apply Int64.toBitVec.inj
    rw [Int64.toBitVec_and]
    show BitVec.ofInt 64 x &&& BitVec.ofInt 64 2147483647 = BitVec.ofInt 64 (x % 2147483648)
    apply BitVec.eq_of_toNat_eq
    rw [BitVec.toNat_and, BitVec.toNat_ofInt, BitVec.toNat_ofInt, BitVec.toNat_ofInt]
    rw [show ((2147483647 : Int) % ((2 ^ 64 : Nat) : Int)).toNat = 2 ^ 31 - 1 from rfl, Nat.and_two_pow_sub_one_eq_mod]
    omega
  rw [h1, Int64.toInt_ofInt_of_le (by omega) (by omega)]
theorem shr16 {x : Int} (h : 0 ≤ x ∧ x ≤ 2147483647) : shrI x 16 = x / 65536 := by
  unfold shrI
  have h1 : Int32.ofInt x >>> (Int32.ofInt 16 &&& 31) = Int32.ofInt (x / 65536) := by
    apply Int32.toInt_inj.mp
    rw [Int32.toInt_ofInt_of_le (by omega) (by omega)]
    show (BitVec.sshiftRight' (BitVec.ofInt 32 x) ((Int32.ofInt 16 &&& 31).toBitVec.smod 32)).toInt = _
    rw [show ((Int32.ofInt 16 &&& 31).toBitVec.smod 32) = 16#32 from rfl]
    rw [BitVec.sshiftRight', BitVec.toInt_sshiftRight, Int.shiftRight_eq_div_pow, BitVec.toInt_ofInt, show (16#32).toNat = 16 from rfl]
    rw [Int.bmod_eq_of_le (by omega) (by omega)]
    rfl
  rw [h1, Int32.toInt_ofInt_of_le (by omega) (by omega)]
theorem drawV_in {S : MS} (h : okS S) : 0 ≤ drawV S ∧ drawV S < 10 := by
  unfold drawV
  have := h.2.2.2
  omega
/-- how many stand ahead; what the others have above a level -/
def aheadF (h : Int → Int) (c i b : Int) : Int := if h c < h i ∨ (h i = h c ∧ i < c) then b + 1 else b
def aheadI (h : Int → Int) (c : Int) : Int := fo (aheadF h c) 7 0
def surF (h : Int → Int) (lv but i b : Int) : Int := if i ≠ but ∧ lv < h i then b + (h i - lv) else b
def surI (h : Int → Int) (lv but : Int) : Int := fo (surF h lv but) 7 0
theorem surI_in {S : MS} (h : okS S) {lv but : Int} (hl : -1 ≤ lv) : 0 ≤ surI (ms_h S) lv but ∧ surI (ms_h S) lv but ≤ 427 := by
  have := fo_ind (f := surF (ms_h S) lv but) (s := 0) (n := 7) (P := fun k b => 0 ≤ b ∧ b ≤ 61 * k) (by decide) (by decide) (fun k b h0 h1 hb => by have := h.1 k ⟨h0, h1⟩; unfold surF; split <;> omega)
  unfold surI; omega
theorem markS_none {S : MS} (h : okS S) {c : Int} (hc : 0 ≤ c ∧ c < 7) (e : markS c 0 S = -1) : ms_h S c = 0 := by
  have h1 := h.1 c hc
  unfold markS at e
  by_cases q : 0 < ms_h S c
  · rw [if_pos ⟨by decide, q⟩] at e
    have := h.2.1 (60 * c + (ms_h S c - 1 - 0))
    omega
  · omega
abbrev kof (ps : Int → PT) : Int → Int := fun i => pk (ps i)
abbrev nof (ps : Int → PT) : Int → Int := fun i => pn (ps i)
abbrev wof (ps : Int → PT) : Int → Int := fun i => pw (ps i)
abbrev iof (ps : Int → PT) : Int → Int := fun i => pi (ps i)
abbrev zof (ps : Int → PT) : Int → Int := fun i => pz (ps i)
abbrev cwof (cs : Int → CT) : Int → Int := fun i => cw (cs i)
abbrev czof (cs : Int → CT) : Int → Int := fun i => cz (cs i)
abbrev ceof (cs : Int → CT) : Int → Int := fun i => ce (cs i)
/-- the reference's other numbers: parishes, customs, letters, is kept, the kept seed, the saved seed, fault, is whole, new rules and every, h -/
abbrev GS : Type := Int × Int × Int × Int × Int × Int × Int × Int × Int × Int × Int × Int
abbrev g_np (G : GS) : Int := G.1
abbrev g_nc (G : GS) : Int := G.2.1
abbrev g_pl (G : GS) : Int := G.2.2.1
abbrev g_ik (G : GS) : Int := G.2.2.2.1
abbrev g_ks (G : GS) : Int := G.2.2.2.2.1
abbrev g_ss (G : GS) : Int := G.2.2.2.2.2.1
abbrev g_fa (G : GS) : Int := G.2.2.2.2.2.2.1
abbrev g_iw (G : GS) : Int := G.2.2.2.2.2.2.2.1
abbrev g_nw (G : GS) : Int := G.2.2.2.2.2.2.2.2.1
abbrev g_ns (G : GS) : Int := G.2.2.2.2.2.2.2.2.2.1
abbrev g_ne (G : GS) : Int := G.2.2.2.2.2.2.2.2.2.2.1
abbrev g_h (G : GS) : Int := G.2.2.2.2.2.2.2.2.2.2.2
theorem putN_a (c n : Int) (S : MS) : ms_a (putN c n S) = ms_a S := by
  unfold putN fo
  induction n.toNat with
  | zero => rfl
  | succ k ih => show ms_a (putW c (foldI _ k _)) = _; exact (putS_a _ _ _).trans ih
theorem layS_alt (c n : Int) (S : MS) : putN c n (setA S (ms_a S + n)) = layS c n S := by
  rw [putN_setA]
  unfold layS
  rw [putN_a]
theorem putS_setL (c x v : Int) (S : MS) : putS c x (setL S v) = setL (putS c x S) v := by
  by_cases h : ms_h S c = 60
  · rw [putS_full (S := setL S v) h, putS_full h]; rfl
  · rw [putS_not (S := setL S v) h, putS_not h]; rfl
theorem takeS_zero {c : Int} {S : MS} (h : ms_h S c = 0) : takeS c 1 S = S := by
  have e : offS c 1 S = 0 := by unfold offS; rw [if_pos (by omega), h]
  unfold takeS
  rw [e, show ms_h S c - 0 = ms_h S c by omega, up_self, show ms_t S + 0 = ms_t S by omega]
theorem stealS_zero {c to : Int} {S : MS} (h : ms_h S c = 0) : stealS c to S = S := by
  unfold stealS
  rw [takeS_zero h, if_pos h]
  split <;> rfl
