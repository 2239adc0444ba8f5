/-! the answers of the calls (of the moor) -/
def rLay (c n : Int) (S : MS) : Int := if c < 0 ∨ 7 ≤ c then -101 else if n < 1 ∨ 60 < n then -102 else ms_h (layS c n S) c
def sLay (c n : Int) (S : MS) : MS := if c < 0 ∨ 7 ≤ c then S else if n < 1 ∨ 60 < n then S else layS c n S
def rTake (c n : Int) (S : MS) : Int := if c < 0 ∨ 7 ≤ c then -101 else if n < 1 ∨ 60 < n then -102 else ms_h (takeS c n S) c
def sTake (c n : Int) (S : MS) : MS := if c < 0 ∨ 7 ≤ c then S else if n < 1 ∨ 60 < n then S else takeS c n S
def rHeight (c : Int) (S : MS) : Int := if c < 0 ∨ 7 ≤ c then -101 else ms_h S c
def rMark (c d : Int) (S : MS) : Int := if c < 0 ∨ 7 ≤ c then -101 else if d < 0 ∨ 60 ≤ d then -102 else markS c d S
def cntF (f : Int → Int) (w i s : Int) : Int := if f i = w then s + 1 else s
def cntI (f : Int → Int) (w n : Int) : Int := fo (cntF f w) n 0
def rDated (c w : Int) (S : MS) : Int := if c < 0 ∨ 7 ≤ c then -101 else if w < 0 ∨ 9999 < w then -102 else cntI (fun d => markS c d S) w (ms_h S c)
def rSeed (v : Int) (S : MS) : Int := if v < 0 then -102 else ms_s S
def sSeed (v : Int) (S : MS) : MS := if v < 0 then S else setD S v
def rWeeks (cu n nc : Int) (cs : Int → CT) (np : Int) (ps : Int → PT) (S : MS) : Int := if cu < 0 ∨ nc ≤ cu then -101 else if n < 1 ∨ 60 < n then -102 else if 9999 < ms_w S + n then -103 else sumI (ms_h (weeksS (cs cu) ps np n S)) 7
def sWeeks (cu n nc : Int) (cs : Int → CT) (np : Int) (ps : Int → PT) (S : MS) : MS := if cu < 0 ∨ nc ≤ cu then S else if n < 1 ∨ 60 < n then S else if 9999 < ms_w S + n then S else weeksS (cs cu) ps np n S
def rWould (cu c n nc : Int) (cs : Int → CT) (np : Int) (ps : Int → PT) (S : MS) : Int := if (cu < 0 ∨ nc ≤ cu) ∨ (c < 0 ∨ 7 ≤ c) then -101 else if n < 0 ∨ 60 < n then -102 else ms_h (weeksS (cs cu) ps np n S) c
/-- the first below n of which P holds; -1: none -/
def fstF (P : Int → Prop) [DecidablePred P] (i r : Int) : Int := if r = -1 ∧ P i then i else r
def fstI (P : Int → Prop) [DecidablePred P] (n : Int) : Int := fo (fstF P) n (-1)
theorem fst_step {P : Int → Prop} [DecidablePred P] {i : Int} (h0 : 0 ≤ i) (h : fstI P i = -1) (hp : ¬ P i) : fstI P (i + 1) = -1 := by
  unfold fstI at h ⊢
  rw [fo_succ _ h0, h]
  unfold fstF
  rw [if_neg (fun q => hp q.2)]
theorem fst_hit {P : Int → Prop} [DecidablePred P] {i n : Int} (h0 : 0 ≤ i) (hn : i < n) (h : fstI P i = -1) (hp : P i) : fstI P n = i := by
  have h1 : fstI P (i + 1) = i := by
    unfold fstI at h ⊢
    rw [fo_succ _ h0, h]
    unfold fstF
    rw [if_pos ⟨rfl, hp⟩]
  have go : ∀ m : Nat, fstI P (i + 1 + m) = i := by
    intro m
    induction m with
    | zero => simpa using h1
    | succ m ih =>
      rw [show i + 1 + ((m + 1 : Nat) : Int) = (i + 1 + m) + 1 by omega]
      unfold fstI at ih ⊢
      rw [fo_succ _ (by omega), ih]
      unfold fstF
      rw [if_neg (by omega)]
  have := go (n - (i + 1)).toNat
  rwa [show i + 1 + (((n - (i + 1)).toNat : Nat) : Int) = n by omega] at this
theorem fst_cases {P : Int → Prop} [DecidablePred P] {n : Int} (hn : 0 ≤ n) : (fstI P n = -1 ∧ ∀ i, 0 ≤ i → i < n → ¬ P i) ∨ (0 ≤ fstI P n ∧ fstI P n < n ∧ P (fstI P n) ∧ ∀ i, 0 ≤ i → i < fstI P n → ¬ P i) := by
  refine fo_ind (f := fstF P) (s := -1) (P := fun k r => (r = -1 ∧ ∀ i, 0 ≤ i → i < k → ¬ P i) ∨ (0 ≤ r ∧ r < k ∧ P r ∧ ∀ i, 0 ≤ i → i < r → ¬ P i)) hn (Or.inl ⟨rfl, fun i _ _ => by omega⟩) (fun k r h0 h1 h => ?_)
  unfold fstF
  rcases h with ⟨e, h⟩ | ⟨a, b, c, d⟩
  · by_cases q : P k
    · rw [if_pos ⟨e, q⟩]
      exact Or.inr ⟨h0, by omega, q, fun i hi hk => h i hi hk⟩
    · rw [if_neg (fun z => q z.2)]
      refine Or.inl ⟨e, fun i hi hk => ?_⟩
      by_cases z : i = k
      · rw [z]; exact q
      · exact h i hi (by omega)
  · rw [if_neg (by omega)]
    exact Or.inr ⟨a, by omega, c, d⟩
def rOrder (i : Int) (S : MS) : Int := if i < 0 ∨ 7 ≤ i then -102 else fstI (fun c => aheadI (ms_h S) c = i) 7
def rShows (cu c n nc : Int) (cs : Int → CT) (np : Int) (ps : Int → PT) (S : MS) : Int := if (cu < 0 ∨ nc ≤ cu) ∨ (c < 0 ∨ 7 ≤ c) then -101 else if n < 0 ∨ 60 < n then -102 else fstI (fun b => ¬ surI (ms_h (weeksS (cs cu) ps np b (layS c n S))) (ms_h (weeksS (cs cu) ps np b (layS c n S)) c - 1) c = 0) 61
def rGone (cu c nc : Int) (cs : Int → CT) (np : Int) (ps : Int → PT) (S : MS) : Int := if (cu < 0 ∨ nc ≤ cu) ∨ (c < 0 ∨ 7 ≤ c) then -101 else fstI (fun b => ms_h (weeksS (cs cu) ps np b S) c = 0) 61
/-- behind how many weeks less one, from the first on, a cairn is empty -/
def drainI (C : CT) (np : Int) (ps : Int → PT) (c n : Int) (S : MS) : Int := fstI (fun b => ms_h (weeksS C ps np (b + 1) S) c = 0) n
def tillI (C : CT) (np : Int) (ps : Int → PT) (c n : Int) (S : MS) : Int := if drainI C np ps c n S = -1 then n + 1 else drainI C np ps c n S + 1
def rSaved (cu c n nc : Int) (cs : Int → CT) (np : Int) (ps : Int → PT) (S : MS) : Int := if (cu < 0 ∨ nc ≤ cu) ∨ (c < 0 ∨ 7 ≤ c) then -101 else if n < 1 ∨ 60 < n then -102 else fstI (fun m => drainI (cs cu) np ps c n (layS c m S) = -1) 61
def absI (a : Int) : Int := if 0 ≤ a then a else -a
def unlF (f g : Int → Int) (i s : Int) : Int := s + absI (f i - g i)
def rUnlike (a b n nc : Int) (cs : Int → CT) (np : Int) (ps : Int → PT) (S : MS) : Int := if (a < 0 ∨ nc ≤ a) ∨ (b < 0 ∨ nc ≤ b) then -101 else if n < 0 ∨ 60 < n then -102 else fo (unlF (ms_h (weeksS (cs a) ps np n S)) (ms_h (weeksS (cs b) ps np n S))) 7 0
def rLie (c : Int) (S : MS) : Int := if c < 0 ∨ 7 ≤ c then -101 else fstI (fun x => surI (ms_h S) (ms_h S c + x - 1) c ≤ x) (sumI (ms_h S) 7 - ms_h S c + 1)
def rCount (w np nc pl : Int) (S : MS) : Int := if w = 0 then np else if w = 1 then nc else if w = 2 then sumI (ms_h S) 7 else if w = 3 then ms_w S else if w = 4 then ms_s S else if w = 5 then ms_l S else if w = 6 then ms_a S else if w = 7 then ms_t S else if w = 8 then ms_p S else if w = 9 then pl else -102
theorem aheadI_in (h : Int → Int) (c : Int) : 0 ≤ aheadI h c ∧ aheadI h c ≤ 7 := by
  have := fo_ind (f := aheadF h c) (s := 0) (n := 7) (P := fun k b => 0 ≤ b ∧ b ≤ k) (by decide) (by decide) (fun k b h0 h1 hb => by unfold aheadF; split <;> omega)
  unfold aheadI; omega
theorem drainI_in (C : CT) (np : Int) (ps : Int → PT) (c : Int) (S : MS) {n : Int} (hn : 0 ≤ n) : -1 ≤ drainI C np ps c n S ∧ drainI C np ps c n S < n ∨ drainI C np ps c n S = -1 := by
  unfold drainI
  rcases fst_cases (P := fun b => ms_h (weeksS C ps np (b + 1) S) c = 0) hn with h | h
  · exact Or.inr h.1
  · exact Or.inl ⟨by omega, h.2.1⟩
theorem tillI_in (C : CT) (np : Int) (ps : Int → PT) (c : Int) (S : MS) {n : Int} (hn : 1 ≤ n) : 0 ≤ tillI C np ps c n S ∧ tillI C np ps c n S ≤ n + 1 := by
  have := drainI_in C np ps c S (show 0 ≤ n by omega)
  unfold tillI
  split <;> omega
theorem gone_till {C : CT} {np : Int} {ps : Int → PT} {c : Int} {S : MS} (h : ¬ ms_h S c = 0) : fstI (fun b => ms_h (weeksS C ps np b S) c = 0) 61 = if 60 < tillI C np ps c 60 S then -1 else tillI C np ps c 60 S := by
  have hd := fst_cases (P := fun b => ms_h (weeksS C ps np (b + 1) S) c = 0) (n := 60) (by decide)
  have hf := fst_cases (P := fun b => ms_h (weeksS C ps np b S) c = 0) (n := 61) (by decide)
  have e0 : ∀ b : Int, b ≤ 0 → weeksS C ps np b S = S := fun b hb => fo_neg _ hb S
  have hd1 : drainI C np ps c 60 S = fstI (fun b => ms_h (weeksS C ps np (b + 1) S) c = 0) 60 := rfl
  unfold tillI
  rw [hd1]
  generalize fstI (fun b => ms_h (weeksS C ps np (b + 1) S) c = 0) 60 = d at *
  generalize fstI (fun b => ms_h (weeksS C ps np b S) c = 0) 61 = f at *
  have hf0 : f = -1 ∨ 1 ≤ f := by
    rcases hf with q | q
    · exact Or.inl q.1
    · refine Or.inr (Classical.byContradiction fun z => ?_)
      have hq := q.2.2.1
      rw [e0 f (by omega)] at hq
      exact h hq
  rcases hd with ⟨rfl, hd⟩ | ⟨d0, d1, d2, d3⟩
  · rw [if_pos rfl, if_pos (by decide)]
    rcases hf with q | q
    · exact q.1
    · have h1 := hd (f - 1) (by omega) (by omega)
      rw [show f - 1 + 1 = f by omega] at h1
      exact absurd q.2.2.1 h1
  · rw [if_neg (by omega), if_neg (by omega)]
    rcases hf with q | q
    · exact absurd d2 (q.2 (d + 1) (by omega) (by omega))
    · have a1 : ¬ f < d + 1 := fun z => by
        have h1 := d3 (f - 1) (by omega) (by omega)
        rw [show f - 1 + 1 = f by omega] at h1
        exact h1 q.2.2.1
      have a2 : ¬ d + 1 < f := fun z => q.2.2.2 (d + 1) (by omega) z d2
      omega
theorem sumI_in {S : MS} (h : okS S) : 0 ≤ sumI (ms_h S) 7 ∧ sumI (ms_h S) 7 ≤ 420 := by
  have := fo_ind (f := sumF (ms_h S)) (s := 0) (n := 7) (P := fun k b => 0 ≤ b ∧ b ≤ 60 * k) (by decide) (by decide) (fun k b h0 h1 hb => by have := h.1 k ⟨h0, h1⟩; unfold sumF; omega)
  unfold sumI; omega
def rRestore (ik : Int) (S T : MS) : Int := if ik = 0 then -103 else sumI (ms_h T) 7
def sRestore (ik : Int) (S T : MS) : MS := if ik = 0 then S else T
theorem sumI_ge {S : MS} (h : okS S) {c : Int} (hc : 0 ≤ c ∧ c < 7) : ms_h S c ≤ sumI (ms_h S) 7 := by
  have := fo_ind (f := sumF (ms_h S)) (s := 0) (n := 7) (P := fun k b => 0 ≤ b ∧ (c < k → ms_h S c ≤ b)) (by decide) ⟨by decide, fun q => by omega⟩ (fun k b h0 h1 hb => by
    have h2 := h.1 k ⟨h0, h1⟩
    unfold sumF
    refine ⟨by omega, fun q => ?_⟩
    by_cases z : c = k
    · rw [z]; omega
    · have := hb.2 (by omega); omega)
  unfold sumI; exact this.2 hc.2
/-! what lies, the weeks, the seed alone tell what would be (laid, taken, spilt don't) -/
def coreE (S T : MS) : Prop := ms_h S = ms_h T ∧ ms_m S = ms_m T ∧ ms_w S = ms_w T ∧ ms_l S = ms_l T ∧ ms_s S = ms_s T
theorem coreE.rf (S : MS) : coreE S S := ⟨rfl, rfl, rfl, rfl, rfl⟩
theorem coreE.tr {S T U : MS} (h : coreE S T) (g : coreE T U) : coreE S U := ⟨h.1.trans g.1, h.2.1.trans g.2.1, h.2.2.1.trans g.2.2.1, h.2.2.2.1.trans g.2.2.2.1, h.2.2.2.2.trans g.2.2.2.2⟩
theorem core_put {c x : Int} {S T : MS} (h : coreE S T) : coreE (putS c x S) (putS c x T) := by
  obtain ⟨h1, h2, h3, h4, h5⟩ := h
  by_cases q : ms_h S c = 60
  · rw [putS_full q, putS_full (S := T) (by rw [← h1]; exact q)]
    exact ⟨h1, h2, h3, h4, h5⟩
  · rw [putS_not q, putS_not (S := T) (by rw [← h1]; exact q)]
    exact ⟨by show up (ms_h S) c _ = up (ms_h T) c _; rw [h1], by show up (ms_m S) _ x = up (ms_m T) _ x; rw [h1, h2], h3, h4, h5⟩
theorem core_putfull {c x : Int} {S : MS} (h : ms_h S c = 60) : coreE (putS c x S) S := by rw [putS_full h]; exact coreE.rf S
theorem core_putN {c n : Int} {S T : MS} (h : coreE S T) : coreE (putN c n S) (putN c n T) := by
  unfold putN fo
  induction n.toNat with
  | zero => exact h
  | succ k ih =>
    show coreE (putW c (foldI _ k S)) (putW c (foldI _ k T))
    have e : ∀ U : MS, putW c U = putS c (ms_w U) U := fun _ => rfl
    rw [e, e, ih.2.2.1]
    exact core_put ih
theorem core_setA {S T : MS} (h : coreE S T) (a b : Int) : coreE (setA S a) (setA T b) := h
theorem core_lay {c n : Int} {S T : MS} (h : coreE S T) : coreE (layS c n S) (layS c n T) := core_setA (core_putN h) _ _
theorem core_take {c n : Int} {S T : MS} (h : coreE S T) : coreE (takeS c n S) (takeS c n T) := by
  obtain ⟨h1, h2, h3, h4, h5⟩ := h
  exact ⟨by show up (ms_h S) c _ = up (ms_h T) c _; unfold offS; rw [h1], h2, h3, h4, h5⟩
theorem core_rule {r num : Int} {S T : MS} (h : coreE S T) : ruleS r num S = ruleS r num T := by unfold ruleS; rw [h.1, h.2.2.2.1]
theorem core_L {S T : MS} (h : coreE S T) (c : Int) : coreE (setL S c) (setL T c) := ⟨h.1, h.2.1, h.2.2.1, rfl, h.2.2.2.2⟩
theorem core_draw {S T : MS} (h : coreE S T) : coreE (drawS S) (drawS T) := ⟨h.1, h.2.1, h.2.2.1, h.2.2.2.1, by show (1103515245 * ms_s S + 12345) % 2147483648 = (1103515245 * ms_s T + 12345) % 2147483648; rw [h.2.2.2.2]⟩
theorem core_drawV {S T : MS} (h : coreE S T) : drawV S = drawV T := by unfold drawV; rw [h.2.2.2.2]
theorem core_wish {C : CT} {P : PT} {num : Int} {S T : MS} (h : coreE S T) : coreE (wishS C P num S) (wishS C P num T) := by
  unfold wishS
  rw [core_rule h]
  exact core_L (core_lay h) _
theorem core_steal {c to : Int} {S T : MS} (h : coreE S T) : coreE (stealS c to S) (stealS c to T) := by
  unfold stealS
  rw [h.1]
  split
  · exact core_take h
  split
  · exact h
  · have e : markS c 0 S = markS c 0 T := by unfold markS; rw [h.1, h.2.1]
    rw [e]
    exact core_put ⟨rfl, h.2.1, h.2.2.1, h.2.2.2.1, h.2.2.2.2⟩
theorem core_sin {C : CT} {P : PT} {num : Int} {S T : MS} (h : coreE S T) : coreE (sinS C P num S) (sinS C P num T) := by
  have e : fromS C P num S = fromS C P num T := by unfold fromS; rw [h.1, core_rule h]
  unfold sinS
  rw [e]
  exact core_L (core_steal h) _
theorem core_walk {C : CT} {P : PT} {num : Int} {S T : MS} (h : coreE S T) : coreE (walkS C P num S) (walkS C P num T) := by
  have h1 := core_draw h
  have h2 := core_draw h1
  unfold walkS
  rw [core_drawV h1, core_drawV h2]
  split
  · exact core_wish h1
  split
  · exact core_sin h2
  · exact h2
theorem core_fo {f : Int → MS → MS} (hf : ∀ (k : Int) (S T : MS), coreE S T → coreE (f k S) (f k T)) {n : Int} {S T : MS} (h : coreE S T) : coreE (fo f n S) (fo f n T) := by
  unfold fo
  induction n.toNat with
  | zero => exact h
  | succ k ih => exact hf _ _ _ ih
theorem core_go {C : CT} {ps : Int → PT} {np : Int} {S T : MS} (h : coreE S T) : coreE (goS C ps np S) (goS C ps np T) := by
  have h1 : coreE (setW S (ms_w S + 1)) (setW T (ms_w T + 1)) := ⟨h.1, h.2.1, by show ms_w S + 1 = ms_w T + 1; rw [h.2.2.1], h.2.2.2⟩
  have h2 : coreE (allS C ps np (setW S (ms_w S + 1))) (allS C ps np (setW T (ms_w T + 1))) := core_fo (f := fun p T => parS C (ps p) p (pw (ps p)) T) (n := np) (fun p S T q => core_fo (f := fun _ T => walkS C (ps p) p T) (n := pw (ps p)) (fun _ S T q => core_walk q) q) h1
  unfold goS floodS
  rw [h2.2.2.1]
  split
  · unfold drownS
    rw [h2.1]
    exact core_take h2
  · exact h2
theorem core_weeks {C : CT} {ps : Int → PT} {np n : Int} {S T : MS} (h : coreE S T) : coreE (weeksS C ps np n S) (weeksS C ps np n T) := core_fo (f := fun _ T => goS C ps np T) (n := n) (fun _ S T q => core_go q) h
theorem fst_congr {P Q : Int → Prop} [DecidablePred P] [DecidablePred Q] {n : Int} (h : ∀ i, 0 ≤ i → i < n → (P i ↔ Q i)) (hn : 0 ≤ n) : fstI P n = fstI Q n := by
  rcases fst_cases (P := P) hn with a | a <;> rcases fst_cases (P := Q) hn with b | b
  · rw [a.1, b.1]
  · exact absurd ((h _ b.1 b.2.1).mpr b.2.2.1) (a.2 _ b.1 b.2.1)
  · exact absurd ((h _ a.1 a.2.1).mp a.2.2.1) (b.2 _ a.1 a.2.1)
  · have a1 : ¬ fstI P n < fstI Q n := fun z => b.2.2.2 _ a.1 z ((h _ a.1 a.2.1).mp a.2.2.1)
    have a2 : ¬ fstI Q n < fstI P n := fun z => a.2.2.2 _ b.1 z ((h _ b.1 b.2.1).mpr b.2.2.1)
    omega
theorem core_drain {C : CT} {ps : Int → PT} {np c n : Int} {S T : MS} (hn : 0 ≤ n) (h : coreE S T) : drainI C np ps c n S = drainI C np ps c n T := fst_congr (fun i _ _ => by rw [(core_weeks h).1]) hn
theorem putN_h {c : Int} {S : MS} (hh : 0 ≤ ms_h S c ∧ ms_h S c ≤ 60) {n : Int} (h0 : 0 ≤ n) (hn : n ≤ 60 - ms_h S c) : ms_h (putN c n S) c = ms_h S c + n := by
  refine fo_ind (P := fun k T => k ≤ 60 - ms_h S c → ms_h T c = ms_h S c + k) h0 (fun _ => by omega) (fun k T _ _ hT hk => ?_) hn
  have e := hT (by omega)
  unfold putW
  rw [putS_not (by omega)]
  show up (ms_h T) c (ms_h T c + 1) c = _
  rw [up_same, e]
  omega
theorem putN_more {c : Int} {S : MS} (hh : 0 ≤ ms_h S c ∧ ms_h S c ≤ 60) {n : Int} (hn : 60 - ms_h S c ≤ n) : coreE (putN c n S) (putN c (60 - ms_h S c) S) := by
  have go : ∀ m : Nat, coreE (putN c (60 - ms_h S c + m) S) (putN c (60 - ms_h S c) S) := by
    intro m
    induction m with
    | zero => simpa using coreE.rf _
    | succ m ih =>
      have e : putN c (60 - ms_h S c + ((m + 1 : Nat) : Int)) S = putW c (putN c (60 - ms_h S c + m) S) := by
        rw [show 60 - ms_h S c + ((m + 1 : Nat) : Int) = (60 - ms_h S c + m) + 1 by omega]
        exact fo_succ _ (by omega) S
      rw [e]
      refine (core_putfull ?_).tr ih
      rw [ih.1, putN_h hh (by omega) (by omega)]
      omega
  have := go (n - (60 - ms_h S c)).toNat
  rwa [show 60 - ms_h S c + (((n - (60 - ms_h S c)).toNat : Nat) : Int) = n by omega] at this
theorem saved_none {C : CT} {ps : Int → PT} {np c n m : Int} {S : MS} (hS : okS S) (hc : 0 ≤ c ∧ c < 7) (hn : 0 ≤ n) (hm : 60 - ms_h S c < m) (hm2 : m ≤ 61) (h : fstI (fun m => drainI C np ps c n (layS c m S) = -1) m = -1) : fstI (fun m => drainI C np ps c n (layS c m S) = -1) 61 = -1 := by
  have hh := hS.1 c hc
  have h1 : ∀ i, 0 ≤ i → i < m → ¬ drainI C np ps c n (layS c i S) = -1 := by
    rcases fst_cases (P := fun m => drainI C np ps c n (layS c m S) = -1) (n := m) (by omega) with q | q
    · exact q.2
    · omega
  rcases fst_cases (P := fun m => drainI C np ps c n (layS c m S) = -1) (n := 61) (by decide) with q | q
  · exact q.1
  · exfalso
    by_cases z : fstI (fun m => drainI C np ps c n (layS c m S) = -1) 61 < m
    · exact h1 _ q.1 z q.2.2.1
    · have e1 : coreE (layS c (fstI (fun m => drainI C np ps c n (layS c m S) = -1) 61) S) (layS c (60 - ms_h S c) S) := core_setA (putN_more hh (by omega)) _ _
      have e2 := q.2.2.1
      rw [core_drain hn e1] at e2
      exact h1 _ (by omega) hm e2
/-! the reference's copies of the moor in a row of 432 -/
def packS (S : MS) : Int → Int := fun j => if j < 420 then ms_m S j else if j < 427 then ms_h S (j - 420) else if j = 427 then ms_w S else if j = 428 then ms_l S else if j = 429 then ms_a S else if j = 430 then ms_t S else ms_p S
theorem packS_m {S : MS} {j : Int} (h : j < 420) : packS S j = ms_m S j := if_pos h
theorem packS_h {S : MS} {j : Int} (h : 0 ≤ j ∧ j < 7) : packS S (420 + j) = ms_h S j := by
  unfold packS
  rw [if_neg (by omega), if_pos (by omega), show 420 + j - 420 = j by omega]
theorem packS_end {S : MS} {v : Int → Int} (h1 : ∀ j : Int, 0 ≤ j → j < 420 → v j = ms_m S j) (h2 : ∀ j : Int, 0 ≤ j → j < 7 → v (420 + j) = ms_h S j) : ∀ j : Int, 0 ≤ j ∧ j < ((432 : Nat) : Int) → up (up (up (up (up v 427 (ms_w S)) 428 (ms_l S)) 429 (ms_a S)) 430 (ms_t S)) 431 (ms_p S) j = packS S j := by
  intro j hj
  by_cases a : j < 420
  · rw [packS_m a, up_ne _ _ _ _ (by omega), up_ne _ _ _ _ (by omega), up_ne _ _ _ _ (by omega), up_ne _ _ _ _ (by omega), up_ne _ _ _ _ (by omega)]
    exact h1 j hj.1 a
  by_cases b : j < 427
  · have e := packS_h (S := S) (j := j - 420) (by omega)
    rw [show 420 + (j - 420) = j by omega] at e
    rw [e, up_ne _ _ _ _ (by omega), up_ne _ _ _ _ (by omega), up_ne _ _ _ _ (by omega), up_ne _ _ _ _ (by omega), up_ne _ _ _ _ (by omega)]
    have := h2 (j - 420) (by omega) (by omega)
    rwa [show 420 + (j - 420) = j by omega] at this
  · rcases (show j = 427 ∨ j = 428 ∨ j = 429 ∨ j = 430 ∨ j = 431 by omega) with rfl | rfl | rfl | rfl | rfl <;> rfl
def gSS (G : GS) (v : Int) : GS := (g_np G, g_nc G, g_pl G, g_ik G, g_ks G, v, g_fa G, g_iw G, g_nw G, g_ns G, g_ne G, g_h G)
/-- what calls show of the reference's other numbers -/
def gEq (G G' : GS) : Prop := g_np G' = g_np G ∧ g_nc G' = g_nc G ∧ g_pl G' = g_pl G ∧ g_ik G' = g_ik G ∧ g_ks G' = g_ks G
theorem gEq.rf (G : GS) : gEq G G := ⟨rfl, rfl, rfl, rfl, rfl⟩
theorem gEq.ss (G : GS) (v : Int) : gEq G (gSS G v) := ⟨rfl, rfl, rfl, rfl, rfl⟩
theorem gEq.tr {G H K : GS} (h : gEq G H) (g : gEq H K) : gEq G K := ⟨g.1.trans h.1, g.2.1.trans h.2.1, g.2.2.1.trans h.2.2.1, g.2.2.2.1.trans h.2.2.2.1, g.2.2.2.2.trans h.2.2.2.2⟩
-- how many of a row, from either end
theorem cnt_head (f : Int → Int) (w : Int) (n : Nat) : foldI (cntF f w) (n + 1) 0 = (if f 0 = w then 1 else 0) + foldI (cntF (fun d => f (d + 1)) w) n 0 := by
  induction n with
  | zero => show cntF f w 0 0 = _; unfold cntF; split <;> rfl
  | succ n ih =>
    show cntF f w ((n + 1 : Nat) : Int) (foldI (cntF f w) (n + 1) 0) = _ + cntF (fun d => f (d + 1)) w (n : Int) (foldI (cntF (fun d => f (d + 1)) w) n 0)
    rw [ih]
    have e : ((n + 1 : Nat) : Int) = (n : Int) + 1 := by omega
    unfold cntF
    rw [e]
    split <;> omega
theorem cnt_revN (g : Int → Int) (w : Int) (n : Nat) : foldI (cntF (fun d => g ((n : Int) - 1 - d)) w) n 0 = foldI (cntF g w) n 0 := by
  induction n with
  | zero => rfl
  | succ n ih =>
    rw [cnt_head]
    show _ = cntF g w (n : Int) (foldI (cntF g w) n 0)
    have e1 : (fun d : Int => g (((n + 1 : Nat) : Int) - 1 - (d + 1))) = fun d : Int => g ((n : Int) - 1 - d) := by
      funext d; congr 1; omega
    have e2 : ((n + 1 : Nat) : Int) - 1 - 0 = (n : Int) := by omega
    rw [e1, ih, e2]
    unfold cntF
    split <;> omega
theorem cnt_congr {f g : Int → Int} {w n : Int} (hn : 0 ≤ n) (h : ∀ i, 0 ≤ i → i < n → f i = g i) : cntI f w n = cntI g w n := by
  have := fo_ind (f := cntF f w) (s := 0) (n := n) (P := fun k b => b = cntI g w k) hn rfl (fun k b h0 h1 hb => by
    unfold cntI at hb ⊢
    rw [fo_succ _ h0, ← hb]
    unfold cntF
    rw [h k h0 h1])
  exact this
theorem cnt_mark {c w : Int} {S : MS} (h : okS S) (hc : 0 ≤ c ∧ c < 7) : cntI (fun d => markS c d S) w (ms_h S c) = cntI (fun k => ms_m S (60 * c + k)) w (ms_h S c) := by
  have hh := h.1 c hc
  have e1 : cntI (fun d => markS c d S) w (ms_h S c) = cntI (fun d => ms_m S (60 * c + (ms_h S c - 1 - d))) w (ms_h S c) := cnt_congr hh.1 (fun i h0 h1 => by unfold markS; rw [if_pos ⟨h0, h1⟩])
  rw [e1]
  have e2 := cnt_revN (fun k => ms_m S (60 * c + k)) w (ms_h S c).toNat
  rw [show (((ms_h S c).toNat : Nat) : Int) = ms_h S c by omega] at e2
  exact e2
theorem alone_step {h : Int → Int} {c i : Int} (h0 : 0 ≤ i) (hp : 0 ≤ fo (surF h (h c - 1) c) i 0) : 0 ≤ fo (surF h (h c - 1) c) (i + 1) 0 ∧ (fo (surF h (h c - 1) c) (i + 1) 0 = 0 ↔ fo (surF h (h c - 1) c) i 0 = 0 ∧ (i = c ∨ h i < h c)) := by
  rw [fo_succ _ h0]
  unfold surF
  unfold surF at hp
  split <;> omega
theorem sur_pos {S : MS} (h : okS S) {lv c : Int} (hl : lv < 0) (hc : 0 ≤ c ∧ c < 7) : 0 < surI (ms_h S) lv c := by
  have := fo_ind (f := surF (ms_h S) lv c) (s := 0) (n := 7) (P := fun k b => k - 1 ≤ b ∧ (k ≤ c → k ≤ b)) (by decide) ⟨by decide, fun _ => by decide⟩ (fun k b h0 h1 hb => by
    have h2 := h.1 k ⟨h0, h1⟩
    unfold surF
    split <;> omega)
  unfold surI; omega
def gIM (G : GS) (v : Int) : GS := (g_np G, g_nc G, g_pl G, 1, v, v, g_fa G, g_iw G, g_nw G, g_ns G, g_ne G, g_h G)
