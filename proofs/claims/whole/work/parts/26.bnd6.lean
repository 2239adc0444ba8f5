/-! bounds, the reference: rows of fewest and most, parish by parish -/
theorem up_agree2 {z f : Int → Int} {i x : Int} (h : ∀ j : Int, 0 ≤ j → j < i → z j = f j) (e : x = f i) : ∀ j : Int, 0 ≤ j → j < i + 1 → up z i x j = f j := by rw [e]; exact up_agree h
theorem up_rng {g : Int → Int} {lo hi p x : Int} (h : ∀ j, 0 ≤ j ∧ j < 271 → lo ≤ g j ∧ g j ≤ hi) (hx : lo ≤ x ∧ x ≤ hi) : ∀ j, 0 ≤ j ∧ j < 271 → lo ≤ up g p x j ∧ up g p x j ≤ hi := by
  intro j hj
  unfold up
  split
  · exact hx
  · exact h j hj
abbrev cbP (P : PT) (w s : Int) : Prop := w + s ≤ pw P ∧ (w = 0 ∨ 0 < pi P) ∧ (s = 0 ∨ (pi P < 10 ∧ 0 < pz P)) ∧ (w + s = pw P ∨ (pi P < 10 ∧ pz P < 10))
/-- what a way adds to a row, place by place -/
def wayF (e : Int) (f src : Int → Int) (bb s k : Int) (g : Int → Int) : Int → Int := if f k < 268435456 ∧ 0 ≤ k + bb ∧ k + bb ≤ 270 then (if ltE e (src k + s) (g (k + bb)) then up g (k + bb) (src k + s) else g) else g
theorem wayF_o {e : Int} {f src : Int → Int} {bb s k : Int} {g : Int → Int} (h : ¬ (f k < 268435456 ∧ 0 ≤ k + bb ∧ k + bb ≤ 270)) : wayF e f src bb s k g = g := if_neg h
theorem wayF_y {e : Int} {f src : Int → Int} {bb s k : Int} {g : Int → Int} (h : f k < 268435456 ∧ 0 ≤ k + bb ∧ k + bb ≤ 270) (hl : ltE e (src k + s) (g (k + bb))) : wayF e f src bb s k g = up g (k + bb) (src k + s) := by unfold wayF; rw [if_pos h, if_pos hl]
theorem wayF_n {e : Int} {f src : Int → Int} {bb s k : Int} {g : Int → Int} (h : f k < 268435456 ∧ 0 ≤ k + bb ∧ k + bb ≤ 270) (hl : ¬ ltE e (src k + s) (g (k + bb))) : wayF e f src bb s k g = g := by unfold wayF; rw [if_pos h, if_neg hl]
def waysF (e : Int) (f src : Int → Int) (bb s : Int) (g : Int → Int) : Int → Int := fo (wayF e f src bb s) 271 g
theorem ways_r1 {f : Int → Int} {bb s : Int} {g : Int → Int} (hf : ∀ j, 0 ≤ j ∧ j < 271 → 0 ≤ f j ∧ f j ≤ 268435456) (hs : 0 ≤ s ∧ s ≤ 9) (hg : ∀ j, 0 ≤ j ∧ j < 271 → 0 ≤ g j ∧ g j ≤ 268435456) : ∀ j, 0 ≤ j ∧ j < 271 → 0 ≤ waysF 1 f f bb s g j ∧ waysF 1 f f bb s g j ≤ 268435456 := by
  refine fo_ind (P := fun (_ : Int) (z : Int → Int) => ∀ j, 0 ≤ j ∧ j < 271 → 0 ≤ z j ∧ z j ≤ 268435456) (by decide) hg (fun k z h0 h1 hz => ?_)
  have hk := hf k ⟨h0, h1⟩
  unfold wayF
  split
  · split
    · have := hz (k + bb) (by omega)
      exact up_rng hz (by omega)
    · exact hz
  · exact hz
theorem ways_r2 {f mo : Int → Int} {bb s : Int} {g : Int → Int} (hmo : ∀ j, 0 ≤ j ∧ j < 271 → -1 ≤ mo j ∧ mo j ≤ 500) (hs : 0 ≤ s ∧ s ≤ 9) (hg : ∀ j, 0 ≤ j ∧ j < 271 → -1 ≤ g j ∧ g j ≤ 1000) : ∀ j, 0 ≤ j ∧ j < 271 → -1 ≤ waysF (-1) f mo bb s g j ∧ waysF (-1) f mo bb s g j ≤ 1000 := by
  refine fo_ind (P := fun (_ : Int) (z : Int → Int) => ∀ j, 0 ≤ j ∧ j < 271 → -1 ≤ z j ∧ z j ≤ 1000) (by decide) hg (fun k z h0 h1 hz => ?_)
  have hk := hmo k ⟨h0, h1⟩
  unfold wayF
  split
  · split
    · exact up_rng hz (by omega)
    · exact hz
  · exact hz
def WO (f src : Int → Int) (bb s j x : Int) : Prop := ∃ k, (0 ≤ k ∧ k < 271) ∧ f k < 268435456 ∧ j = k + bb ∧ x = src k + s
theorem mt_way {e N : Int} {A : Int → Int → Prop} {f src g : Int → Int} {bb s : Int} (he : e = 1 ∨ e = -1) (h : mtI e N A g) (hs : ∀ k, 0 ≤ k ∧ k < 271 → f k < 268435456 → ltE e (src k + s) N) : mtI e N (fun j x => A j x ∨ WO f src bb s j x) (waysF e f src bb s g) := by
  have hh := fo_ind (f := wayF e f src bb s) (s := g) (n := 271) (P := fun (n : Int) (z : Int → Int) => mtI e N (fun j x => A j x ∨ ∃ k, (0 ≤ k ∧ k < n) ∧ f k < 268435456 ∧ j = k + bb ∧ x = src k + s) z) (by decide) (mt_iff he h (fun j x _ => ⟨Or.inl, fun q => q.elim id (fun ⟨k, hk, _⟩ => by omega)⟩)) (fun k z h0 h1 hz => ?_)
  · exact hh
  · by_cases q : f k < 268435456
    · have a : mtI e N (fun j x => (A j x ∨ ∃ k', (0 ≤ k' ∧ k' < k) ∧ f k' < 268435456 ∧ j = k' + bb ∧ x = src k' + s) ∨ (j = k + bb ∧ x = src k + s)) (wayF e f src bb s k z) := by
        by_cases r : 0 ≤ k + bb ∧ k + bb ≤ 270
        · by_cases l : ltE e (src k + s) (z (k + bb))
          · rw [wayF_y ⟨q, r⟩ l]; exact mt_take hz he l
          · rw [wayF_n ⟨q, r⟩ l]; exact mt_keep hz he (fun _ => l) (hs k ⟨h0, h1⟩ q)
        · rw [wayF_o (fun t => r t.2)]; exact mt_keep hz he (fun t => absurd (show 0 ≤ k + bb ∧ k + bb ≤ 270 by omega) r) (hs k ⟨h0, h1⟩ q)
      refine mt_iff he a (fun j x _ => ⟨fun t => ?_, fun t => ?_⟩)
      · rcases t with (t | ⟨k', hk', t⟩) | t
        · exact Or.inl t
        · exact Or.inr ⟨k', by omega, t⟩
        · exact Or.inr ⟨k, by omega, q, t⟩
      · rcases t with t | ⟨k', hk', t⟩
        · exact Or.inl (Or.inl t)
        · by_cases w : k' = k
          · rw [w] at t; exact Or.inr t.2
          · exact Or.inl (Or.inr ⟨k', by omega, t⟩)
    · rw [wayF_o (fun t => q t.1)]
      refine mt_iff he hz (fun j x _ => ⟨fun t => t.imp id (fun ⟨k', hk', t⟩ => ⟨k', by omega, t⟩), fun t => t.imp id (fun ⟨k', hk', t⟩ => ?_)⟩)
      by_cases w : k' = k
      · rw [w] at t; exact absurd t.1 q
      · exact ⟨k', by omega, t⟩
/-- the ways of one parish, of those so far: by (wishes, sins) -/
def okW (P : PT) (p one lo hi w s : Int) : Prop := cbP P w s ∧ (p = one → lo ≤ s ∧ s ≤ hi)
def NO (f src : Int → Int) (P : PT) (p one lo hi w0 s0 j x : Int) : Prop := ∃ w s, (0 ≤ w ∧ 0 ≤ s ∧ (w < w0 ∨ (w = w0 ∧ s < s0))) ∧ okW P p one lo hi w s ∧ WO f src (giftP P * w - lossP P * s) s j x
theorem NO_0 {f src : Int → Int} {P : PT} {p one lo hi e N : Int} (he : e = 1 ∨ e = -1) : mtI e N (NO f src P p one lo hi 0 0) (fun _ => N) := mt_iff he (mt_none e N) (fun j x _ => ⟨False.elim, fun ⟨w, s, h, _⟩ => by omega⟩)
theorem NO_y {f src g : Int → Int} {P : PT} {p one lo hi e N w s : Int} (he : e = 1 ∨ e = -1) (hw : 0 ≤ w) (hs0 : 0 ≤ s) (h : mtI e N (NO f src P p one lo hi w s) g) (ho : okW P p one lo hi w s) (hs : ∀ k, 0 ≤ k ∧ k < 271 → f k < 268435456 → ltE e (src k + s) N) : mtI e N (NO f src P p one lo hi w (s + 1)) (waysF e f src (giftP P * w - lossP P * s) s g) := by
  refine mt_iff he (mt_way he h hs) (fun j x _ => ⟨fun t => ?_, fun t => ?_⟩)
  · rcases t with ⟨w', s', t1, t2⟩ | t
    · exact ⟨w', s', by omega, t2⟩
    · exact ⟨w, s, by omega, ho, t⟩
  · obtain ⟨w', s', t1, t2, t3⟩ := t
    by_cases q : w' = w ∧ s' = s
    · rw [q.1, q.2] at t3; exact Or.inr t3
    · exact Or.inl ⟨w', s', by omega, t2, t3⟩
theorem NO_n {f src g : Int → Int} {P : PT} {p one lo hi e N w s : Int} (he : e = 1 ∨ e = -1) (h : mtI e N (NO f src P p one lo hi w s) g) (ho : ¬ okW P p one lo hi w s) : mtI e N (NO f src P p one lo hi w (s + 1)) g := by
  refine mt_iff he h (fun j x _ => ⟨fun ⟨w', s', t1, t2⟩ => ⟨w', s', by omega, t2⟩, fun ⟨w', s', t1, t2, t3⟩ => ?_⟩)
  by_cases q : w' = w ∧ s' = s
  · rw [q.1, q.2] at t2; exact absurd t2 ho
  · exact ⟨w', s', by omega, t2, t3⟩
theorem NO_e {f src g : Int → Int} {P : PT} {p one lo hi e N w s : Int} (he : e = 1 ∨ e = -1) (h : mtI e N (NO f src P p one lo hi w s) g) (ho : pw P < s + w) : mtI e N (NO f src P p one lo hi (w + 1) 0) g := by
  refine mt_iff he h (fun j x _ => ⟨fun ⟨w', s', t1, t2⟩ => ⟨w', s', by omega, t2⟩, fun ⟨w', s', t1, t2, t3⟩ => ⟨w', s', ?_, t2, t3⟩⟩)
  have := t2.1
  omega
def nf0 : Int → Int := up (fun _ => 268435456) 54 0
def nm0 : Int → Int := up (fun _ => -1) 54 0
theorem mt_z0 {e N : Int} (he : e = 1 ∨ e = -1) : mtI e N (AC 1 zQ) (up (fun _ => N) 54 0) := by
  intro j hj
  by_cases q : j = 54
  · rw [q, up_same]
    refine Or.inr ⟨⟨0, ⟨by decide, rfl⟩, by omega⟩, fun c hc => ?_⟩
    obtain ⟨s, hs, e2⟩ := hc
    have := hs.2
    omega
  · rw [up_ne _ _ _ _ q]
    refine Or.inl ⟨rfl, fun c hc => ?_⟩
    obtain ⟨s, hs, e2⟩ := hc
    have := hs.1
    omega
/-- what the rows say: either none, or a value within 0..54 -/
theorem lay_c {Q : QT} {f mo : Int → Int} (hb : bQ 54 Q) (h1 : mtI 1 268435456 (AC 1 Q) f) (h2 : mtI (-1) (-1) (AC 1 Q) mo) {k : Int} (hk : 0 ≤ k ∧ k < 271) : (f k = 268435456 ∧ mo k = -1 ∧ ∀ t, ¬ Q (k - 54) t) ∨ ((0 ≤ f k ∧ f k ≤ 54) ∧ (0 ≤ mo k ∧ mo k ≤ 54) ∧ Q (k - 54) (f k) ∧ Q (k - 54) (mo k) ∧ ∀ t, Q (k - 54) t → f k ≤ t ∧ t ≤ mo k) := by
  rcases h1 k hk with ⟨a, b⟩ | ⟨⟨s, hs, e⟩, b⟩
  · rcases h2 k hk with ⟨c, d⟩ | ⟨⟨s, hs, e⟩, d⟩
    · exact Or.inl ⟨a, c, fun t ht => b (1 * t) ⟨t, ht, rfl⟩⟩
    · exact absurd ⟨s, hs, e⟩ (b _)
  · rcases h2 k hk with ⟨c, d⟩ | ⟨⟨s2, hs2, e2⟩, d⟩
    · exact absurd ⟨s, hs, e⟩ (d _)
    · rw [Int.one_mul] at e e2
      have hx := hb _ _ hs
      have hy := hb _ _ hs2
      rw [← e] at hs hx
      rw [← e2] at hs2 hy
      exact Or.inr ⟨by omega, by omega, hs, hs2, fun t ht => by have := b (1 * t) ⟨t, ht, rfl⟩; have := d (1 * t) ⟨t, ht, rfl⟩; omega⟩
theorem lay_s1 {Q : QT} {f mo : Int → Int} (hb : bQ 54 Q) (h1 : mtI 1 268435456 (AC 1 Q) f) (h2 : mtI (-1) (-1) (AC 1 Q) mo) {s : Int} (hs : 0 ≤ s ∧ s ≤ 9) : ∀ k, 0 ≤ k ∧ k < 271 → f k < 268435456 → ltE 1 (f k + s) 268435456 := by
  intro k hk hf
  have := lay_c hb h1 h2 hk
  omega
theorem lay_s2 {Q : QT} {f mo : Int → Int} (hb : bQ 54 Q) (h1 : mtI 1 268435456 (AC 1 Q) f) (h2 : mtI (-1) (-1) (AC 1 Q) mo) {s : Int} (hs : 0 ≤ s ∧ s ≤ 9) : ∀ k, 0 ≤ k ∧ k < 271 → f k < 268435456 → ltE (-1) (mo k + s) (-1) := by
  intro k hk hf
  have := lay_c hb h1 h2 hk
  omega
theorem lay_r1 {Q : QT} {f mo : Int → Int} (hb : bQ 54 Q) (h1 : mtI 1 268435456 (AC 1 Q) f) (h2 : mtI (-1) (-1) (AC 1 Q) mo) : ∀ k, 0 ≤ k ∧ k < 271 → 0 ≤ f k ∧ f k ≤ 268435456 := by
  intro k hk
  have := lay_c hb h1 h2 hk
  omega
theorem lay_r2 {Q : QT} {f mo : Int → Int} (hb : bQ 54 Q) (h1 : mtI 1 268435456 (AC 1 Q) f) (h2 : mtI (-1) (-1) (AC 1 Q) mo) : ∀ k, 0 ≤ k ∧ k < 271 → -1 ≤ mo k ∧ mo k ≤ 500 := by
  intro k hk
  have := lay_c hb h1 h2 hk
  omega
/-- a parish's ways, all of them -/
theorem mt_lay {e N : Int} {Q : QT} {f src g : Int → Int} {P : PT} {p one lo hi : Int} (he : e = 1 ∨ e = -1) (hP : okP P) (hb : bQ 45 Q) (hf : ∀ k, 0 ≤ k ∧ k < 271 → (f k < 268435456 ↔ ∃ t, Q (k - 54) t)) (h : mtI e N (AC 1 Q) src) (hn : mtI e N (NO f src P p one lo hi (pw P + 1) 0) g) : mtI e N (AC 1 (smQ Q (if p = one then DL P lo hi else DJ P 1 (pw P)))) g := by
  have hD : ∀ n t, (if p = one then DL P lo hi else DJ P 1 (pw P)) n t ↔ DJ P 1 (pw P) n t ∧ (p = one → lo ≤ t ∧ t ≤ hi) := by
    intro n t
    by_cases q : p = one
    · rw [if_pos q]; exact ⟨fun z => ⟨z.1, fun _ => z.2⟩, fun z => ⟨z.1, z.2 q⟩⟩
    · rw [if_neg q]; exact ⟨fun z => ⟨z, fun r => absurd r q⟩, fun z => z.1⟩
  refine mt_of hn (fun j x hj hx => ?_) (fun j x hj hx => ?_)
  · obtain ⟨w, s, hws, ho, k, hk, hfk, ej, ex⟩ := hx
    obtain ⟨t0, ht0⟩ := (hf k hk).mp hfk
    rcases h k hk with ⟨_, z⟩ | ⟨⟨t, ht, et⟩, _⟩
    · exact absurd ⟨t0, ht0, rfl⟩ (z (1 * t0))
    · refine ⟨t + s, ⟨k - 54, t, ht, (hD _ _).mpr ⟨⟨w, ?_, ?_⟩, ?_⟩⟩, by omega⟩
      · have := ho.1
        unfold canJ
        omega
      · rw [show t + s - t = s by omega]; omega
      · rw [show t + s - t = s by omega]; exact ho.2
  · obtain ⟨s, ⟨a, b, hq, hd⟩, ex⟩ := hx
    obtain ⟨⟨w, hc, ew⟩, hone⟩ := (hD _ _).mp hd
    have hab := hb _ _ hq
    have hq' : Q (a + 54 - 54) b := by rw [show a + 54 - 54 = a by omega]; exact hq
    have hk : 0 ≤ a + 54 ∧ a + 54 < 271 := by omega
    have hfk := (hf (a + 54) hk).mpr ⟨b, hq'⟩
    refine ⟨src (a + 54) + (s - b), ⟨w, s - b, ?_, ⟨?_, hone⟩, a + 54, hk, hfk, by omega, rfl⟩, ?_⟩
    · have := hc.1; omega
    · unfold canJ at hc
      show w + (s - b) ≤ pw P ∧ (w = 0 ∨ 0 < pi P) ∧ (s - b = 0 ∨ (pi P < 10 ∧ 0 < pz P)) ∧ (w + (s - b) = pw P ∨ (pi P < 10 ∧ pz P < 10))
      omega
    · rcases h _ hk with ⟨_, z⟩ | ⟨_, z⟩
      · exact absurd ⟨b, hq', rfl⟩ (z (1 * b))
      · have := z (1 * b) ⟨b, hq', rfl⟩
        omega
theorem lay_f {Q : QT} {f mo : Int → Int} (hb : bQ 54 Q) (h1 : mtI 1 268435456 (AC 1 Q) f) (h2 : mtI (-1) (-1) (AC 1 Q) mo) : ∀ k, 0 ≤ k ∧ k < 271 → (f k < 268435456 ↔ ∃ t, Q (k - 54) t) := by
  intro k hk
  rcases lay_c hb h1 h2 hk with ⟨a, _, b⟩ | ⟨a, _, b, _⟩
  · exact ⟨fun z => by omega, fun ⟨t, ht⟩ => absurd ht (b t)⟩
  · exact ⟨fun _ => ⟨_, b⟩, fun _ => by omega⟩
/-- the answers from the rows -/
theorem lay_can {ps : Int → PT} {np one lo hi n : Int} {f mo : Int → Int} (hb : bQ 54 (AQ ps one lo hi np)) (h1 : mtI 1 268435456 (AC 1 (AQ ps one lo hi np)) f) (h2 : mtI (-1) (-1) (AC 1 (AQ ps one lo hi np)) mo) (hn : -54 ≤ n ∧ n ≤ 216) : canI ps np n one lo hi = if f (n + 54) < 268435456 then 1 else 0 := by
  rcases lay_c hb h1 h2 (k := n + 54) (by omega) with ⟨a, _, b⟩ | ⟨a, _, b, _⟩
  · rw [if_neg (by omega)]
    exact canI_0 (fun ⟨t, ht⟩ => b t (by rw [show n + 54 - 54 = n by omega]; exact ht))
  · rw [if_pos (by omega)]
    rw [show n + 54 - 54 = n by omega] at b
    exact canI_1 ⟨_, b⟩
theorem lay_e0 {ps : Int → PT} {np n : Int} {f mo : Int → Int} (hb : bQ 54 (AQ ps (-1) 0 0 np)) (h1 : mtI 1 268435456 (AC 1 (AQ ps (-1) 0 0 np)) f) (h2 : mtI (-1) (-1) (AC 1 (AQ ps (-1) 0 0 np)) mo) (hn : -54 ≤ n ∧ n ≤ 216) (hnp : 0 ≤ np) (hc : canI ps np n (-1) 0 0 = 0) (e : Int) : endI e (BQ ps (-1) np n) = -1 := by
  refine endI_of (Or.inl ⟨rfl, fun t ht => ?_⟩)
  rw [← AQ_all (lo := 0) (hi := 0) hnp (Or.inl (by decide))] at ht
  have := canI_1 ⟨t, ht⟩
  omega
theorem lay_ef {ps : Int → PT} {np n : Int} {f mo : Int → Int} (hb : bQ 54 (AQ ps (-1) 0 0 np)) (h1 : mtI 1 268435456 (AC 1 (AQ ps (-1) 0 0 np)) f) (h2 : mtI (-1) (-1) (AC 1 (AQ ps (-1) 0 0 np)) mo) (hn : -54 ≤ n ∧ n ≤ 216) (hnp : 0 ≤ np) (hc : ¬ canI ps np n (-1) 0 0 = 0) : endI 1 (BQ ps (-1) np n) = f (n + 54) ∧ endI (-1) (BQ ps (-1) np n) = mo (n + 54) := by
  have hlc := lay_can hb h1 h2 hn
  rw [AQ_all (lo := 0) (hi := 0) hnp (Or.inl (by decide))] at h1 h2 hb
  rcases lay_c hb h1 h2 (k := n + 54) (by omega) with ⟨a, _, b⟩ | ⟨a, a2, b, c, d⟩
  · rw [if_neg (by omega)] at hlc; exact absurd hlc hc
  · rw [show n + 54 - 54 = n by omega] at b c d
    exact ⟨endI_of (Or.inr ⟨b, fun t ht => by have := d t ht; omega⟩), endI_of (Or.inr ⟨c, fun t ht => by have := d t ht; omega⟩)⟩
noncomputable def bitF (ps : Int → PT) (np n w p b : Int) : Int := if w = 2 then mustF ps np n p b else mayF ps np n p b
theorem bitF_2 {ps : Int → PT} {np n w : Int} (h : w = 2) : bitF ps np n w = mustF ps np n := by funext p b; exact if_pos h
theorem bitF_3 {ps : Int → PT} {np n w : Int} (h : ¬ w = 2) : bitF ps np n w = mayF ps np n := by funext p b; exact if_neg h
