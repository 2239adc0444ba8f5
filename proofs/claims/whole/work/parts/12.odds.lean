/-! odds: powers, choices, Euclid -/
def powI (b n : Int) : Int := fo (fun _ s => s * b) n 1
theorem powI_succ {b n : Int} (h : 0 ≤ n) : powI b (n + 1) = powI b n * b := fo_succ _ h 1
def chF (n i s : Int) : Int := s * (n - i) / (i + 1)
def choI (n k : Int) : Int := fo (chF n) k 1
theorem choI_succ {n k : Int} (h : 0 ≤ k) : choI n (k + 1) = choI n k * (n - k) / (k + 1) := fo_succ _ h 1
theorem cho_tab : ∀ n : Fin 10, ∀ i : Fin 11, 0 ≤ choI ((n : Nat) : Int) ((i : Nat) : Int) ∧ choI ((n : Nat) : Int) ((i : Nat) : Int) ≤ 1000000 := by decide +kernel
theorem cho_in {n i : Int} (hn : 0 ≤ n ∧ n ≤ 9) (hi : 0 ≤ i ∧ i ≤ 10) : 0 ≤ choI n i ∧ choI n i ≤ 1000000 := by
  have := cho_tab ⟨n.toNat, by omega⟩ ⟨i.toNat, by omega⟩
  rwa [show (((⟨n.toNat, by omega⟩ : Fin 10) : Nat) : Int) = n by show ((n.toNat : Nat) : Int) = n; omega, show (((⟨i.toNat, by omega⟩ : Fin 11) : Nat) : Int) = i by show ((i.toNat : Nat) : Int) = i; omega] at this
theorem cho_rng {n i : Int} (hn : 0 ≤ n ∧ n ≤ 9) (hi : 0 ≤ i ∧ i ≤ 9) (hd : 0 ≤ n - i) : 0 ≤ choI n i * (n - i) ∧ choI n i * (n - i) ≤ 9223372036854775807 ∧ 0 < i + 1 ∧ i + 1 ≤ 9223372036854775807 := by
  have h := cho_in hn (i := i) (by omega)
  have a : 0 ≤ choI n i * (n - i) := Int.mul_nonneg h.1 hd
  have b : choI n i * (n - i) ≤ 1000000 * 9 := Int.mul_le_mul h.2 (by omega) hd (by decide)
  omega
theorem pow_tab : ∀ i : Fin 10, powI 100 ((i : Nat) : Int) ≤ 1000000000000000000 := by decide +kernel
theorem pow_in {b n : Int} (hb : 0 ≤ b ∧ b ≤ 100) (hn : 0 ≤ n ∧ n ≤ 9) : 0 ≤ powI b n ∧ powI b n ≤ 1000000000000000000 := by
  have h := fo_ind (f := fun _ s => s * b) (s := 1) (n := n) (P := fun k s => 0 ≤ s ∧ s ≤ powI 100 k) hn.1 ⟨by decide, Int.le_refl _⟩ (fun k s h0 h1 hs => ⟨Int.mul_nonneg hs.1 hb.1, by rw [powI_succ h0]; exact Int.mul_le_mul hs.2 hb.2 hb.1 (Int.le_trans hs.1 hs.2)⟩)
  have t := pow_tab ⟨n.toNat, by omega⟩
  rw [show (((⟨n.toNat, by omega⟩ : Fin 10) : Nat) : Int) = n by show ((n.toNat : Nat) : Int) = n; omega] at t
  exact ⟨h.1, Int.le_trans h.2 t⟩
def oddsI (P : PT) (w s : Int) : Int := choI (pw P) w * choI (pw P - w) s * powI (10 * pi P) w * powI ((10 - pi P) * pz P) s * powI ((10 - pi P) * (10 - pz P)) (pw P - w - s)
def innF (P : PT) (net w least j t : Int) : Int := t + (if giftP P * w - lossP P * (least + j) = net then oddsI P w (least + j) else 0)
def netI (P : PT) (net least : Int) : Int := fo (fun w t => fo (innF P net w least) (pw P - w - least + 1) t) (pw P + 1) 0
/-- a long's whole number -/
def nrm (e : Int) : Int := (Int64.ofInt e).toInt
theorem nrm_in (e : Int) : -9223372036854775808 ≤ nrm e ∧ nrm e ≤ 9223372036854775807 := by
  have h1 := Int64.le_toInt (Int64.ofInt e)
  have h2 := Int64.toInt_lt (Int64.ofInt e)
  unfold nrm
  omega
theorem vL_nrm (e : Int) : vL e = vL (nrm e) := by
  unfold vL nrm
  rw [Int64.ofInt_toInt]
theorem nrm_of {e : Int} (h : -9223372036854775808 ≤ e ∧ e ≤ 9223372036854775807) : nrm e = e := Int64.toInt_ofInt_of_le (by omega) (by omega)
/-- Euclid, by steps -/
def euI : Nat → Int → Int → Int
  | 0, a, _ => a
  | k + 1, a, b => if b = 0 then a else euI k b (a.tmod b)
def rch : Nat → Int → Int → Prop
  | 0, _, b => b = 0
  | k + 1, a, b => b = 0 ∨ rch k b (a.tmod b)
theorem eu_zero (k : Nat) (a : Int) : euI k a 0 = a := by cases k <;> simp [euI]
theorem rch_up {k : Nat} : ∀ {a b : Int}, rch k a b → rch (k + 1) a b := by
  induction k with
  | zero => intro a b h; exact Or.inl h
  | succ k ih =>
    intro a b h
    rcases h with h | h
    · exact Or.inl h
    · exact Or.inr (ih h)
theorem tmod_lt {a b : Int} (h : b ≠ 0) : (a.tmod b).natAbs < b.natAbs := by
  rw [Int.natAbs_tmod]
  exact Nat.mod_lt _ (by omega)
theorem tmod_half {b r : Int} (hr : r ≠ 0) (hlt : r.natAbs < b.natAbs) : 2 * (b.tmod r).natAbs < b.natAbs := by
  rw [Int.natAbs_tmod]
  have h1 : b.natAbs % r.natAbs < r.natAbs := Nat.mod_lt _ (by omega)
  have h2 := Nat.div_add_mod b.natAbs r.natAbs
  have h3 : 1 ≤ b.natAbs / r.natAbs := (Nat.one_le_div_iff (by omega)).mpr (by omega)
  have h4 : r.natAbs * 1 ≤ r.natAbs * (b.natAbs / r.natAbs) := Nat.mul_le_mul_left _ h3
  omega
theorem rch_of (m : Nat) : ∀ {a b : Int}, b.natAbs < 2 ^ m → rch (2 * m) a b := by
  induction m with
  | zero => intro a b h; show b = 0; omega
  | succ m ih =>
    intro a b h
    rw [show 2 * (m + 1) = 2 * m + 1 + 1 by omega]
    by_cases hb : b = 0
    · exact Or.inl hb
    · refine Or.inr ?_
      by_cases hr : a.tmod b = 0
      · exact Or.inl hr
      · refine Or.inr (ih ?_)
        have := tmod_half hr (tmod_lt (a := a) hb)
        rw [Nat.pow_succ] at h
        omega
theorem rch_mono {k m : Nat} (h : k ≤ m) {a b : Int} (hr : rch k a b) : rch m a b := by
  induction m with
  | zero => rw [show k = 0 by omega] at hr; exact hr
  | succ m ih =>
    by_cases e : k = m + 1
    · rw [← e]; exact hr
    · exact rch_up (ih (by omega))
theorem rch_200 {a b : Int} (hb : -9223372036854775808 ≤ b ∧ b ≤ 9223372036854775807) : rch 200 a b := rch_mono (k := 2 * 64) (by decide) (rch_of 64 (by omega))
def lowI (a b part : Int) : Int := if part = 0 then a.tdiv (euI 200 a b) else b.tdiv (euI 200 a b)
theorem tmod_rng {a b : Int} (ha : -9223372036854775808 ≤ a ∧ a ≤ 9223372036854775807) : -9223372036854775808 ≤ a.tmod b ∧ a.tmod b ≤ 9223372036854775807 := by
  have h := Int.natAbs_tmod a b
  have h2 : a.natAbs % b.natAbs ≤ a.natAbs := Nat.mod_le _ _
  have h3 : 0 ≤ a → 0 ≤ a.tmod b := fun z => Int.tmod_nonneg b z
  have h4 : a ≤ 0 → a.tmod b ≤ 0 := fun z => by
    have := Int.tmod_nonneg b (show 0 ≤ -a by omega)
    rw [Int.neg_tmod] at this
    omega
  omega
