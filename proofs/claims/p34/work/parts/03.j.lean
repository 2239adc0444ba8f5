/-! the page and its customs -/
theorem land255 (x : Int) : landI x 255 = x % 256 := by
  unfold landI
  have h1 : Int64.ofInt x &&& Int64.ofInt 255 = Int64.ofInt (x % 256) := by
    apply Int64.toBitVec.inj
    rw [Int64.toBitVec_and]
    show BitVec.ofInt 64 x &&& BitVec.ofInt 64 255 = BitVec.ofInt 64 (x % 256)
    apply BitVec.eq_of_toNat_eq
    rw [BitVec.toNat_and, BitVec.toNat_ofInt, BitVec.toNat_ofInt, BitVec.toNat_ofInt]
    rw [show ((255 : Int) % ((2 ^ 64 : Nat) : Int)).toNat = 2 ^ 8 - 1 from rfl, Nat.and_two_pow_sub_one_eq_mod]
    omega
  rw [h1, Int64.toInt_ofInt_of_le (by omega) (by omega)]
/-- the i-th byte of a long -/
def codeW (w i : Int) : Int := if i = 0 then w % 256 else if i = 1 then w / 256 % 256 else if i = 2 then w / 65536 % 256 else if i = 3 then w / 16777216 % 256 else if i = 4 then w / 4294967296 % 256 else if i = 5 then w / 1099511627776 % 256 else if i = 6 then w / 281474976710656 % 256 else w / 72057594037927936 % 256
theorem codeW_in (w i : Int) : 0 ≤ codeW w i ∧ codeW w i < 256 := by
  unfold codeW
  split <;> (try split) <;> (try split) <;> (try split) <;> (try split) <;> (try split) <;> (try split) <;> omega
theorem lushr_nat (w : Int) (s : Nat) (hs : s < 64) : lushrI w (s : Int) % 256 = ((w % 18446744073709551616) / (2 ^ s : Nat)) % 256 := by
  unfold lushrI
  have e1 : (Int32.ofInt (s : Int)).toInt64.toUInt64 &&& Int64.toUInt64 63 = UInt64.ofNat s := by
    rcases (show s = 0 ∨ s = 1 ∨ s = 2 ∨ s = 3 ∨ s = 4 ∨ s = 5 ∨ s = 6 ∨ s = 7 ∨ 8 ≤ s by omega) with _ | _ | _ | _ | _ | _ | _ | _ | _ <;> exact (show ∀ s : Fin 64, (Int32.ofInt ((s : Nat) : Int)).toInt64.toUInt64 &&& Int64.toUInt64 63 = UInt64.ofNat s by decide +kernel) ⟨s, hs⟩
  rw [e1]
  show ((Int64.ofInt w).toBitVec >>> (UInt64.ofNat s % 64).toBitVec).toInt % 256 = _
  have e2 : ((UInt64.ofNat s % 64).toBitVec).toNat = s := (show ∀ s : Fin 64, ((UInt64.ofNat (s : Nat) % 64).toBitVec).toNat = s by decide +kernel) ⟨s, hs⟩
  rw [BitVec.ushiftRight_eq', BitVec.toInt_eq_toNat_bmod, BitVec.toNat_ushiftRight, e2]
  show (((BitVec.ofInt 64 w).toNat >>> s : Nat) : Int).bmod _ % 256 = _
  rw [BitVec.toNat_ofInt, Nat.shiftRight_eq_div_pow]
  have e3 : ((((w % ((2 ^ 64 : Nat) : Int)).toNat / 2 ^ s : Nat)) : Int) = (w % 18446744073709551616) / (2 ^ s : Nat) := by
    rw [Int.natCast_ediv, Int.toNat_of_nonneg (by omega)]
    rfl
  rw [e3]
  generalize (w % 18446744073709551616) / ((2 ^ s : Nat) : Int) = z
  rw [← Int.emod_emod_of_dvd (Int.bmod z (2 ^ 64)) (show (256 : Int) ∣ ((2 ^ 64 : Nat) : Int) by decide), Int.bmod_emod, Int.emod_emod_of_dvd z (show (256 : Int) ∣ ((2 ^ 64 : Nat) : Int) by decide)]
theorem lshr_nat (w : Int) (s : Nat) (hs : s < 64) (hw : -9223372036854775808 ≤ w ∧ w ≤ 9223372036854775807) : lshrI w (s : Int) = w / (2 ^ s : Nat) := by
  unfold lshrI
  have e1 : (Int32.ofInt (s : Int)).toInt64 &&& 63 = Int64.ofNat s := (show ∀ s : Fin 64, (Int32.ofInt ((s : Nat) : Int)).toInt64 &&& 63 = Int64.ofNat s by decide +kernel) ⟨s, hs⟩
  rw [e1]
  show (BitVec.sshiftRight' (BitVec.ofInt 64 w) ((Int64.ofNat s).toBitVec.smod 64)).toInt = _
  have e2 : ((Int64.ofNat s).toBitVec.smod 64).toNat = s := (show ∀ s : Fin 64, ((Int64.ofNat (s : Nat)).toBitVec.smod 64).toNat = s by decide +kernel) ⟨s, hs⟩
  rw [BitVec.sshiftRight', BitVec.toInt_sshiftRight, Int.shiftRight_eq_div_pow, BitVec.toInt_ofInt, e2, Int.bmod_eq_of_le (by omega) (by omega)]
theorem cW_u {w i : Int} (h : 0 ≤ i ∧ i < 8) : landI (lushrI w (8 * i)) 255 = codeW w i := by
  rw [land255]
  have e := lushr_nat w (8 * i).toNat (by omega)
  rw [show (((8 * i).toNat : Nat) : Int) = 8 * i by omega] at e
  rw [e]
  unfold codeW
  rcases (show i = 0 ∨ i = 1 ∨ i = 2 ∨ i = 3 ∨ i = 4 ∨ i = 5 ∨ i = 6 ∨ i = 7 by omega) with rfl | rfl | rfl | rfl | rfl | rfl | rfl | rfl <;> simp <;> omega
theorem cW_s {w i : Int} (h : 0 ≤ i ∧ i < 8) (hw : -9223372036854775808 ≤ w ∧ w ≤ 9223372036854775807) : landI (lshrI w (8 * i)) 255 = codeW w i := by
  rw [land255]
  have e := lshr_nat w (8 * i).toNat (by omega) hw
  rw [show (((8 * i).toNat : Nat) : Int) = 8 * i by omega] at e
  rw [e]
  unfold codeW
  rcases (show i = 0 ∨ i = 1 ∨ i = 2 ∨ i = 3 ∨ i = 4 ∨ i = 5 ∨ i = 6 ∨ i = 7 by omega) with rfl | rfl | rfl | rfl | rfl | rfl | rfl | rfl <;> simp
theorem i2b_small {x : Int} (h : x % 256 ≤ 127) : i2bI x = x % 256 := by
  unfold i2bI
  have e : (Int32.ofInt x).toInt8.toInt32.toInt = (x.bmod 256) := by
    rw [Int8.toInt_toInt32, Int32.toInt_toInt8, Int32.toInt_ofInt]
    exact Int.bmod_bmod_of_dvd (by decide)
  rw [e, Int.bmod_def]
  omega
theorem cW_b {w i : Int} (h : 0 ≤ i ∧ i < 8) (hw : -9223372036854775808 ≤ w ∧ w ≤ 9223372036854775807) (hc : codeW w i ≤ 126) : i2bI (lshrI w (8 * i)) = codeW w i := by
  have e := cW_s h hw
  rw [land255] at e
  rw [i2b_small (by omega), e]
theorem nar_small {x : Int} (h : 0 ≤ x ∧ x ≤ 127) : vp_nar .byte (Int32.ofInt x) = Int32.ofInt x := by
  show (Int32.ofInt x).toInt8.toInt32 = _
  apply Int32.toInt_inj.mp
  rw [Int8.toInt_toInt32, Int32.toInt_toInt8, Int32.toInt_ofInt_of_le (by omega) (by omega), Int.bmod_def]
  omega
theorem fo_absorb {σ : Type} {f : Int → σ → σ} {b : σ} (hf : ∀ k, f k b = b) {i n : Int} (h0 : 0 ≤ i) (hn : i ≤ n) {s : σ} (h : fo f i s = b) : fo f n s = b := by
  have go : ∀ m : Nat, fo f (i + m) s = b := by
    intro m
    induction m with
    | zero => simpa using h
    | succ m ih => rw [show i + ((m + 1 : Nat) : Int) = (i + m) + 1 by omega, fo_succ _ (by omega), ih, hf]
  have := go (n - i).toNat
  rwa [show i + (((n - i).toNat : Nat) : Int) = n by omega] at this
/-- how many letters a long tells; -1: it may not be -/
def lnF (w i m : Int) : Int := if m = -1 then -1 else if 126 < codeW w i ∨ (codeW w i ≠ 0 ∧ m < i) then -1 else if codeW w i = 0 then m else m + 1
def lnI (w : Int) : Int := fo (lnF w) 8 0
theorem ln_bad {w i m : Int} (h0 : 0 ≤ i ∧ i < 8) (h : fo (lnF w) i 0 = m) (hb : 126 < codeW w i ∨ (codeW w i ≠ 0 ∧ m < i)) : lnI w = -1 := by
  refine fo_absorb (fun k => by unfold lnF; rw [if_pos rfl]) (i := i + 1) (by omega) (by omega) ?_
  rw [fo_succ _ h0.1, h]
  unfold lnF
  split <;> first | rfl | rw [if_pos hb]
theorem ln_step {w i m : Int} (h0 : 0 ≤ i) (hm : ¬ m = -1) (h : fo (lnF w) i 0 = m) (hb : ¬ (126 < codeW w i ∨ (codeW w i ≠ 0 ∧ m < i))) : fo (lnF w) (i + 1) 0 = if codeW w i = 0 then m else m + 1 := by
  rw [fo_succ _ h0, h]
  unfold lnF
  rw [if_neg hm, if_neg hb]
theorem ln_in {w n : Int} (hn : 0 ≤ n) : fo (lnF w) n 0 = -1 ∨ (0 ≤ fo (lnF w) n 0 ∧ fo (lnF w) n 0 ≤ n ∧ ∀ j, 0 ≤ j → j < fo (lnF w) n 0 → 1 ≤ codeW w j ∧ codeW w j ≤ 126) := by
  refine fo_ind (f := lnF w) (s := 0) (P := fun k m => m = -1 ∨ (0 ≤ m ∧ m ≤ k ∧ ∀ j, 0 ≤ j → j < m → 1 ≤ codeW w j ∧ codeW w j ≤ 126)) hn (Or.inr ⟨by decide, by decide, fun j a b => by omega⟩) (fun k m h0 h1 h => ?_)
  have hc := codeW_in w k
  unfold lnF
  rcases h with h | ⟨a, b, c⟩
  · rw [if_pos h]; exact Or.inl rfl
  · rw [if_neg (by omega)]
    split
    · exact Or.inl rfl
    · next q =>
      split
      · exact Or.inr ⟨a, by omega, c⟩
      · next z =>
        refine Or.inr ⟨by omega, by omega, fun j hj hk => ?_⟩
        by_cases e : j = m
        · have : m = k := by omega
          rw [e, this]
          omega
        · exact c j hj (by omega)
def okPg (pg : Int → Int) (pl : Int) : Prop := (0 ≤ pl ∧ pl ≤ 16) ∧ ∀ i, 0 ≤ i → i < pl → 1 ≤ pg i ∧ pg i ≤ 126
def wrF (w pl i : Int) (g : Int → Int) : Int → Int := up g (pl + i) (codeW w i)
def wrI (w pl n : Int) (g : Int → Int) : Int → Int := fo (wrF w pl) n g
theorem wrI_succ {w pl n : Int} {g : Int → Int} (h : 0 ≤ n) : wrI w pl (n + 1) g = up (wrI w pl n g) (pl + n) (codeW w n) := fo_succ _ h g
def rLetters (w pl : Int) : Int := if lnI w = -1 then -102 else if 16 < pl + lnI w then -104 else pl + lnI w
def sLetG (w pl : Int) (pg : Int → Int) : Int → Int := if lnI w = -1 then pg else if 16 < pl + lnI w then pg else wrI w pl (lnI w) pg
def sLetN (w pl : Int) : Int := if lnI w = -1 then pl else if 16 < pl + lnI w then pl else pl + lnI w
theorem okPg_let {w pl : Int} {pg : Int → Int} (h : okPg pg pl) : okPg (sLetG w pl pg) (sLetN w pl) := by
  unfold sLetG sLetN
  split
  · exact h
  split
  · exact h
  · next a b =>
    rcases ln_in (w := w) (n := 8) (by decide) with q | ⟨q1, q2, q3⟩
    · exact absurd q a
    · have hw : ∀ n : Int, 0 ≤ n → n ≤ lnI w → ∀ i, 0 ≤ i → i < pl + n → 1 ≤ wrI w pl n pg i ∧ wrI w pl n pg i ≤ 126 := by
        intro n hn hl
        refine fo_ind (f := wrF w pl) (s := pg) (n := n) (P := fun k g => ∀ i, 0 ≤ i → i < pl + k → 1 ≤ g i ∧ g i ≤ 126) hn (fun i a b => h.2 i a (by omega)) (fun k g h0 h1 hk i a b => ?_)
        unfold wrF up
        split
        · exact q3 k h0 (by show k < lnI w; omega)
        · exact hk i a (by omega)
      exact ⟨⟨by have := h.1; show 0 ≤ pl + lnI w; unfold lnI; omega, by omega⟩, hw (lnI w) q1 (Int.le_refl _)⟩
def ruleI (c : Int) : Int := if 48 ≤ c ∧ c ≤ 54 then c - 48 else if c = 109 then 7 else if c = 108 then 8 else if c = 112 then 9 else if c = 110 then 10 else -1
theorem ruleI_in (c : Int) : -1 ≤ ruleI c ∧ ruleI c ≤ 10 := by
  unfold ruleI
  split
  · omega
  split
  · omega
  split
  · omega
  split
  · omega
  split <;> omega
abbrev fitP (i c : Int) : Prop := (i = 0 ∧ c = 119) ∨ (i = 1 ∧ ruleI c ≠ -1) ∨ (i = 2 ∧ c = 115) ∨ (i = 3 ∧ ruleI c ≠ -1) ∨ (i = 4 ∧ c = 102) ∨ (i = 5 ∧ 49 ≤ c ∧ c ≤ 57)
def badI (pg : Int → Int) (pl : Int) : Int := fstI (fun i => ¬ fitP i (pg i)) pl
def faultI (pg : Int → Int) (pl : Int) : Int := if badI pg pl = -1 then pl else badI pg pl
abbrev cusP (pg : Int → Int) (pl : Int) : Prop := (pl = 4 ∨ pl = 6) ∧ faultI pg pl = pl
def cusI (pg : Int → Int) (pl : Int) : CT := (ruleI (pg 1), ruleI (pg 3), if pl = 6 then pg 5 - 48 else 0)
theorem bad_no {pg : Int → Int} {pl : Int} (h : okPg pg pl) (hc : cusP pg pl) : ∀ i, 0 ≤ i → i < pl → fitP i (pg i) := by
  rcases fst_cases (P := fun i => ¬ fitP i (pg i)) (n := pl) h.1.1 with q | q
  · exact fun i a b => Classical.byContradiction (fun z => q.2 i a b z)
  · exfalso
    have h1 := hc.2
    unfold faultI badI at h1
    rw [if_neg (by omega)] at h1
    omega
theorem okC_cus {pg : Int → Int} {pl : Int} (h : okPg pg pl) (hc : cusP pg pl) : okC (cusI pg pl) := by
  have hf := bad_no h hc
  have hl : 4 ≤ pl := by rcases hc.1 with e | e <;> omega
  have f1 := hf 1 (by decide) (by omega)
  have f3 := hf 3 (by decide) (by omega)
  have r1 := ruleI_in (pg 1)
  have r3 := ruleI_in (pg 3)
  refine ⟨⟨?_, r1.2⟩, ⟨?_, r3.2⟩, ?_⟩
  · show 0 ≤ ruleI (pg 1); unfold fitP at f1; omega
  · show 0 ≤ ruleI (pg 3); unfold fitP at f3; omega
  · show 0 ≤ (if pl = 6 then pg 5 - 48 else 0) ∧ (if pl = 6 then pg 5 - 48 else 0) ≤ 9
    split
    · next e =>
      have f5 := hf 5 (by decide) (by omega)
      unfold fitP at f5
      omega
    · decide
def rCustom (pg : Int → Int) (pl nc : Int) : Int := if ¬ cusP pg pl then -103 else if 4 ≤ nc then -104 else nc
abbrev cusOk (pg : Int → Int) (pl nc : Int) : Prop := cusP pg pl ∧ nc < 4
theorem orow_push {n : Int} {ad : Int → Nat} {q : Nat} (h : 0 ≤ n) : up (orow n ad) n (some q) = orow (n + 1) (up ad n q) := by
  funext i
  show (if i = n then some q else orow n ad i) = orow (n + 1) (up ad n q) i
  by_cases e : i = n
  · rw [if_pos e, orow_in (by omega), e, up_same]
  · rw [if_neg e]
    by_cases a : 0 ≤ i ∧ i < n
    · rw [orow_in a, orow_in (by omega), up_ne _ _ _ _ e]
    · rw [orow_out a, orow_out (by omega)]
def rCusTold (cu w nc : Int) (cs : Int → CT) : Int := if cu < 0 ∨ nc ≤ cu then -101 else if w < 0 ∨ 2 < w then -102 else toldC (cs cu) w
def gNX (st c : Int) (G : GS) : GS := (g_np G, g_nc G, g_pl G, g_ik G, g_ks G, g_ss G, g_fa G, g_iw G, if st = 1 then ruleI c else g_nw G, if st = 3 then ruleI c else g_ns G, if st = 5 then c - 48 else g_ne G, g_h G)
theorem gEq.nx (st c : Int) (G : GS) : gEq G (gNX st c G) := ⟨rfl, rfl, rfl, rfl, rfl⟩
theorem faultI_in {pg : Int → Int} {pl : Int} (h : okPg pg pl) : 0 ≤ faultI pg pl ∧ faultI pg pl ≤ pl := by
  have hp := h.1
  unfold faultI badI
  rcases fst_cases (P := fun i => ¬ fitP i (pg i)) (n := pl) h.1.1 with q | q
  · rw [if_pos q.1]; omega
  · rw [if_neg (by omega)]; omega
theorem j_aastC {X : jX} {cc : ByteArray} {nL : Nat} {own : String} {Ts : List Cond} {rm : Room} {D : va_G} {Y : Nat → ClassId} {RO : va_W} {k n : Nat} {ws ws' : va_W} {lc : List (Nat × Value)} {pc : Nat} {st : List Value} (C : jC X cc nL own Ts rm D Y RO) {cA : ClassId} {m0 : Nat} {g : Int → Option Nat} {a v : Nat} {i : Int} {vs : List Value} (q0 qk : Nat) (he : ws[q0]? = some (a, aQ cA m0 g)) (hcA : cA = Y 2) (hv : ws[qk]? = some (v, oC 1 vs)) (hi : 0 ≤ i ∧ i < (m0 : Int)) (hm : m0 < 2147483648) (hw : ws.set q0 (a, aQ cA m0 (up g i (some v))) = ws') (hd : decode cc pc = .ok (.aastore, 1)) (kk : jW X nL k n ws' lc (pc + 1) st) : jW X nL k n ws lc pc (.ref v :: vI i :: .ref a :: st) := by
  obtain ⟨p, l, e, R, s, m, args, below, meth, c, Q, D', Y', A, H0, RO'⟩ := X
  obtain ⟨⟨hx, hb, hml, hown, hts⟩, hK, hA, ⟨rfl, rfl, rfl, rfl⟩, hR, hRA, hN⟩ := C
  intro H locs ls hP hD hS hl
  subst hcA hw
  refine va_astq hx hb hK hP hD hS q0 2 qk 1 (cA := Y' 2) (r := (RX1, TX1, 3)) (n := m0) (f := fun k : Nat => g (k : Int)) he rfl hv rfl (nj_in hi hm) hd (fun H1 locs1 hP hD hS => ?_)
  rw [nj_upq (by omega)] at hP hD
  exact kk H1 locs1 ls hP hD hS hl
theorem j_aastP {X : jX} {cc : ByteArray} {nL : Nat} {own : String} {Ts : List Cond} {rm : Room} {D : va_G} {Y : Nat → ClassId} {RO : va_W} {k n : Nat} {ws ws' : va_W} {lc : List (Nat × Value)} {pc : Nat} {st : List Value} (C : jC X cc nL own Ts rm D Y RO) {cA : ClassId} {m0 : Nat} {g : Int → Option Nat} {a v : Nat} {i : Int} {P : PT} (q0 qk : Nat) (he : ws[q0]? = some (a, aQ cA m0 g)) (hcA : cA = Y 3) (hv : ws[qk]? = some (pC v P)) (hk : 0 ≤ pk P ∧ pk P ≤ 3) (hi : 0 ≤ i ∧ i < (m0 : Int)) (hm : m0 < 2147483648) (hw : ws.set q0 (a, aQ cA m0 (up g i (some v))) = ws') (hd : decode cc pc = .ok (.aastore, 1)) (kk : jW X nL k n ws' lc (pc + 1) st) : jW X nL k n ws lc pc (.ref v :: vI i :: .ref a :: st) := by
  obtain ⟨p, l, e, R, s, m, args, below, meth, c, Q, D', Y', A, H0, RO'⟩ := X
  obtain ⟨⟨hx, hb, hml, hown, hts⟩, hK, hA, ⟨rfl, rfl, rfl, rfl⟩, hR, hRA, hN⟩ := C
  intro H locs ls hP hD hS hl
  subst hcA hw
  have kk2 : ∀ (H1 : Heap) (locs1 : List Loc), va_P D' vwCl (ws.set q0 (a, .inl (Y' 3, m0, .inr (.inr (.inr (.inr (va_up (fun k : Nat => g (k : Int)) (Int32.ofInt i).toNatClampNeg (some v)))))))) H1 → va_D A (ws.set q0 (a, .inl (Y' 3, m0, .inr (.inr (.inr (.inr (va_up (fun k : Nat => g (k : Int)) (Int32.ofInt i).toNatClampNeg (some v)))))))) → va_S A H0 H1 locs1 → W p l e R s m args below meth c H1 locs1 k n Q (F0 m (pc + 1) ls st) := by
    intro H1 locs1 hP hD hS
    rw [nj_upq (by omega)] at hP hD
    exact kk H1 locs1 ls hP hD hS hl
  rcases (show pk P = 0 ∨ pk P = 1 ∨ pk P = 2 ∨ pk P = 3 by omega) with h | h | h | h
  · rw [pC_0 h] at hv
    exact va_astq hx hb hK hP hD hS q0 3 qk 4 (cA := Y' 3) (r := (RX5, TX5, 4)) (n := m0) (f := fun k : Nat => g (k : Int)) he rfl hv rfl (nj_in hi hm) hd kk2
  · rw [pC_1 h] at hv
    exact va_astqO hx hb hK hP hD hS q0 3 qk 5 (E := RX5) (cA := Y' 3) (r := (RX6, TX6, 4)) (n := m0) (f := fun k : Nat => g (k : Int)) he rfl hN.2.2.1.2.1 hv rfl (nj_in hi hm) hd kk2
  · rw [pC_2 h] at hv
    exact va_astqO hx hb hK hP hD hS q0 3 qk 6 (E := RX5) (cA := Y' 3) (r := (RX7, TX7, 4)) (n := m0) (f := fun k : Nat => g (k : Int)) he rfl hN.2.2.1.2.2.1 hv rfl (nj_in hi hm) hd kk2
  · rw [pC_3 h] at hv
    exact va_astqO hx hb hK hP hD hS q0 3 qk 0 (E := RX5) (cA := Y' 3) (r := (RX0, TX0, 4)) (n := m0) (f := fun k : Nat => g (k : Int)) he rfl hN.2.2.1.2.2.2 hv rfl (nj_in hi hm) hd kk2
theorem fit_of {q c : Int} (h : ¬ (if fitP q c then q + 1 else -1) = -1) : fitP q c := Classical.byContradiction (fun z => h (if_neg z))
theorem fit_not {q c : Int} (h0 : 0 ≤ q) (h : (if fitP q c then q + 1 else -1) = -1) : ¬ fitP q c := fun z => by rw [if_pos z] at h; omega
def rdP (pg : Int → Int) (k b : Int) (G : GS) : Prop := (2 ≤ k → g_nw G = ruleI (pg 1)) ∧ (4 ≤ k → g_ns G = ruleI (pg 3)) ∧ (b = 1 → k ≤ 5 → g_ne G = 0) ∧ (6 ≤ k → g_ne G = pg 5 - 48)
theorem rd_step {pg : Int → Int} {k q : Int} {G : GS} (hq : q = k) (h : rdP pg k 1 G) (h0 : 0 ≤ k ∧ k ≤ 5) : rdP pg (k + 1) 1 (gNX q (pg k) G) := by
  subst hq
  obtain ⟨a, b, c, d⟩ := h
  refine ⟨fun z => ?_, fun z => ?_, fun _ z => ?_, fun z => ?_⟩
  · show (if q = 1 then ruleI (pg q) else g_nw G) = _
    split
    · next e => rw [e]
    · exact a (by omega)
  · show (if q = 3 then ruleI (pg q) else g_ns G) = _
    split
    · next e => rw [e]
    · exact b (by omega)
  · show (if q = 5 then pg q - 48 else g_ne G) = 0
    rw [if_neg (by omega)]
    exact c rfl (by omega)
  · show (if q = 5 then pg q - 48 else g_ne G) = _
    have e : q = 5 := by omega
    rw [if_pos e, e]
theorem rd_bad {pg : Int → Int} {k q c : Int} {G : GS} (hq : q = k) (h : rdP pg k 1 G) (h0 : 0 ≤ k ∧ k ≤ 6) : rdP pg k 0 (gNX q c G) := by
  subst hq
  obtain ⟨a, b, -, d⟩ := h
  refine ⟨fun z => ?_, fun z => ?_, fun z => by omega, fun z => ?_⟩
  · show (if q = 1 then ruleI c else g_nw G) = _
    rw [if_neg (by omega)]
    exact a z
  · show (if q = 3 then ruleI c else g_ns G) = _
    rw [if_neg (by omega)]
    exact b z
  · show (if q = 5 then c - 48 else g_ne G) = _
    rw [if_neg (by omega)]
    exact d z
theorem fault_eq {pg : Int → Int} {pl k : Int} (h0 : 0 ≤ k) (h : fstI (fun i => ¬ fitP i (pg i)) k = -1) (hk : k = pl ∨ (k < pl ∧ ¬ fitP k (pg k))) : faultI pg pl = k := by
  unfold faultI badI
  rcases hk with hk | hk
  · subst hk
    rw [h, if_pos rfl]
  · rw [fst_hit h0 hk.1 h hk.2, if_neg (by omega)]
theorem rd_end {pg : Int → Int} {pl k b : Int} {G : GS} (h : rdP pg k b G) (hf : faultI pg pl = k) (hb : b = 1 ∨ k < pl) (hc : cusP pg pl) : g_nw G = cw (cusI pg pl) ∧ g_ns G = cz (cusI pg pl) ∧ g_ne G = ce (cusI pg pl) := by
  obtain ⟨a, b, c, d⟩ := h
  have h1 := hc.1
  have h2 := hc.2
  refine ⟨a (by omega), b (by omega), ?_⟩
  show g_ne G = if pl = 6 then pg 5 - 48 else 0
  split
  · exact d (by omega)
  · exact c (by omega) (by omega)
