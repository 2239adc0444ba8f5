-- the parishes: making, asking, changing
def stW (P : PT) (x : Int) : PT := (pk P, pn P, x, pi P, pz P)
def stI (P : PT) (x : Int) : PT := (pk P, pn P, pw P, x, pz P)
def stZ (P : PT) (x : Int) : PT := (pk P, pn P, pw P, pi P, x)
theorem j_putP {X : jX} {cc : ByteArray} {nL : Nat} {own : String} {Ts : List Cond} {rm : Room} {D : va_G} {Y : Nat → ClassId} {RO : va_W} {k n : Nat} {ws ws' : va_W} {lc : List (Nat × Value)} {pc index : Nat} {ref : String} {st : List Value} (C : jC X cc nL own Ts rm D Y RO) {a : Nat} {P P' : PT} {x : Int} (q0 : Nat) (he : ws[q0]? = some (pC a P)) (hk : 0 ≤ pk P ∧ pk P ≤ 3) (hpk : pk P' = pk P) (h5 : ∀ w ∈ u_ws RX5 TX5 4, w ∈ Ts) (h6 : ∀ w ∈ u_ws RX6 TX6 4, w ∈ Ts) (h7 : ∀ w ∈ u_ws RX7 TX7 4, w ∈ Ts) (h0 : ∀ w ∈ u_ws RX0 TX0 4, w ∈ Ts) (kf : Nat) (hkf : kf < 4) (hk1 : 1 ≤ kf) (hlink : Cond.fieldLink own index ref (TX5 kf).2.1 (TX5 kf).2.2.1 ∈ Ts) (hsame : (TX5 kf).1 = ref ∨ Cond.sameField ref (TX5 kf).1 (TX5 kf).2.1 (TX5 kf).2.2.1 ∈ Ts) (hv : [vI (pn P), vI (pw P), vI (pi P), vI (pz P)].set kf (vI x) = [vI (pn P'), vI (pw P'), vI (pi P'), vI (pz P')]) (hw : ws.set q0 (pC a P') = ws') (hd : decode cc pc = .ok (.putfield index, 3)) (kk : jW X nL k n ws' lc (pc + 3) st) : jW X nL k n ws lc pc (vI x :: .ref a :: st) := by
  have e6 : TX6 = TX5 := rfl
  have e7 : TX7 = TX5 := rfl
  have e0 : TX0 = TX5 := rfl
  rcases (show kf = 1 ∨ kf = 2 ∨ kf = 3 by omega) with rfl | rfl | rfl <;> (
    rcases (show pk P = 0 ∨ pk P = 1 ∨ pk P = 2 ∨ pk P = 3 by omega) with h | h | h | h
    · rw [pC_0 h] at he; rw [pC_0 (hpk.trans h)] at hw
      exact j_put C (T := TX5) q0 he rfl h5 tyX5_ok nmX5 _ hkf hlink hsame rfl rfl rfl rfl (Nat.le_of_ble_eq_true rfl) (by rw [hv]; exact hw) hd kk
    · rw [pC_1 h] at he; rw [pC_1 (hpk.trans h)] at hw
      exact j_put C (T := TX6) q0 he rfl h6 tyX6_ok nmX6 _ hkf hlink hsame rfl rfl rfl rfl (Nat.le_of_ble_eq_true rfl) (by rw [hv]; exact hw) hd kk
    · rw [pC_2 h] at he; rw [pC_2 (hpk.trans h)] at hw
      exact j_put C (T := TX7) q0 he rfl h7 tyX7_ok nmX7 _ hkf hlink hsame rfl rfl rfl rfl (Nat.le_of_ble_eq_true rfl) (by rw [hv]; exact hw) hd kk
    · rw [pC_3 h] at he; rw [pC_3 (hpk.trans h)] at hw
      exact j_put C (T := TX0) q0 he rfl h0 tyX0_ok nmX0 _ hkf hlink hsame rfl rfl rfl rfl (Nat.le_of_ble_eq_true rfl) (by rw [hv]; exact hw) hd kk)
abbrev kwP (k n : Int) : Prop := (k = 0 ∧ n = 0) ∨ (k = 1 ∧ 2 ≤ n ∧ n ≤ 4) ∨ (2 ≤ k ∧ k ≤ 3 ∧ 0 ≤ n ∧ n < 7)
abbrev mbP (w v : Int) : Prop := (w = 2 ∧ 1 ≤ v ∧ v ≤ 9) ∨ (3 ≤ w ∧ w ≤ 4 ∧ 0 ≤ v ∧ v ≤ 10)
abbrev ofP (P : PT) (k : Int) : Prop := (k ≤ 0 ∨ 3 < k) ∨ (k = 1 ∧ pk P = 1) ∨ (k = 2 ∧ 2 ≤ pk P) ∨ (k = 3 ∧ pk P = 3)
def allP (kd n w x z : Int) : Prop := kwP kd n ∧ mbP 2 w ∧ mbP 3 x ∧ mbP 4 z
theorem okP_all {kd n w x z : Int} (h : allP kd n w x z) : okP (kd, n, w, x, z) := by
  obtain ⟨h1, h2, h3, h4⟩ := h
  unfold kwP at h1; unfold mbP at h2 h3 h4
  show (0 ≤ kd ∧ kd ≤ 3) ∧ (kd = 0 → n = 0) ∧ (kd = 1 → 2 ≤ n ∧ n ≤ 4) ∧ (2 ≤ kd → 0 ≤ n ∧ n < 7) ∧ (1 ≤ w ∧ w ≤ 9) ∧ (0 ≤ x ∧ x ≤ 10) ∧ (0 ≤ z ∧ z ≤ 10)
  refine ⟨by omega, fun q => by omega, fun q => by omega, fun q => by omega, by omega, by omega, by omega⟩
def rParish (kd n w x z np : Int) : Int := if ¬ kwP kd n then -102 else if ¬ mbP 2 w then -102 else if ¬ mbP 3 x then -102 else if ¬ mbP 4 z then -102 else if 6 ≤ np then -104 else np
def rAs (p k np : Int) (ps : Int → PT) : Int := if ¬ (0 ≤ p ∧ p < np) then -101 else if ¬ (0 ≤ k ∧ k < 4) then -102 else if ofP (ps p) k then p else -1
def rAbout (p w np : Int) (ps : Int → PT) : Int := if ¬ (0 ≤ p ∧ p < np) then -101 else if ¬ (0 ≤ w ∧ w ≤ 5) then -102 else toldP (ps p) w
def rChange (p w v np : Int) (ps : Int → PT) : Int := if ¬ (0 ≤ p ∧ p < np) then -101 else if ¬ mbP w v then -102 else toldP (ps p) w
def chP (P : PT) (w v : Int) : PT := if w = 2 then stW P v else if w = 3 then stI P v else stZ P v
theorem kwP_k {k n : Int} (h : kwP k n) : 0 ≤ k ∧ k ≤ 3 := by unfold kwP at h; omega
def parOk (kd n w x z np : Int) : Prop := allP kd n w x z ∧ np < 6
def gNP (G : GS) : GS := (g_np G + 1, g_nc G, g_pl G, g_ik G, g_ks G, g_ss G, g_fa G, g_iw G, g_nw G, g_ns G, g_ne G, g_h G)
theorem up_kof (ps : Int → PT) (n : Int) (P : PT) : kof (up ps n P) = up (kof ps) n (pk P) := by funext i; unfold kof up; dsimp only; split <;> rfl
theorem up_nof (ps : Int → PT) (n : Int) (P : PT) : nof (up ps n P) = up (nof ps) n (pn P) := by funext i; unfold nof up; dsimp only; split <;> rfl
theorem up_wof (ps : Int → PT) (n : Int) (P : PT) : wof (up ps n P) = up (wof ps) n (pw P) := by funext i; unfold wof up; dsimp only; split <;> rfl
theorem up_iof (ps : Int → PT) (n : Int) (P : PT) : iof (up ps n P) = up (iof ps) n (pi P) := by funext i; unfold iof up; dsimp only; split <;> rfl
theorem up_zof (ps : Int → PT) (n : Int) (P : PT) : zof (up ps n P) = up (zof ps) n (pz P) := by funext i; unfold zof up; dsimp only; split <;> rfl
def chS (p w v : Int) (ps : Int → PT) : PT := if mbP w v then chP (ps p) w v else ps p
def psC (p w v np : Int) (ps : Int → PT) : Int → PT := if 0 ≤ p ∧ p < np then up ps p (chS p w v ps) else ps
theorem psC_out {p w v np : Int} {ps : Int → PT} (h : ¬ (0 ≤ p ∧ p < np)) : psC p w v np ps = ps := if_neg h
theorem psC_bad {p w v np : Int} {ps : Int → PT} (h : ¬ mbP w v) : psC p w v np ps = ps := by
  unfold psC chS
  rw [if_neg h]
  split
  · funext i
    show (if i = p then ps p else ps i) = ps i
    split
    · rename_i e; rw [e]
    · rfl
  · rfl
theorem psC_in {p w v np : Int} {ps : Int → PT} (h : 0 ≤ p ∧ p < np) (hm : mbP w v) : psC p w v np ps = up ps p (chP (ps p) w v) := by
  unfold psC chS
  rw [if_pos h, if_pos hm]
theorem gX0_init_X7_init : GoodIn wsX0_init wsX7_init := goodIn_r _ [4, 5, 6, 7, 8, 9, 10, 11, 12, 13, 14, 15, 16, 17, 18, 19, 20, 21, 22, 23, 24, 25, 26, 27, 28] (by decide +kernel) (by decide +kernel)
set_option maxHeartbeats 4000000 in
set_option maxRecDepth 100000 in
theorem c_isKindWith (l : Launch) (D : va_G) (Y : Nat → ClassId) (RO : va_W) (kd : Int) (n : Int)  (hkd : -2147483648 ≤ kd ∧ kd ≤ 2147483647) (hn : -2147483648 ≤ n ∧ n ≤ 2147483647) : jMi l yX9_isKindWith wsX9_isKindWith { frames := 1, cells := 0, slots := 0, locals := 20 } D Y RO [vI kd, vI n] [] (fun e w1 => e = (if kwP kd n then 1 else 0) ∧ w1 = []) := by
  refine j_ofz RX9 rfl rfl rfl (Nat.le_of_ble_eq_true rfl) (fun X C Rt => ?_)
  refine j_iload_n (pc := 0) C 0 0 rfl rfl dX9_isKindWith_0 ?_
  rcases (show kd = 0 ∨ kd = 1 ∨ kd = 2 ∨ kd = 3 ∨ (kd < 0 ∨ 3 < kd) by omega) with h_1p1 | h_1p1 | h_1p1 | h_1p1 | h_1p1
  · refine j_tableC (pc := 1) C 0 32 h_1p1 (by decide) rfl rfl dX9_isKindWith_1 ?_
    refine j_iload_n (pc := 32) C 1 1 rfl rfl dX9_isKindWith_32 ?_
    refine j_if_ne (pc := 33) C 40 rfl (by omega) dX9_isKindWith_33 (fun h_2p33 => ?_) (fun h_2p33 => ?_)
    · skip
      refine j_iconst (pc := 40) C dX9_isKindWith_40 ?_
      exact Rt _ _ _ _ _ _ (by decide) (by decide) (by decide) ⟨by unfold kwP; (repeat' split) <;> first | rfl | omega | (exfalso; omega), rfl⟩ dX9_isKindWith_41
    · skip
      refine j_iconst (pc := 36) C dX9_isKindWith_36 ?_
      refine j_goto (pc := 37) C 41 rfl dX9_isKindWith_37 ?_
      exact Rt _ _ _ _ _ _ (by decide) (by decide) (by decide) ⟨by unfold kwP; (repeat' split) <;> first | rfl | omega | (exfalso; omega), rfl⟩ dX9_isKindWith_41
  · refine j_tableC (pc := 1) C 1 42 h_1p1 (by decide) rfl rfl dX9_isKindWith_1 ?_
    refine j_iload_n (pc := 42) C 1 1 rfl rfl dX9_isKindWith_42 ?_
    refine j_iconst (pc := 43) C dX9_isKindWith_43 ?_
    refine j_icmp_lt (pc := 44) C 56 rfl (by omega) dX9_isKindWith_44 (fun h_3p44 => ?_) (fun h_3p44 => ?_)
    · skip
      refine j_iconst (pc := 56) C dX9_isKindWith_56 ?_
      exact Rt _ _ _ _ _ _ (by decide) (by decide) (by decide) ⟨by unfold kwP; (repeat' split) <;> first | rfl | omega | (exfalso; omega), rfl⟩ dX9_isKindWith_57
    · skip
      refine j_iload_n (pc := 47) C 1 1 rfl rfl dX9_isKindWith_47 ?_
      refine j_iconst (pc := 48) C dX9_isKindWith_48 ?_
      refine j_icmp_gt (pc := 49) C 56 rfl (by omega) dX9_isKindWith_49 (fun h_4p49 => ?_) (fun h_4p49 => ?_)
      · skip
        refine j_iconst (pc := 56) C dX9_isKindWith_56 ?_
        exact Rt _ _ _ _ _ _ (by decide) (by decide) (by decide) ⟨by unfold kwP; (repeat' split) <;> first | rfl | omega | (exfalso; omega), rfl⟩ dX9_isKindWith_57
      · skip
        refine j_iconst (pc := 52) C dX9_isKindWith_52 ?_
        refine j_goto (pc := 53) C 57 rfl dX9_isKindWith_53 ?_
        exact Rt _ _ _ _ _ _ (by decide) (by decide) (by decide) ⟨by unfold kwP; (repeat' split) <;> first | rfl | omega | (exfalso; omega), rfl⟩ dX9_isKindWith_57
  · refine j_tableC (pc := 1) C 2 58 h_1p1 (by decide) rfl rfl dX9_isKindWith_1 ?_
    refine j_iload_n (pc := 58) C 1 1 rfl rfl dX9_isKindWith_58 ?_
    refine j_callSi (pc := 59) (As := [vI n]) (na := 1) (st := []) C [] [] (wr := []) (fun l => c_isCairn l D Y _ n (by first | assumption | omega)) rfl rfl rfl rfl (by decide) rfl gX9_isKindWith_X9_isCairn (by decide +kernel) (by decide) rfl rfl (Nat.le_of_ble_eq_true rfl) (by decide) dX9_isKindWith_59 (fun e_5 w_6 h_7 => ?_)
    obtain ⟨rfl, rfl⟩ := h_7
    refine j_perm (ws' := []) [] rfl rfl ?_
    exact Rt _ _ _ _ _ _ (by decide) (by decide) (by split <;> simp) ⟨by unfold kwP; (repeat' split) <;> first | rfl | omega | (exfalso; omega), rfl⟩ dX9_isKindWith_62
  · refine j_tableC (pc := 1) C 3 63 h_1p1 (by decide) rfl rfl dX9_isKindWith_1 ?_
    refine j_iload_n (pc := 63) C 1 1 rfl rfl dX9_isKindWith_63 ?_
    refine j_callSi (pc := 64) (As := [vI n]) (na := 1) (st := []) C [] [] (wr := []) (fun l => c_isCairn l D Y _ n (by first | assumption | omega)) rfl rfl rfl rfl (by decide) rfl gX9_isKindWith_X9_isCairn (by decide +kernel) (by decide) rfl rfl (Nat.le_of_ble_eq_true rfl) (by decide) dX9_isKindWith_64 (fun e_8 w_9 h_10 => ?_)
    obtain ⟨rfl, rfl⟩ := h_10
    refine j_perm (ws' := []) [] rfl rfl ?_
    exact Rt _ _ _ _ _ _ (by decide) (by decide) (by split <;> simp) ⟨by unfold kwP; (repeat' split) <;> first | rfl | omega | (exfalso; omega), rfl⟩ dX9_isKindWith_67
  · refine j_tableD (pc := 1) C 68 (by omega) h_1p1 rfl dX9_isKindWith_1 ?_
    refine j_iconst (pc := 68) C dX9_isKindWith_68 ?_
    exact Rt _ _ _ _ _ _ (by decide) (by decide) (by decide) ⟨by unfold kwP; (repeat' split) <;> first | rfl | omega | (exfalso; omega), rfl⟩ dX9_isKindWith_69

set_option maxHeartbeats 4000000 in
set_option maxRecDepth 100000 in
theorem c_mayBe (l : Launch) (D : va_G) (Y : Nat → ClassId) (RO : va_W) (w : Int) (v : Int)  (hw : -2147483648 ≤ w ∧ w ≤ 2147483647) (hv : -2147483648 ≤ v ∧ v ≤ 2147483647) : jMi l yX9_mayBe wsX9_mayBe { frames := 0, cells := 0, slots := 0, locals := 0 } D Y RO [vI w, vI v] [] (fun e w1 => e = (if mbP w v then 1 else 0) ∧ w1 = []) := by
  refine j_ofz RX9 rfl rfl rfl (Nat.le_of_ble_eq_true rfl) (fun X C Rt => ?_)
  refine j_iload_n (pc := 0) C 0 0 rfl rfl dX9_mayBe_0 ?_
  rcases (show w = 2 ∨ w = 3 ∨ w = 4 ∨ (w < 2 ∨ 4 < w) by omega) with h_1p1 | h_1p1 | h_1p1 | h_1p1
  · refine j_tableC (pc := 1) C 2 28 h_1p1 (by decide) rfl rfl dX9_mayBe_1 ?_
    refine j_iload_n (pc := 28) C 1 1 rfl rfl dX9_mayBe_28 ?_
    refine j_iconst (pc := 29) C dX9_mayBe_29 ?_
    refine j_icmp_lt (pc := 30) C 43 rfl (by omega) dX9_mayBe_30 (fun h_2p30 => ?_) (fun h_2p30 => ?_)
    · skip
      refine j_iconst (pc := 43) C dX9_mayBe_43 ?_
      exact Rt _ _ _ _ _ _ (by decide) (by decide) (by decide) ⟨by unfold mbP; (repeat' split) <;> first | rfl | omega | (exfalso; omega), rfl⟩ dX9_mayBe_44
    · skip
      refine j_iload_n (pc := 33) C 1 1 rfl rfl dX9_mayBe_33 ?_
      refine j_bipush (pc := 34) (w := 9) C rfl dX9_mayBe_34 ?_
      refine j_icmp_gt (pc := 36) C 43 rfl (by omega) dX9_mayBe_36 (fun h_3p36 => ?_) (fun h_3p36 => ?_)
      · skip
        refine j_iconst (pc := 43) C dX9_mayBe_43 ?_
        exact Rt _ _ _ _ _ _ (by decide) (by decide) (by decide) ⟨by unfold mbP; (repeat' split) <;> first | rfl | omega | (exfalso; omega), rfl⟩ dX9_mayBe_44
      · skip
        refine j_iconst (pc := 39) C dX9_mayBe_39 ?_
        refine j_goto (pc := 40) C 44 rfl dX9_mayBe_40 ?_
        exact Rt _ _ _ _ _ _ (by decide) (by decide) (by decide) ⟨by unfold mbP; (repeat' split) <;> first | rfl | omega | (exfalso; omega), rfl⟩ dX9_mayBe_44
  · refine j_tableC (pc := 1) C 3 45 h_1p1 (by decide) rfl rfl dX9_mayBe_1 ?_
    refine j_iload_n (pc := 45) C 1 1 rfl rfl dX9_mayBe_45 ?_
    refine j_if_lt (pc := 46) C 59 rfl (by omega) dX9_mayBe_46 (fun h_4p46 => ?_) (fun h_4p46 => ?_)
    · skip
      refine j_iconst (pc := 59) C dX9_mayBe_59 ?_
      exact Rt _ _ _ _ _ _ (by decide) (by decide) (by decide) ⟨by unfold mbP; (repeat' split) <;> first | rfl | omega | (exfalso; omega), rfl⟩ dX9_mayBe_60
    · skip
      refine j_iload_n (pc := 49) C 1 1 rfl rfl dX9_mayBe_49 ?_
      refine j_bipush (pc := 50) (w := 10) C rfl dX9_mayBe_50 ?_
      refine j_icmp_gt (pc := 52) C 59 rfl (by omega) dX9_mayBe_52 (fun h_5p52 => ?_) (fun h_5p52 => ?_)
      · skip
        refine j_iconst (pc := 59) C dX9_mayBe_59 ?_
        exact Rt _ _ _ _ _ _ (by decide) (by decide) (by decide) ⟨by unfold mbP; (repeat' split) <;> first | rfl | omega | (exfalso; omega), rfl⟩ dX9_mayBe_60
      · skip
        refine j_iconst (pc := 55) C dX9_mayBe_55 ?_
        refine j_goto (pc := 56) C 60 rfl dX9_mayBe_56 ?_
        exact Rt _ _ _ _ _ _ (by decide) (by decide) (by decide) ⟨by unfold mbP; (repeat' split) <;> first | rfl | omega | (exfalso; omega), rfl⟩ dX9_mayBe_60
  · refine j_tableC (pc := 1) C 4 61 h_1p1 (by decide) rfl rfl dX9_mayBe_1 ?_
    refine j_iload_n (pc := 61) C 1 1 rfl rfl dX9_mayBe_61 ?_
    refine j_if_lt (pc := 62) C 75 rfl (by omega) dX9_mayBe_62 (fun h_6p62 => ?_) (fun h_6p62 => ?_)
    · skip
      refine j_iconst (pc := 75) C dX9_mayBe_75 ?_
      exact Rt _ _ _ _ _ _ (by decide) (by decide) (by decide) ⟨by unfold mbP; (repeat' split) <;> first | rfl | omega | (exfalso; omega), rfl⟩ dX9_mayBe_76
    · skip
      refine j_iload_n (pc := 65) C 1 1 rfl rfl dX9_mayBe_65 ?_
      refine j_bipush (pc := 66) (w := 10) C rfl dX9_mayBe_66 ?_
      refine j_icmp_gt (pc := 68) C 75 rfl (by omega) dX9_mayBe_68 (fun h_7p68 => ?_) (fun h_7p68 => ?_)
      · skip
        refine j_iconst (pc := 75) C dX9_mayBe_75 ?_
        exact Rt _ _ _ _ _ _ (by decide) (by decide) (by decide) ⟨by unfold mbP; (repeat' split) <;> first | rfl | omega | (exfalso; omega), rfl⟩ dX9_mayBe_76
      · skip
        refine j_iconst (pc := 71) C dX9_mayBe_71 ?_
        refine j_goto (pc := 72) C 76 rfl dX9_mayBe_72 ?_
        exact Rt _ _ _ _ _ _ (by decide) (by decide) (by decide) ⟨by unfold mbP; (repeat' split) <;> first | rfl | omega | (exfalso; omega), rfl⟩ dX9_mayBe_76
  · refine j_tableD (pc := 1) C 77 (by omega) h_1p1 rfl dX9_mayBe_1 ?_
    refine j_iconst (pc := 77) C dX9_mayBe_77 ?_
    exact Rt _ _ _ _ _ _ (by decide) (by decide) (by decide) ⟨by unfold mbP; (repeat' split) <;> first | rfl | omega | (exfalso; omega), rfl⟩ dX9_mayBe_78

theorem fX5_init_X5 : ∀ w ∈ u_ws RX5 TX5 4, w ∈ wsX5_init := j_words [9, 10, 11, 12] (by decide +kernel)
set_option maxHeartbeats 4000000 in
set_option maxRecDepth 100000 in
theorem c_pin0 (l : Launch) (D : va_G) (Y : Nat → ClassId) (RO : va_W) (a : Nat) (n : Int)   : jMv l yX5_init wsX5_init { frames := 1, cells := 0, slots := 0, locals := 12 } D Y RO [.ref a, vI n] [(a, oC 4 [vI 0, vI 0, vI 0, vI 0])] (fun w1 => w1 = [(a, oC 4 [vI n, vI 0, vI 0, vI 0])]) := by
  refine j_ofv RX5 rfl rfl rfl (Nat.le_of_ble_eq_true rfl) (fun X C Rt hI => ?_)
  refine j_aload_n (pc := 0) C 0 0 rfl rfl dX5_init_0 ?_
  refine j_objInit (pc := 1) (st := []) C (List.mem_of_getElem? (i := 1) rfl) (List.mem_of_getElem? (i := 2) rfl) (List.mem_of_getElem? (i := 3) rfl) (by decide) (Nat.le_of_ble_eq_true rfl) dX5_init_1 ?_
  refine j_aload_n (pc := 4) C 0 0 rfl rfl dX5_init_4 ?_
  refine j_iload_n (pc := 5) C 1 1 rfl rfl dX5_init_5 ?_
  refine j_putF (pc := 6) (ws' := [(a, oC 4 [vI n, vI 0, vI 0, vI 0])]) C 0 rfl rfl fX5_init_X5 tyX5_ok nmX5 0 (by decide) (List.mem_of_getElem? (i := 4) rfl) (Or.inl rfl) rfl (hI rfl) rfl rfl rfl rfl (Nat.le_of_ble_eq_true rfl) rfl dX5_init_6 ?_
  exact Rt _ _ _ _ _ (by decide) (by decide) rfl dX5_init_9

theorem fX5_init_X6 : ∀ w ∈ u_ws RX6 TX6 4, w ∈ wsX5_init := j_words [13, 14, 15, 16] (by decide +kernel)
set_option maxHeartbeats 4000000 in
set_option maxRecDepth 100000 in
theorem c_pin1 (l : Launch) (D : va_G) (Y : Nat → ClassId) (RO : va_W) (a : Nat) (n : Int)   : jMv l yX5_init wsX5_init { frames := 1, cells := 0, slots := 0, locals := 12 } D Y RO [.ref a, vI n] [(a, oC 5 [vI 0, vI 0, vI 0, vI 0])] (fun w1 => w1 = [(a, oC 5 [vI n, vI 0, vI 0, vI 0])]) := by
  refine j_ofv RX5 rfl rfl rfl (Nat.le_of_ble_eq_true rfl) (fun X C Rt hI => ?_)
  refine j_aload_n (pc := 0) C 0 0 rfl rfl dX5_init_0 ?_
  refine j_objInit (pc := 1) (st := []) C (List.mem_of_getElem? (i := 1) rfl) (List.mem_of_getElem? (i := 2) rfl) (List.mem_of_getElem? (i := 3) rfl) (by decide) (Nat.le_of_ble_eq_true rfl) dX5_init_1 ?_
  refine j_aload_n (pc := 4) C 0 0 rfl rfl dX5_init_4 ?_
  refine j_iload_n (pc := 5) C 1 1 rfl rfl dX5_init_5 ?_
  refine j_putF (pc := 6) (ws' := [(a, oC 5 [vI n, vI 0, vI 0, vI 0])]) C 0 rfl rfl fX5_init_X6 tyX6_ok nmX6 0 (by decide) (List.mem_of_getElem? (i := 4) rfl) (Or.inl rfl) rfl (hI rfl) rfl rfl rfl rfl (Nat.le_of_ble_eq_true rfl) rfl dX5_init_6 ?_
  exact Rt _ _ _ _ _ (by decide) (by decide) rfl dX5_init_9

theorem fX5_init_X7 : ∀ w ∈ u_ws RX7 TX7 4, w ∈ wsX5_init := j_words [17, 18, 19, 20] (by decide +kernel)
set_option maxHeartbeats 4000000 in
set_option maxRecDepth 100000 in
theorem c_pin2 (l : Launch) (D : va_G) (Y : Nat → ClassId) (RO : va_W) (a : Nat) (n : Int)   : jMv l yX5_init wsX5_init { frames := 1, cells := 0, slots := 0, locals := 12 } D Y RO [.ref a, vI n] [(a, oC 6 [vI 0, vI 0, vI 0, vI 0])] (fun w1 => w1 = [(a, oC 6 [vI n, vI 0, vI 0, vI 0])]) := by
  refine j_ofv RX5 rfl rfl rfl (Nat.le_of_ble_eq_true rfl) (fun X C Rt hI => ?_)
  refine j_aload_n (pc := 0) C 0 0 rfl rfl dX5_init_0 ?_
  refine j_objInit (pc := 1) (st := []) C (List.mem_of_getElem? (i := 1) rfl) (List.mem_of_getElem? (i := 2) rfl) (List.mem_of_getElem? (i := 3) rfl) (by decide) (Nat.le_of_ble_eq_true rfl) dX5_init_1 ?_
  refine j_aload_n (pc := 4) C 0 0 rfl rfl dX5_init_4 ?_
  refine j_iload_n (pc := 5) C 1 1 rfl rfl dX5_init_5 ?_
  refine j_putF (pc := 6) (ws' := [(a, oC 6 [vI n, vI 0, vI 0, vI 0])]) C 0 rfl rfl fX5_init_X7 tyX7_ok nmX7 0 (by decide) (List.mem_of_getElem? (i := 4) rfl) (Or.inl rfl) rfl (hI rfl) rfl rfl rfl rfl (Nat.le_of_ble_eq_true rfl) rfl dX5_init_6 ?_
  exact Rt _ _ _ _ _ (by decide) (by decide) rfl dX5_init_9

theorem fX5_init_X0 : ∀ w ∈ u_ws RX0 TX0 4, w ∈ wsX5_init := j_words [5, 6, 7, 8] (by decide +kernel)
set_option maxHeartbeats 4000000 in
set_option maxRecDepth 100000 in
theorem c_pin3 (l : Launch) (D : va_G) (Y : Nat → ClassId) (RO : va_W) (a : Nat) (n : Int)   : jMv l yX5_init wsX5_init { frames := 1, cells := 0, slots := 0, locals := 12 } D Y RO [.ref a, vI n] [(a, oC 0 [vI 0, vI 0, vI 0, vI 0])] (fun w1 => w1 = [(a, oC 0 [vI n, vI 0, vI 0, vI 0])]) := by
  refine j_ofv RX5 rfl rfl rfl (Nat.le_of_ble_eq_true rfl) (fun X C Rt hI => ?_)
  refine j_aload_n (pc := 0) C 0 0 rfl rfl dX5_init_0 ?_
  refine j_objInit (pc := 1) (st := []) C (List.mem_of_getElem? (i := 1) rfl) (List.mem_of_getElem? (i := 2) rfl) (List.mem_of_getElem? (i := 3) rfl) (by decide) (Nat.le_of_ble_eq_true rfl) dX5_init_1 ?_
  refine j_aload_n (pc := 4) C 0 0 rfl rfl dX5_init_4 ?_
  refine j_iload_n (pc := 5) C 1 1 rfl rfl dX5_init_5 ?_
  refine j_putF (pc := 6) (ws' := [(a, oC 0 [vI n, vI 0, vI 0, vI 0])]) C 0 rfl rfl fX5_init_X0 tyX0_ok nmX0 0 (by decide) (List.mem_of_getElem? (i := 4) rfl) (Or.inl rfl) rfl (hI rfl) rfl rfl rfl rfl (Nat.le_of_ble_eq_true rfl) rfl dX5_init_6 ?_
  exact Rt _ _ _ _ _ (by decide) (by decide) rfl dX5_init_9

set_option maxHeartbeats 4000000 in
set_option maxRecDepth 100000 in
theorem c_X6_init (l : Launch) (D : va_G) (Y : Nat → ClassId) (RO : va_W) (a : Nat) (n : Int)   : jMv l yX6_init wsX6_init { frames := 2, cells := 0, slots := 0, locals := 33 } D Y RO [.ref a, vI n] [(a, oC 5 [vI 0, vI 0, vI 0, vI 0])] (fun w1 => w1 = [(a, oC 5 [vI n, vI 0, vI 0, vI 0])]) := by
  refine j_ofv RX6 rfl rfl rfl (Nat.le_of_ble_eq_true rfl) (fun X C Rt hI => ?_)
  refine j_aload_n (pc := 0) C 0 0 rfl rfl dX6_init_0 ?_
  refine j_iload_n (pc := 1) C 1 1 rfl rfl dX6_init_1 ?_
  refine j_callIv (pc := 2) (As := [vI n]) (na := 1) (st := []) C [0] [] (wr := []) (fun l => c_pin1 l D Y _ a n ) rfl rfl rfl rfl (by decide) rfl gX6_init_X5_init (List.mem_of_getElem? (i := 3) rfl) (List.mem_of_getElem? (i := 1) rfl) (List.mem_of_getElem? (i := 2) rfl) rfl (by decide +kernel) (by decide) rfl rfl (Nat.le_of_ble_eq_true rfl) (by decide) dX6_init_2 (fun w_2 h_3 => ?_)
  subst h_3
  refine j_perm (ws' := [(a, oC 5 [vI n, vI 0, vI 0, vI 0])]) [0] rfl rfl ?_
  exact Rt _ _ _ _ _ (by decide) (by decide) rfl dX6_init_5

set_option maxHeartbeats 4000000 in
set_option maxRecDepth 100000 in
theorem c_X7_init (l : Launch) (D : va_G) (Y : Nat → ClassId) (RO : va_W) (a : Nat) (n : Int)   : jMv l yX7_init wsX7_init { frames := 2, cells := 0, slots := 0, locals := 33 } D Y RO [.ref a, vI n] [(a, oC 6 [vI 0, vI 0, vI 0, vI 0])] (fun w1 => w1 = [(a, oC 6 [vI n, vI 0, vI 0, vI 0])]) := by
  refine j_ofv RX7 rfl rfl rfl (Nat.le_of_ble_eq_true rfl) (fun X C Rt hI => ?_)
  refine j_aload_n (pc := 0) C 0 0 rfl rfl dX7_init_0 ?_
  refine j_iload_n (pc := 1) C 1 1 rfl rfl dX7_init_1 ?_
  refine j_callIv (pc := 2) (As := [vI n]) (na := 1) (st := []) C [0] [] (wr := []) (fun l => c_pin2 l D Y _ a n ) rfl rfl rfl rfl (by decide) rfl gX7_init_X5_init (List.mem_of_getElem? (i := 3) rfl) (List.mem_of_getElem? (i := 1) rfl) (List.mem_of_getElem? (i := 2) rfl) rfl (by decide +kernel) (by decide) rfl rfl (Nat.le_of_ble_eq_true rfl) (by decide) dX7_init_2 (fun w_2 h_3 => ?_)
  subst h_3
  refine j_perm (ws' := [(a, oC 6 [vI n, vI 0, vI 0, vI 0])]) [0] rfl rfl ?_
  exact Rt _ _ _ _ _ (by decide) (by decide) rfl dX7_init_5

set_option maxHeartbeats 4000000 in
set_option maxRecDepth 100000 in
theorem c_sin0 (l : Launch) (D : va_G) (Y : Nat → ClassId) (RO : va_W) (a : Nat) (n : Int)   : jMv l yX7_init wsX7_init { frames := 2, cells := 0, slots := 0, locals := 33 } D Y RO [.ref a, vI n] [(a, oC 0 [vI 0, vI 0, vI 0, vI 0])] (fun w1 => w1 = [(a, oC 0 [vI n, vI 0, vI 0, vI 0])]) := by
  refine j_ofv RX7 rfl rfl rfl (Nat.le_of_ble_eq_true rfl) (fun X C Rt hI => ?_)
  refine j_aload_n (pc := 0) C 0 0 rfl rfl dX7_init_0 ?_
  refine j_iload_n (pc := 1) C 1 1 rfl rfl dX7_init_1 ?_
  refine j_callIv (pc := 2) (As := [vI n]) (na := 1) (st := []) C [0] [] (wr := []) (fun l => c_pin3 l D Y _ a n ) rfl rfl rfl rfl (by decide) rfl gX7_init_X5_init (List.mem_of_getElem? (i := 3) rfl) (List.mem_of_getElem? (i := 1) rfl) (List.mem_of_getElem? (i := 2) rfl) rfl (by decide +kernel) (by decide) rfl rfl (Nat.le_of_ble_eq_true rfl) (by decide) dX7_init_2 (fun w_2 h_3 => ?_)
  subst h_3
  refine j_perm (ws' := [(a, oC 0 [vI n, vI 0, vI 0, vI 0])]) [0] rfl rfl ?_
  exact Rt _ _ _ _ _ (by decide) (by decide) rfl dX7_init_5

set_option maxHeartbeats 4000000 in
set_option maxRecDepth 100000 in
theorem c_X0_init (l : Launch) (D : va_G) (Y : Nat → ClassId) (RO : va_W) (a : Nat) (n : Int)   : jMv l yX0_init wsX0_init { frames := 3, cells := 0, slots := 0, locals := 54 } D Y RO [.ref a, vI n] [(a, oC 0 [vI 0, vI 0, vI 0, vI 0])] (fun w1 => w1 = [(a, oC 0 [vI n, vI 0, vI 0, vI 0])]) := by
  refine j_ofv RX0 rfl rfl rfl (Nat.le_of_ble_eq_true rfl) (fun X C Rt hI => ?_)
  refine j_aload_n (pc := 0) C 0 0 rfl rfl dX0_init_0 ?_
  refine j_iload_n (pc := 1) C 1 1 rfl rfl dX0_init_1 ?_
  refine j_callIv (pc := 2) (As := [vI n]) (na := 1) (st := []) C [0] [] (wr := []) (fun l => c_sin0 l D Y _ a n ) rfl rfl rfl rfl (by decide) rfl gX0_init_X7_init (List.mem_of_getElem? (i := 3) rfl) (List.mem_of_getElem? (i := 1) rfl) (List.mem_of_getElem? (i := 2) rfl) rfl (by decide +kernel) (by decide) rfl rfl (Nat.le_of_ble_eq_true rfl) (by decide) dX0_init_2 (fun w_2 h_3 => ?_)
  subst h_3
  refine j_perm (ws' := [(a, oC 0 [vI n, vI 0, vI 0, vI 0])]) [0] rfl rfl ?_
  exact Rt _ _ _ _ _ (by decide) (by decide) rfl dX0_init_5

theorem fX9_madeOf_X0 : ∀ w ∈ u_ws RX0 TX0 4, w ∈ wsX9_madeOf := j_words [40, 41, 42, 43] (by decide +kernel)
theorem fX9_madeOf_X5 : ∀ w ∈ u_ws RX5 TX5 4, w ∈ wsX9_madeOf := j_words [44, 45, 46, 47] (by decide +kernel)
theorem fX9_madeOf_X6 : ∀ w ∈ u_ws RX6 TX6 4, w ∈ wsX9_madeOf := j_words [32, 33, 34, 35] (by decide +kernel)
theorem fX9_madeOf_X7 : ∀ w ∈ u_ws RX7 TX7 4, w ∈ wsX9_madeOf := j_words [36, 37, 38, 39] (by decide +kernel)
set_option maxHeartbeats 4000000 in
set_option maxRecDepth 100000 in
theorem c_madeOf (l : Launch) (D : va_G) (Y : Nat → ClassId) (RO : va_W) (kd : Int) (n : Int)  (hk : 0 ≤ kd ∧ kd ≤ 3) (hn : -2147483648 ≤ n ∧ n ≤ 2147483647) : jMr l yX9_madeOf wsX9_madeOf { frames := 4, cells := 1, slots := 4, locals := 75 } D Y RO [vI kd, vI n] [] (fun e w1 => ∃ q : Nat, e = some q ∧ w1 = [pC q (kd, n, 0, 0, 0)]) := by
  refine j_ofr RX9 rfl rfl rfl (Nat.le_of_ble_eq_true rfl) (fun X C Rt => ?_)
  refine j_iload_n (pc := 0) C 0 0 rfl rfl dX9_madeOf_0 ?_
  rcases (show kd = 1 ∨ kd = 2 ∨ kd = 3 ∨ (kd < 1 ∨ 3 < kd) by omega) with h_1p1 | h_1p1 | h_1p1 | h_1p1
  · refine j_tableC (pc := 1) C 1 28 h_1p1 (by decide) rfl rfl dX9_madeOf_1 ?_
    refine j_new (pc := 28) (ci := 5) C [vI 0, vI 0, vI 0, vI 0] rfl fX9_madeOf_X6 tyX6_ok (List.mem_of_getElem? (i := 1) rfl) (List.mem_of_getElem? (i := 2) rfl) (List.mem_of_getElem? (i := 3) rfl) (fun j hj => by rcases (show j = 0 ∨ j = 1 ∨ j = 2 ∨ j = 3 by omega) with rfl | rfl | rfl | rfl <;> rfl) (by decide) dX9_madeOf_28 (fun q_2 => ?_)
    refine j_st (ws' := [(q_2, oC 5 [vI 0, vI 0, vI 0, vI 0])]) rfl rfl rfl ?_
    refine j_dup (pc := 31) C rfl dX9_madeOf_31 ?_
    refine j_iload_n (pc := 32) C 1 1 rfl rfl dX9_madeOf_32 ?_
    refine j_callIv (pc := 33) (As := [vI n]) (na := 1) (st := [.ref q_2]) C [0] [] (wr := []) (fun l => c_X6_init l D Y _ q_2 n ) rfl rfl rfl rfl (by decide) rfl gX9_madeOf_X6_init (List.mem_of_getElem? (i := 3) rfl) (List.mem_of_getElem? (i := 13) rfl) (List.mem_of_getElem? (i := 14) rfl) rfl (by decide +kernel) (by decide) rfl rfl (Nat.le_of_ble_eq_true rfl) (by decide) dX9_madeOf_33 (fun w_4 h_5 => ?_)
    subst h_5
    refine j_perm (ws' := [(q_2, oC 5 [vI n, vI 0, vI 0, vI 0])]) [0] rfl rfl ?_
    exact Rt _ _ _ _ _ (some q_2) (by decide) (by decide) ⟨_, rfl, by rw [pC_1 (P := (kd, n, 0, 0, 0)) (show kd = 1 by omega)]⟩ dX9_madeOf_36
  · refine j_tableC (pc := 1) C 2 37 h_1p1 (by decide) rfl rfl dX9_madeOf_1 ?_
    refine j_new (pc := 37) (ci := 6) C [vI 0, vI 0, vI 0, vI 0] rfl fX9_madeOf_X7 tyX7_ok (List.mem_of_getElem? (i := 4) rfl) (List.mem_of_getElem? (i := 5) rfl) (List.mem_of_getElem? (i := 6) rfl) (fun j hj => by rcases (show j = 0 ∨ j = 1 ∨ j = 2 ∨ j = 3 by omega) with rfl | rfl | rfl | rfl <;> rfl) (by decide) dX9_madeOf_37 (fun q_6 => ?_)
    refine j_st (ws' := [(q_6, oC 6 [vI 0, vI 0, vI 0, vI 0])]) rfl rfl rfl ?_
    refine j_dup (pc := 40) C rfl dX9_madeOf_40 ?_
    refine j_iload_n (pc := 41) C 1 1 rfl rfl dX9_madeOf_41 ?_
    refine j_callIv (pc := 42) (As := [vI n]) (na := 1) (st := [.ref q_6]) C [0] [] (wr := []) (fun l => c_X7_init l D Y _ q_6 n ) rfl rfl rfl rfl (by decide) rfl gX9_madeOf_X7_init (List.mem_of_getElem? (i := 6) rfl) (List.mem_of_getElem? (i := 23) rfl) (List.mem_of_getElem? (i := 24) rfl) rfl (by decide +kernel) (by decide) rfl rfl (Nat.le_of_ble_eq_true rfl) (by decide) dX9_madeOf_42 (fun w_8 h_9 => ?_)
    subst h_9
    refine j_perm (ws' := [(q_6, oC 6 [vI n, vI 0, vI 0, vI 0])]) [0] rfl rfl ?_
    exact Rt _ _ _ _ _ (some q_6) (by decide) (by decide) ⟨_, rfl, by rw [pC_2 (P := (kd, n, 0, 0, 0)) (show kd = 2 by omega)]⟩ dX9_madeOf_45
  · refine j_tableC (pc := 1) C 3 46 h_1p1 (by decide) rfl rfl dX9_madeOf_1 ?_
    refine j_new (pc := 46) (ci := 0) C [vI 0, vI 0, vI 0, vI 0] rfl fX9_madeOf_X0 tyX0_ok (List.mem_of_getElem? (i := 7) rfl) (List.mem_of_getElem? (i := 8) rfl) (List.mem_of_getElem? (i := 9) rfl) (fun j hj => by rcases (show j = 0 ∨ j = 1 ∨ j = 2 ∨ j = 3 by omega) with rfl | rfl | rfl | rfl <;> rfl) (by decide) dX9_madeOf_46 (fun q_10 => ?_)
    refine j_st (ws' := [(q_10, oC 0 [vI 0, vI 0, vI 0, vI 0])]) rfl rfl rfl ?_
    refine j_dup (pc := 49) C rfl dX9_madeOf_49 ?_
    refine j_iload_n (pc := 50) C 1 1 rfl rfl dX9_madeOf_50 ?_
    refine j_callIv (pc := 51) (As := [vI n]) (na := 1) (st := [.ref q_10]) C [0] [] (wr := []) (fun l => c_X0_init l D Y _ q_10 n ) rfl rfl rfl rfl (by decide) rfl gX9_madeOf_X0_init (List.mem_of_getElem? (i := 9) rfl) (List.mem_of_getElem? (i := 27) rfl) (List.mem_of_getElem? (i := 28) rfl) rfl (by decide +kernel) (by decide) rfl rfl (Nat.le_of_ble_eq_true rfl) (by decide) dX9_madeOf_51 (fun w_12 h_13 => ?_)
    subst h_13
    refine j_perm (ws' := [(q_10, oC 0 [vI n, vI 0, vI 0, vI 0])]) [0] rfl rfl ?_
    exact Rt _ _ _ _ _ (some q_10) (by decide) (by decide) ⟨_, rfl, by rw [pC_3 (P := (kd, n, 0, 0, 0)) (show kd = 3 by omega)]⟩ dX9_madeOf_54
  · refine j_tableD (pc := 1) C 55 (by omega) h_1p1 rfl dX9_madeOf_1 ?_
    refine j_new (pc := 55) (ci := 4) C [vI 0, vI 0, vI 0, vI 0] rfl fX9_madeOf_X5 tyX5_ok (List.mem_of_getElem? (i := 10) rfl) (List.mem_of_getElem? (i := 11) rfl) (List.mem_of_getElem? (i := 12) rfl) (fun j hj => by rcases (show j = 0 ∨ j = 1 ∨ j = 2 ∨ j = 3 by omega) with rfl | rfl | rfl | rfl <;> rfl) (by decide) dX9_madeOf_55 (fun q_14 => ?_)
    refine j_st (ws' := [(q_14, oC 4 [vI 0, vI 0, vI 0, vI 0])]) rfl rfl rfl ?_
    refine j_dup (pc := 58) C rfl dX9_madeOf_58 ?_
    refine j_iload_n (pc := 59) C 1 1 rfl rfl dX9_madeOf_59 ?_
    refine j_callIv (pc := 60) (As := [vI n]) (na := 1) (st := [.ref q_14]) C [0] [] (wr := []) (fun l => c_pin0 l D Y _ q_14 n ) rfl rfl rfl rfl (by decide) rfl gX9_madeOf_X5_init (List.mem_of_getElem? (i := 12) rfl) (List.mem_of_getElem? (i := 31) rfl) (List.mem_of_getElem? (i := 17) rfl) rfl (by decide +kernel) (by decide) rfl rfl (Nat.le_of_ble_eq_true rfl) (by decide) dX9_madeOf_60 (fun w_16 h_17 => ?_)
    subst h_17
    refine j_perm (ws' := [(q_14, oC 4 [vI n, vI 0, vI 0, vI 0])]) [0] rfl rfl ?_
    exact Rt _ _ _ _ _ (some q_14) (by decide) (by decide) ⟨_, rfl, by rw [pC_0 (P := (kd, n, 0, 0, 0)) (show kd = 0 by omega)]⟩ dX9_madeOf_63

theorem fX9_parish_X0 : ∀ w ∈ u_ws RX0 TX0 4, w ∈ wsX9_parish := j_words [61, 62, 63, 64] (by decide +kernel)
theorem fX9_parish_X5 : ∀ w ∈ u_ws RX5 TX5 4, w ∈ wsX9_parish := j_words [65, 66, 67, 68] (by decide +kernel)
theorem fX9_parish_X6 : ∀ w ∈ u_ws RX6 TX6 4, w ∈ wsX9_parish := j_words [69, 70, 71, 72] (by decide +kernel)
theorem fX9_parish_X7 : ∀ w ∈ u_ws RX7 TX7 4, w ∈ wsX9_parish := j_words [73, 74, 75, 76] (by decide +kernel)
theorem fX9_parish_X9 : ∀ w ∈ u_ws RX9 TX9 11, w ∈ wsX9_parish := j_words [50, 51, 52, 53, 54, 55, 56, 57, 58, 59, 60] (by decide +kernel)
set_option maxHeartbeats 4000000 in
set_option maxRecDepth 100000 in
theorem k_parish (l : Launch) (D : va_G) (Y : Nat → ClassId) (RO : va_W) (k : Nat → Nat) (nc : Int) (np : Int) (ik : Int) (pad : Int → Nat) (kd : Int) (n : Int) (w : Int) (x : Int) (z : Int)  (hnp : 0 ≤ np ∧ np ≤ 6) (hkd : -2147483648 ≤ kd ∧ kd ≤ 2147483647) (hn : -2147483648 ≤ n ∧ n ≤ 2147483647) (hw : -2147483648 ≤ w ∧ w ≤ 2147483647) (hx : -2147483648 ≤ x ∧ x ≤ 2147483647) (hz : -2147483648 ≤ z ∧ z ≤ 2147483647) : jMi l yX9_parish wsX9_parish { frames := 5, cells := 1, slots := 4, locals := 96 } D Y RO [.ref (k 0), vI kd, vI n, vI w, vI x, vI z] [((k 0), oC 8 [.ref (k 1), .ref (k 2), vI nc, .ref (k 3), vI np, .ref (k 4), .ref (k 7), vI ik, .ref (k 10), .ref (k 13), .ref (k 14)]), ((k 3), aQ (Y 3) 6 (orow np pad))] (fun e w1 => e = rParish kd n w x z np ∧ ((¬ parOk kd n w x z np ∧ w1 = [((k 0), oC 8 [.ref (k 1), .ref (k 2), vI nc, .ref (k 3), vI np, .ref (k 4), .ref (k 7), vI ik, .ref (k 10), .ref (k 13), .ref (k 14)]), ((k 3), aQ (Y 3) 6 (orow np pad))]) ∨ (parOk kd n w x z np ∧ ∃ q : Nat, w1 = [((k 0), oC 8 [.ref (k 1), .ref (k 2), vI nc, .ref (k 3), vI (np + 1), .ref (k 4), .ref (k 7), vI ik, .ref (k 10), .ref (k 13), .ref (k 14)]), ((k 3), aQ (Y 3) 6 (orow (np + 1) (up pad np q))), pC q (kd, n, w, x, z)]))) := by
  refine j_ofi RX9 rfl rfl rfl (Nat.le_of_ble_eq_true rfl) (fun X C Rt => ?_)
  refine j_iload_n (pc := 0) C 1 1 rfl rfl dX9_parish_0 ?_
  refine j_iload_n (pc := 1) C 2 2 rfl rfl dX9_parish_1 ?_
  refine j_callSi (pc := 2) (As := [vI kd, vI n]) (na := 2) (st := []) C [] [0, 1] (wr := [((k 0), oC 8 [.ref (k 1), .ref (k 2), vI nc, .ref (k 3), vI np, .ref (k 4), .ref (k 7), vI ik, .ref (k 10), .ref (k 13), .ref (k 14)]), ((k 3), aQ (Y 3) 6 (orow np pad))]) (fun l => c_isKindWith l D Y _ kd n (by first | assumption | omega) (by first | assumption | omega)) rfl rfl rfl rfl (by decide) rfl gX9_parish_X9_isKindWith (by decide +kernel) (by decide) rfl rfl (Nat.le_of_ble_eq_true rfl) (by decide) dX9_parish_2 (fun e_1 w_2 h_3 => ?_)
  obtain ⟨rfl, rfl⟩ := h_3
  refine j_perm (ws' := [((k 0), oC 8 [.ref (k 1), .ref (k 2), vI nc, .ref (k 3), vI np, .ref (k 4), .ref (k 7), vI ik, .ref (k 10), .ref (k 13), .ref (k 14)]), ((k 3), aQ (Y 3) 6 (orow np pad))]) [0, 1] rfl rfl ?_
  refine j_if_neb (pc := 5) C 11 rfl dX9_parish_5 (fun h_4p5 => ?_) (fun h_4p5 => ?_)
  · skip
    refine j_iconst (pc := 11) C dX9_parish_11 ?_
    refine j_iload_n (pc := 12) C 3 3 rfl rfl dX9_parish_12 ?_
    refine j_callSi (pc := 13) (As := [vI 2, vI w]) (na := 2) (st := []) C [] [0, 1] (wr := [((k 0), oC 8 [.ref (k 1), .ref (k 2), vI nc, .ref (k 3), vI np, .ref (k 4), .ref (k 7), vI ik, .ref (k 10), .ref (k 13), .ref (k 14)]), ((k 3), aQ (Y 3) 6 (orow np pad))]) (fun l => c_mayBe l D Y _ 2 w (by first | assumption | omega) (by first | assumption | omega)) rfl rfl rfl rfl (by decide) rfl gX9_parish_X9_mayBe (by decide +kernel) (by decide) rfl rfl (Nat.le_of_ble_eq_true rfl) (by decide) dX9_parish_13 (fun e_5 w_6 h_7 => ?_)
    obtain ⟨rfl, rfl⟩ := h_7
    refine j_perm (ws' := [((k 0), oC 8 [.ref (k 1), .ref (k 2), vI nc, .ref (k 3), vI np, .ref (k 4), .ref (k 7), vI ik, .ref (k 10), .ref (k 13), .ref (k 14)]), ((k 3), aQ (Y 3) 6 (orow np pad))]) [0, 1] rfl rfl ?_
    refine j_if_eqb (pc := 16) C 37 rfl dX9_parish_16 (fun h_8p16 => ?_) (fun h_8p16 => ?_)
    · skip
      refine j_bipush (pc := 37) (w := (-102)) C rfl dX9_parish_37 ?_
      exact Rt _ _ _ _ _ _ (by decide) (by decide) (by first | (exact ⟨by unfold rParish; rw [if_neg (not_not_intro (by assumption)), if_pos (by assumption)], Or.inl ⟨fun q => absurd q.1.2.1 (by assumption), rfl⟩⟩) | (exact ⟨by unfold rParish; rw [if_neg (not_not_intro (by assumption)), if_neg (not_not_intro (by assumption)), if_pos (by assumption)], Or.inl ⟨fun q => absurd q.1.2.2.1 (by assumption), rfl⟩⟩) | (exact ⟨by unfold rParish; rw [if_neg (not_not_intro (by assumption)), if_neg (not_not_intro (by assumption)), if_neg (not_not_intro (by assumption)), if_pos (by assumption)], Or.inl ⟨fun q => absurd q.1.2.2.2 (by assumption), rfl⟩⟩)) dX9_parish_39
    · skip
      refine j_iconst (pc := 19) C dX9_parish_19 ?_
      refine j_iload (pc := 20) C 4 rfl dX9_parish_20 ?_
      refine j_callSi (pc := 22) (As := [vI 3, vI x]) (na := 2) (st := []) C [] [0, 1] (wr := [((k 0), oC 8 [.ref (k 1), .ref (k 2), vI nc, .ref (k 3), vI np, .ref (k 4), .ref (k 7), vI ik, .ref (k 10), .ref (k 13), .ref (k 14)]), ((k 3), aQ (Y 3) 6 (orow np pad))]) (fun l => c_mayBe l D Y _ 3 x (by first | assumption | omega) (by first | assumption | omega)) rfl rfl rfl rfl (by decide) rfl gX9_parish_X9_mayBe (by decide +kernel) (by decide) rfl rfl (Nat.le_of_ble_eq_true rfl) (by decide) dX9_parish_22 (fun e_9 w_10 h_11 => ?_)
      obtain ⟨rfl, rfl⟩ := h_11
      refine j_perm (ws' := [((k 0), oC 8 [.ref (k 1), .ref (k 2), vI nc, .ref (k 3), vI np, .ref (k 4), .ref (k 7), vI ik, .ref (k 10), .ref (k 13), .ref (k 14)]), ((k 3), aQ (Y 3) 6 (orow np pad))]) [0, 1] rfl rfl ?_
      refine j_if_eqb (pc := 25) C 37 rfl dX9_parish_25 (fun h_12p25 => ?_) (fun h_12p25 => ?_)
      · skip
        refine j_bipush (pc := 37) (w := (-102)) C rfl dX9_parish_37 ?_
        exact Rt _ _ _ _ _ _ (by decide) (by decide) (by first | (exact ⟨by unfold rParish; rw [if_neg (not_not_intro (by assumption)), if_pos (by assumption)], Or.inl ⟨fun q => absurd q.1.2.1 (by assumption), rfl⟩⟩) | (exact ⟨by unfold rParish; rw [if_neg (not_not_intro (by assumption)), if_neg (not_not_intro (by assumption)), if_pos (by assumption)], Or.inl ⟨fun q => absurd q.1.2.2.1 (by assumption), rfl⟩⟩) | (exact ⟨by unfold rParish; rw [if_neg (not_not_intro (by assumption)), if_neg (not_not_intro (by assumption)), if_neg (not_not_intro (by assumption)), if_pos (by assumption)], Or.inl ⟨fun q => absurd q.1.2.2.2 (by assumption), rfl⟩⟩)) dX9_parish_39
      · skip
        refine j_iconst (pc := 28) C dX9_parish_28 ?_
        refine j_iload (pc := 29) C 5 rfl dX9_parish_29 ?_
        refine j_callSi (pc := 31) (As := [vI 4, vI z]) (na := 2) (st := []) C [] [0, 1] (wr := [((k 0), oC 8 [.ref (k 1), .ref (k 2), vI nc, .ref (k 3), vI np, .ref (k 4), .ref (k 7), vI ik, .ref (k 10), .ref (k 13), .ref (k 14)]), ((k 3), aQ (Y 3) 6 (orow np pad))]) (fun l => c_mayBe l D Y _ 4 z (by first | assumption | omega) (by first | assumption | omega)) rfl rfl rfl rfl (by decide) rfl gX9_parish_X9_mayBe (by decide +kernel) (by decide) rfl rfl (Nat.le_of_ble_eq_true rfl) (by decide) dX9_parish_31 (fun e_13 w_14 h_15 => ?_)
        obtain ⟨rfl, rfl⟩ := h_15
        refine j_perm (ws' := [((k 0), oC 8 [.ref (k 1), .ref (k 2), vI nc, .ref (k 3), vI np, .ref (k 4), .ref (k 7), vI ik, .ref (k 10), .ref (k 13), .ref (k 14)]), ((k 3), aQ (Y 3) 6 (orow np pad))]) [0, 1] rfl rfl ?_
        refine j_if_neb (pc := 34) C 40 rfl dX9_parish_34 (fun h_16p34 => ?_) (fun h_16p34 => ?_)
        · skip
          refine j_aload_n (pc := 40) C 0 0 rfl rfl dX9_parish_40 ?_
          refine j_get (pc := 41) C (Or.inl (List.mem_of_getElem? (i := 0) rfl)) rfl fX9_parish_X9 4 (by decide) (List.mem_of_getElem? (i := 1) rfl) (Or.inl rfl) rfl dX9_parish_41 ?_
          refine j_if_lt (pc := 44) C 56 rfl (by omega) dX9_parish_44 (fun h_17p44 => ?_) (fun h_17p44 => ?_)
          · skip
            refine j_bipush (pc := 56) (w := (-104)) C rfl dX9_parish_56 ?_
            exact Rt _ _ _ _ _ _ (by decide) (by decide) ⟨by unfold rParish; rw [if_neg (not_not_intro (by assumption)), if_neg (not_not_intro (by assumption)), if_neg (not_not_intro (by assumption)), if_neg (not_not_intro (by assumption)), if_pos (by omega)], Or.inl ⟨fun q => absurd q.2 (by omega), rfl⟩⟩ dX9_parish_58
          · skip
            refine j_aload_n (pc := 47) C 0 0 rfl rfl dX9_parish_47 ?_
            refine j_get (pc := 48) C (Or.inl (List.mem_of_getElem? (i := 0) rfl)) rfl fX9_parish_X9 4 (by decide) (List.mem_of_getElem? (i := 1) rfl) (Or.inl rfl) rfl dX9_parish_48 ?_
            refine j_bipush (pc := 51) (w := 6) C rfl dX9_parish_51 ?_
            refine j_icmp_lt (pc := 53) C 59 rfl (by omega) dX9_parish_53 (fun h_18p53 => ?_) (fun h_18p53 => ?_)
            · skip
              have hmk : (0 ≤ kd ∧ kd ≤ 3) ∧ True := ⟨kwP_k (by assumption), trivial⟩
              refine j_iload_n (pc := 59) C 1 1 rfl rfl dX9_parish_59 ?_
              refine j_iload_n (pc := 60) C 2 2 rfl rfl dX9_parish_60 ?_
              refine j_callSr (pc := 61) (As := [vI kd, vI n]) (na := 2) (st := []) C [] [0, 1] (wr := [((k 0), oC 8 [.ref (k 1), .ref (k 2), vI nc, .ref (k 3), vI np, .ref (k 4), .ref (k 7), vI ik, .ref (k 10), .ref (k 13), .ref (k 14)]), ((k 3), aQ (Y 3) 6 (orow np pad))]) (fun l => c_madeOf l D Y _ kd n (kwP_k (by assumption)) (by first | assumption | omega)) rfl rfl rfl rfl (by decide) rfl gX9_parish_X9_madeOf (by decide +kernel) (by decide) rfl rfl (Nat.le_of_ble_eq_true rfl) (by decide) dX9_parish_61 (fun e_19 w_20 h_21 => ?_)
              obtain ⟨q_22, rfl, rfl⟩ := h_21
              refine j_perm (ws' := [((k 0), oC 8 [.ref (k 1), .ref (k 2), vI nc, .ref (k 3), vI np, .ref (k 4), .ref (k 7), vI ik, .ref (k 10), .ref (k 13), .ref (k 14)]), ((k 3), aQ (Y 3) 6 (orow np pad)), pC q_22 (kd, n, 0, 0, 0)]) [0, 1, 2] rfl rfl ?_
              refine j_astore (pc := 64) (lc' := [(6, .ref q_22), (0, .ref (k 0)), (1, vI kd), (2, vI n), (3, vI w), (4, vI x), (5, vI z)]) C (by decide) rfl dX9_parish_64 ?_
              refine j_aload (pc := 66) C 0 rfl dX9_parish_66 ?_
              refine j_iload_n (pc := 68) C 3 4 rfl rfl dX9_parish_68 ?_
              refine j_putP (pc := 69) (P' := (stW (kd, n, 0, 0, 0) w)) (ws' := [((k 0), oC 8 [.ref (k 1), .ref (k 2), vI nc, .ref (k 3), vI np, .ref (k 4), .ref (k 7), vI ik, .ref (k 10), .ref (k 13), .ref (k 14)]), ((k 3), aQ (Y 3) 6 (orow np pad)), pC q_22 (stW (kd, n, 0, 0, 0) w)]) C 2 rfl hmk.1 rfl fX9_parish_X5 fX9_parish_X6 fX9_parish_X7 fX9_parish_X0 1 (by decide) (by decide) (List.mem_of_getElem? (i := 2) rfl) (Or.inl rfl) rfl rfl dX9_parish_69 ?_
              refine j_aload (pc := 72) C 0 rfl dX9_parish_72 ?_
              refine j_iload (pc := 74) C 5 rfl dX9_parish_74 ?_
              refine j_putP (pc := 76) (P' := (stI (stW (kd, n, 0, 0, 0) w) x)) (ws' := [((k 0), oC 8 [.ref (k 1), .ref (k 2), vI nc, .ref (k 3), vI np, .ref (k 4), .ref (k 7), vI ik, .ref (k 10), .ref (k 13), .ref (k 14)]), ((k 3), aQ (Y 3) 6 (orow np pad)), pC q_22 (stI (stW (kd, n, 0, 0, 0) w) x)]) C 2 rfl hmk.1 rfl fX9_parish_X5 fX9_parish_X6 fX9_parish_X7 fX9_parish_X0 2 (by decide) (by decide) (List.mem_of_getElem? (i := 3) rfl) (Or.inl rfl) rfl rfl dX9_parish_76 ?_
              refine j_aload (pc := 79) C 0 rfl dX9_parish_79 ?_
              refine j_iload (pc := 81) C 6 rfl dX9_parish_81 ?_
              refine j_putP (pc := 83) (P' := (stZ (stI (stW (kd, n, 0, 0, 0) w) x) z)) (ws' := [((k 0), oC 8 [.ref (k 1), .ref (k 2), vI nc, .ref (k 3), vI np, .ref (k 4), .ref (k 7), vI ik, .ref (k 10), .ref (k 13), .ref (k 14)]), ((k 3), aQ (Y 3) 6 (orow np pad)), pC q_22 (stZ (stI (stW (kd, n, 0, 0, 0) w) x) z)]) C 2 rfl hmk.1 rfl fX9_parish_X5 fX9_parish_X6 fX9_parish_X7 fX9_parish_X0 3 (by decide) (by decide) (List.mem_of_getElem? (i := 4) rfl) (Or.inl rfl) rfl rfl dX9_parish_83 ?_
              refine j_aload_n (pc := 86) C 0 1 rfl rfl dX9_parish_86 ?_
              refine j_get (pc := 87) C (Or.inl (List.mem_of_getElem? (i := 0) rfl)) rfl fX9_parish_X9 3 (by decide) (List.mem_of_getElem? (i := 5) rfl) (Or.inl rfl) rfl dX9_parish_87 ?_
              refine j_aload_n (pc := 90) C 0 1 rfl rfl dX9_parish_90 ?_
              refine j_get (pc := 91) C (Or.inl (List.mem_of_getElem? (i := 0) rfl)) rfl fX9_parish_X9 4 (by decide) (List.mem_of_getElem? (i := 1) rfl) (Or.inl rfl) rfl dX9_parish_91 ?_
              refine j_aload (pc := 94) C 0 rfl dX9_parish_94 ?_
              refine j_aastP (pc := 96) (ws' := [((k 0), oC 8 [.ref (k 1), .ref (k 2), vI nc, .ref (k 3), vI np, .ref (k 4), .ref (k 7), vI ik, .ref (k 10), .ref (k 13), .ref (k 14)]), ((k 3), aQ (Y 3) 6 (up (orow np pad) np (some q_22))), pC q_22 (stZ (stI (stW (kd, n, 0, 0, 0) w) x) z)]) C 1 2 rfl rfl rfl hmk.1 (by omega) (by decide) rfl dX9_parish_96 ?_
              refine j_aload_n (pc := 97) C 0 1 rfl rfl dX9_parish_97 ?_
              refine j_dup (pc := 98) C rfl dX9_parish_98 ?_
              refine j_get (pc := 99) C (Or.inl (List.mem_of_getElem? (i := 0) rfl)) rfl fX9_parish_X9 4 (by decide) (List.mem_of_getElem? (i := 1) rfl) (Or.inl rfl) rfl dX9_parish_99 ?_
              refine j_iconst (pc := 102) C dX9_parish_102 ?_
              refine j_iadd (pc := 103) C dX9_parish_103 ?_
              refine j_put (pc := 104) (ws' := [((k 0), oC 8 [.ref (k 1), .ref (k 2), vI nc, .ref (k 3), vI (np + 1), .ref (k 4), .ref (k 7), vI ik, .ref (k 10), .ref (k 13), .ref (k 14)]), ((k 3), aQ (Y 3) 6 (up (orow np pad) np (some q_22))), pC q_22 (stZ (stI (stW (kd, n, 0, 0, 0) w) x) z)]) C 0 rfl rfl fX9_parish_X9 tyX9_ok nmX9 4 (by decide) (List.mem_of_getElem? (i := 1) rfl) (Or.inl rfl) rfl rfl rfl rfl (Nat.le_of_ble_eq_true rfl) rfl dX9_parish_104 ?_
              refine j_aload_n (pc := 107) C 0 1 rfl rfl dX9_parish_107 ?_
              refine j_get (pc := 108) C (Or.inl (List.mem_of_getElem? (i := 0) rfl)) rfl fX9_parish_X9 4 (by decide) (List.mem_of_getElem? (i := 1) rfl) (Or.inl rfl) rfl dX9_parish_108 ?_
              refine j_iconst (pc := 111) C dX9_parish_111 ?_
              refine j_isub (pc := 112) C dX9_parish_112 ?_
              exact Rt _ _ _ _ _ _ (by decide) (by decide) ⟨by unfold rParish; rw [if_neg (not_not_intro (by assumption)), if_neg (not_not_intro (by assumption)), if_neg (not_not_intro (by assumption)), if_neg (not_not_intro (by assumption)), if_neg (by omega)]; first | done | omega, Or.inr ⟨⟨⟨by assumption, by assumption, by assumption, by assumption⟩, by omega⟩, _, by rw [← orow_push (by omega)]; first | done | rfl⟩⟩ dX9_parish_113
            · skip
              refine j_bipush (pc := 56) (w := (-104)) C rfl dX9_parish_56 ?_
              exact Rt _ _ _ _ _ _ (by decide) (by decide) ⟨by unfold rParish; rw [if_neg (not_not_intro (by assumption)), if_neg (not_not_intro (by assumption)), if_neg (not_not_intro (by assumption)), if_neg (not_not_intro (by assumption)), if_pos (by omega)], Or.inl ⟨fun q => absurd q.2 (by omega), rfl⟩⟩ dX9_parish_58
        · skip
          refine j_bipush (pc := 37) (w := (-102)) C rfl dX9_parish_37 ?_
          exact Rt _ _ _ _ _ _ (by decide) (by decide) (by first | (exact ⟨by unfold rParish; rw [if_neg (not_not_intro (by assumption)), if_pos (by assumption)], Or.inl ⟨fun q => absurd q.1.2.1 (by assumption), rfl⟩⟩) | (exact ⟨by unfold rParish; rw [if_neg (not_not_intro (by assumption)), if_neg (not_not_intro (by assumption)), if_pos (by assumption)], Or.inl ⟨fun q => absurd q.1.2.2.1 (by assumption), rfl⟩⟩) | (exact ⟨by unfold rParish; rw [if_neg (not_not_intro (by assumption)), if_neg (not_not_intro (by assumption)), if_neg (not_not_intro (by assumption)), if_pos (by assumption)], Or.inl ⟨fun q => absurd q.1.2.2.2 (by assumption), rfl⟩⟩)) dX9_parish_39
  · skip
    refine j_bipush (pc := 8) (w := (-102)) C rfl dX9_parish_8 ?_
    exact Rt _ _ _ _ _ _ (by decide) (by decide) (by exact ⟨by unfold rParish; rw [if_pos (by assumption)], Or.inl ⟨fun q => absurd q.1.1 (by assumption), rfl⟩⟩) dX9_parish_10
