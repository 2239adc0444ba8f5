set_option maxHeartbeats 4000000 in
set_option maxRecDepth 100000 in
theorem l_week (l : Launch) (D : va_G) (Y : Nat → ClassId) (RO : va_W) (hh : Nat) (km : Nat) (ho : Nat) (S : MS) (mk : Int → Int) (hw : Int → Int) (wa : Nat) (who : Int → Int) (ca : Nat) (cu : Int → Int) (sa : Nat) (sd : Int → Int) (np : Int) (ps : Int → PT) (Cu : CT) (w0 : (wa, aI (Y 0) 30 who) ∈ RO) (c0 : (ca, aI (Y 0) 3 cu) ∈ RO) (hS : okS S) (hLR : LR S mk hw) (hsd : sd 0 = ms_s S) (hwk : ms_w S ≤ 10000) (hC : okC Cu) (hnp : 0 ≤ np ∧ np ≤ 6) (hps : ∀ i, 0 ≤ i ∧ i < np → okP (ps i)) (hwho : RWho np ps who) (hcu : RCu Cu cu) : jMv l yL_week wsL_week { frames := 1, cells := 0, slots := 0, locals := 25 } D Y RO [.ref wa, vI np, .ref ca, .ref hh, .ref km, .ref ho, .ref sa] [(hh, aI (Y 0) 7 (ms_h S)), (km, aI (Y 0) 63 mk), (ho, aI (Y 0) 7 hw), (sa, aL (Y 1) 1 sd)] (fun w1 => ∃ (mk1 : Int → Int) (hw1 : Int → Int) (sd1 : Int → Int), LR ((goS Cu ps np S)) mk1 hw1 ∧ sd1 0 = ms_s (goS Cu ps np S) ∧ w1 = [(hh, aI (Y 0) 7 (ms_h ((goS Cu ps np S)))), (km, aI (Y 0) 63 mk1), (ho, aI (Y 0) 7 hw1), (sa, aL (Y 1) 1 sd1)]) := by
  refine j_ofv RL rfl rfl rfl (Nat.le_of_ble_eq_true rfl) (fun X C Rt hI => ?_)
  have hW0 := hS.w
  have hC1 : 0 ≤ cw Cu ∧ cw Cu ≤ 10 := hC.1
  have hC2 : 0 ≤ cz Cu ∧ cz Cu ≤ 10 := hC.2.1
  have hC3 := hC.2.2
  refine j_aload (pc := 0) C 5 rfl dL_week_0 ?_
  refine j_iconst (pc := 2) C dL_week_2 ?_
  refine j_dup2 (pc := 3) C rfl rfl dL_week_3 ?_
  refine j_iald (pc := 4) C (Or.inl (List.mem_of_getElem? (i := 2) rfl)) rfl (by omega) (by decide) dL_week_4 ?_
  refine j_iconst (pc := 5) C dL_week_5 ?_
  refine j_iadd (pc := 6) C dL_week_6 ?_
  refine j_iast (pc := 7) (ws' := [(hh, aI (Y 0) 7 (ms_h S)), (km, aI (Y 0) 63 mk), (ho, aI (Y 0) 7 (up hw 0 (hw 0 + 1))), (sa, aL (Y 1) 1 sd)]) C 2 rfl rfl (by omega) (by decide) rfl dL_week_7 ?_
  refine j_st (ws' := [(hh, aI (Y 0) 7 (ms_h (setW S (ms_w S + 1)))), (km, aI (Y 0) 63 mk), (ho, aI (Y 0) 7 (up hw 0 (hw 0 + 1))), (sa, aL (Y 1) 1 sd)]) rfl rfl rfl ?_
  refine j_iconst (pc := 8) C dL_week_8 ?_
  refine j_istore (pc := 9) (lc' := [(7, vI 0), (0, .ref wa), (1, vI np), (2, .ref ca), (3, .ref hh), (4, .ref km), (5, .ref ho), (6, .ref sa)]) C (by decide) rfl dL_week_9 ?_
  have hL11 : ∀ (N11 : Nat) (p : Int) (T : MS) (mk2 : Int → Int) (hw2 : Int → Int) (sd2 : Int → Int), ((np - p).toNat) < N11 → (0 ≤ p ∧ p ≤ np) → (T = fo (fun p T => parS Cu (ps p) p (pw (ps p)) T) p (setW S (ms_w S + 1))) → (okS T ∧ ms_w T = ms_w S + 1) → (LR T mk2 hw2) → (sd2 0 = ms_s T) → jW X 12 0 0 [(hh, aI (Y 0) 7 (ms_h T)), (km, aI (Y 0) 63 mk2), (ho, aI (Y 0) 7 hw2), (sa, aL (Y 1) 1 sd2)] [(0, .ref wa), (1, vI np), (2, .ref ca), (3, .ref hh), (4, .ref km), (5, .ref ho), (6, .ref sa), (7, vI p)] 11 [] := by
    intro N11
    induction N11 with
    | zero => intro p T mk2 hw2 sd2 hm11 i11_0 i11_1 i11_2 i11_3 i11_4; omega
    | succ N11 ih11 =>
      intro p T mk2 hw2 sd2 hm11 i11_0 i11_1 i11_2 i11_3 i11_4
      refine j_iload (pc := 11) C 7 rfl dL_week_11 ?_
      refine j_iload_n (pc := 13) C 1 1 rfl rfl dL_week_13 ?_
      refine j_icmp_ge (pc := 14) C 286 rfl (by omega) dL_week_14 (fun h_1p14 => ?_) (fun h_1p14 => ?_)
      · skip
        refine j_aload_n (pc := 286) C 2 2 rfl rfl dL_week_286 ?_
        refine j_iconst (pc := 287) C dL_week_287 ?_
        refine j_iald (pc := 288) C (Or.inr c0) rfl (by omega) (by decide) dL_week_288 ?_
        refine j_st (st' := [vI (ce Cu)]) rfl rfl (congrArg (fun z => vI z :: []) (show cu 2 = (ce Cu) from hcu.2.2)) ?_
        refine j_if_le (pc := 289) C 344 rfl (by omega) dL_week_289 (fun h_2p289 => ?_) (fun h_2p289 => ?_)
        · skip
          have eA : allS Cu ps np (setW S (ms_w S + 1)) = T := by unfold allS; rw [show np = p by omega]; exact i11_1.symm
          have eG : goS Cu ps np S = T := by unfold goS; rw [eA]; unfold floodS; rw [if_neg (fun q => by have := q.1; have := q.2; omega)]
          exact Rt _ _ _ _ _ (by decide) (by decide) ⟨_, _, _, by rw [eG]; exact i11_3, by rw [eG]; exact i11_4, by rw [eG]⟩ dL_week_344
        · skip
          refine j_aload (pc := 292) C 5 rfl dL_week_292 ?_
          refine j_iconst (pc := 294) C dL_week_294 ?_
          refine j_iald (pc := 295) C (Or.inl (List.mem_of_getElem? (i := 2) rfl)) rfl (by omega) (by decide) dL_week_295 ?_
          refine j_st (st' := [vI (ms_w T)]) rfl rfl (congrArg (fun z => vI z :: []) (show hw2 0 = (ms_w T) from i11_3.2.1.1)) ?_
          refine j_aload_n (pc := 296) C 2 2 rfl rfl dL_week_296 ?_
          refine j_iconst (pc := 297) C dL_week_297 ?_
          refine j_iald (pc := 298) C (Or.inr c0) rfl (by omega) (by decide) dL_week_298 ?_
          refine j_st (st' := [vI (ce Cu), vI (ms_w T)]) rfl rfl (congrArg (fun z => vI z :: [vI (ms_w T)]) (show cu 2 = (ce Cu) from hcu.2.2)) ?_
          have hTw := i11_2.1.w
          refine j_irem (pc := 299) C (by omega) dL_week_299 ?_
          refine j_if_ne (pc := 300) C 344 rfl (by have := Int.emod_nonneg (ms_w T) (b := ce Cu) (by omega); have := Int.emod_lt_of_pos (ms_w T) (show 0 < ce Cu by omega); omega) dL_week_300 (fun h_3p300 => ?_) (fun h_3p300 => ?_)
          · skip
            have eA : allS Cu ps np (setW S (ms_w S + 1)) = T := by unfold allS; rw [show np = p by omega]; exact i11_1.symm
            have eG : goS Cu ps np S = T := by unfold goS; rw [eA]; unfold floodS; rw [if_neg (fun q => by have := q.1; have := q.2; omega)]
            exact Rt _ _ _ _ _ (by decide) (by decide) ⟨_, _, _, by rw [eG]; exact i11_3, by rw [eG]; exact i11_4, by rw [eG]⟩ dL_week_344
          · skip
            refine j_bipush (pc := 303) (w := 8) C rfl dL_week_303 ?_
            refine j_aload_n (pc := 305) C 3 3 rfl rfl dL_week_305 ?_
            refine j_iconst (pc := 306) C dL_week_306 ?_
            refine j_iconst (pc := 307) C dL_week_307 ?_
            refine j_callSi (pc := 308) (As := [vI 8, .ref hh, vI 0, vI 0]) (na := 4) (st := []) C [] [0, 1, 2, 3] (wr := [(hh, aI (Y 0) 7 (ms_h T)), (km, aI (Y 0) 63 mk2), (ho, aI (Y 0) 7 hw2), (sa, aL (Y 1) 1 sd2)]) (fun l => l_rule l D Y _ hh (ms_h T) 8 0 0 (List.mem_append_left _ (List.mem_of_getElem? (i := 0) rfl)) (by omega) (fun i hi => i11_2.1.1 i hi) (by omega) (by omega)) rfl rfl rfl rfl (by decide) rfl gL_week_L_rule (by decide +kernel) (by decide) rfl rfl (Nat.le_of_ble_eq_true rfl) (by decide) dL_week_308 (fun e_4 w_5 h_6 => ?_)
            obtain ⟨rfl, rfl⟩ := h_6
            refine j_perm (ws' := [(hh, aI (Y 0) 7 (ms_h T)), (km, aI (Y 0) 63 mk2), (ho, aI (Y 0) 7 hw2), (sa, aL (Y 1) 1 sd2)]) [0, 1, 2, 3] rfl rfl ?_
            refine j_st (st' := [vI (leastI (ms_h T))]) rfl rfl (congrArg (fun z => vI z :: []) (show (ruleL 8 (ms_h T) 0 0) = (leastI (ms_h T)) from by unfold ruleL; rw [if_neg (by decide), if_pos rfl])) ?_
            obtain ⟨c3, ec3⟩ : ∃ z : Int, (leastI (ms_h T)) = z := ⟨_, rfl⟩
            refine j_st (st' := [vI c3]) rfl rfl (congrArg (fun z => vI z :: []) ec3) ?_
            have hc3 := leastI_in (ms_h T)
            rw [ec3] at hc3
            refine j_istore (pc := 311) (lc' := [(7, vI c3), (0, .ref wa), (1, vI np), (2, .ref ca), (3, .ref hh), (4, .ref km), (5, .ref ho), (6, .ref sa)]) C (by decide) rfl dL_week_311 ?_
            refine j_aload_n (pc := 313) C 3 4 rfl rfl dL_week_313 ?_
            refine j_iload (pc := 314) C 0 rfl dL_week_314 ?_
            refine j_iald (pc := 316) C (Or.inl (List.mem_of_getElem? (i := 0) rfl)) rfl (by omega) (by decide) dL_week_316 ?_
            have f_7 := i11_2.1.1 c3 (by omega)
            refine j_aload_n (pc := 317) C 3 4 rfl rfl dL_week_317 ?_
            refine j_iload (pc := 318) C 0 rfl dL_week_318 ?_
            refine j_iald (pc := 320) C (Or.inl (List.mem_of_getElem? (i := 0) rfl)) rfl (by omega) (by decide) dL_week_320 ?_
            have f_8 := i11_2.1.1 c3 (by omega)
            refine j_iconst (pc := 321) C dL_week_321 ?_
            refine j_idiv (pc := 322) C (by omega) dL_week_322 ?_
            refine j_isub (pc := 323) C dL_week_323 ?_
            refine j_st (st' := [vI ((ms_h T c3 + 1) / 2)]) rfl rfl (congrArg (fun z => vI z :: []) (show (ms_h T c3 - (ms_h T c3 / 2)) = ((ms_h T c3 + 1) / 2) from by omega)) ?_
            refine j_istore (pc := 324) (lc' := [(8, vI ((ms_h T c3 + 1) / 2)), (7, vI c3), (0, .ref wa), (1, vI np), (2, .ref ca), (3, .ref hh), (4, .ref km), (5, .ref ho), (6, .ref sa)]) C (by decide) rfl dL_week_324 ?_
            refine j_aload_n (pc := 326) C 3 5 rfl rfl dL_week_326 ?_
            refine j_iload (pc := 327) C 1 rfl dL_week_327 ?_
            refine j_dup2 (pc := 329) C rfl rfl dL_week_329 ?_
            refine j_iald (pc := 330) C (Or.inl (List.mem_of_getElem? (i := 0) rfl)) rfl (by omega) (by decide) dL_week_330 ?_
            have f_9 := i11_2.1.1 c3 (by omega)
            refine j_iload (pc := 331) C 0 rfl dL_week_331 ?_
            refine j_isub (pc := 333) C dL_week_333 ?_
            refine j_iast (pc := 334) (ws' := [(hh, aI (Y 0) 7 (up (ms_h T) c3 (ms_h T c3 - ((ms_h T c3 + 1) / 2)))), (km, aI (Y 0) 63 mk2), (ho, aI (Y 0) 7 hw2), (sa, aL (Y 1) 1 sd2)]) C 0 rfl rfl (by omega) (by decide) rfl dL_week_334 ?_
            refine j_aload (pc := 335) C 7 rfl dL_week_335 ?_
            refine j_iconst (pc := 337) C dL_week_337 ?_
            refine j_dup2 (pc := 338) C rfl rfl dL_week_338 ?_
            refine j_iald (pc := 339) C (Or.inl (List.mem_of_getElem? (i := 2) rfl)) rfl (by omega) (by decide) dL_week_339 ?_
            refine j_iload (pc := 340) C 0 rfl dL_week_340 ?_
            refine j_iadd (pc := 342) C dL_week_342 ?_
            refine j_iast (pc := 343) (ws' := [(hh, aI (Y 0) 7 (up (ms_h T) c3 (ms_h T c3 - ((ms_h T c3 + 1) / 2)))), (km, aI (Y 0) 63 mk2), (ho, aI (Y 0) 7 (up hw2 3 (hw2 3 + ((ms_h T c3 + 1) / 2)))), (sa, aL (Y 1) 1 sd2)]) C 2 rfl rfl (by omega) (by decide) rfl dL_week_343 ?_
            have eA : allS Cu ps np (setW S (ms_w S + 1)) = T := by unfold allS; rw [show np = p by omega]; exact i11_1.symm
            have eG : goS Cu ps np S = takeS c3 ((ms_h T c3 + 1) / 2) T := by unfold goS; rw [eA]; unfold floodS; rw [if_pos ⟨by omega, by omega⟩]; unfold drownS; rw [ec3]
            have eo : offS c3 ((ms_h T c3 + 1) / 2) T = (ms_h T c3 + 1) / 2 := by unfold offS; rw [if_neg (by omega)]
            have hT3 := LR_take (c := c3) (n := (ms_h T c3 + 1) / 2) (S := T) (by omega) i11_3
            rw [eo] at hT3
            exact Rt _ _ _ _ _ (by decide) (by decide) ⟨_, _, _, by rw [eG]; exact hT3, by rw [eG]; exact i11_4, by rw [eG]; unfold takeS; rw [eo]; first | done | rfl⟩ dL_week_344
      · skip
        have hPp := hps p ⟨by omega, by omega⟩
        have hw5 := hwho p (by omega) (by omega)
        obtain ⟨hP1, hP2, hP3, hP4, hP5, hP6, hP7⟩ := id hPp
        refine j_aload_n (pc := 17) C 0 0 rfl rfl dL_week_17 ?_
        refine j_iconst (pc := 18) C dL_week_18 ?_
        refine j_iload (pc := 19) C 7 rfl dL_week_19 ?_
        refine j_imul (pc := 21) C dL_week_21 ?_
        refine j_iald (pc := 22) C (Or.inr w0) rfl (by omega) (by decide) dL_week_22 ?_
        refine j_st (st' := [vI (pk (ps p))]) rfl rfl (congrArg (fun z => vI z :: []) (show who (5 * p) = pk (ps p) from hw5.1)) ?_
        refine j_istore (pc := 23) (lc' := [(8, vI (pk (ps p))), (0, .ref wa), (1, vI np), (2, .ref ca), (3, .ref hh), (4, .ref km), (5, .ref ho), (6, .ref sa), (7, vI p)]) C (by decide) rfl dL_week_23 ?_
        refine j_iconst (pc := 25) C dL_week_25 ?_
        refine j_istore (pc := 26) (lc' := [(9, vI 0), (8, vI (pk (ps p))), (0, .ref wa), (1, vI np), (2, .ref ca), (3, .ref hh), (4, .ref km), (5, .ref ho), (6, .ref sa), (7, vI p)]) C (by decide) rfl dL_week_26 ?_
        have hL28 : ∀ (N28 : Nat) (kx : Int) (U : MS) (mk3 : Int → Int) (hw3 : Int → Int) (sd3 : Int → Int), ((pw (ps p) - kx).toNat) < N28 → (0 ≤ kx ∧ kx ≤ pw (ps p)) → (U = parS Cu (ps p) p kx T) → (okS U ∧ ms_w U = ms_w S + 1) → (LR U mk3 hw3) → (sd3 0 = ms_s U) → jW X 12 0 0 [(hh, aI (Y 0) 7 (ms_h U)), (km, aI (Y 0) 63 mk3), (ho, aI (Y 0) 7 hw3), (sa, aL (Y 1) 1 sd3)] [(0, .ref wa), (1, vI np), (2, .ref ca), (3, .ref hh), (4, .ref km), (5, .ref ho), (6, .ref sa), (7, vI p), (8, vI (pk (ps p))), (9, vI kx)] 28 [] := by
          intro N28
          induction N28 with
          | zero => intro kx U mk3 hw3 sd3 hm28 i28_0 i28_1 i28_2 i28_3 i28_4; omega
          | succ N28 ih28 =>
            intro kx U mk3 hw3 sd3 hm28 i28_0 i28_1 i28_2 i28_3 i28_4
            refine j_iload (pc := 28) C 9 rfl dL_week_28 ?_
            refine j_aload_n (pc := 30) C 0 0 rfl rfl dL_week_30 ?_
            refine j_iconst (pc := 31) C dL_week_31 ?_
            refine j_iload (pc := 32) C 7 rfl dL_week_32 ?_
            refine j_imul (pc := 34) C dL_week_34 ?_
            refine j_iconst (pc := 35) C dL_week_35 ?_
            refine j_iadd (pc := 36) C dL_week_36 ?_
            refine j_iald (pc := 37) C (Or.inr w0) rfl (by omega) (by decide) dL_week_37 ?_
            refine j_st (st' := [vI (pw (ps p)), vI kx]) rfl rfl (congrArg (fun z => vI z :: [vI kx]) (show who ((5 * p) + 2) = pw (ps p) from hw5.2.2.1)) ?_
            refine j_icmp_ge (pc := 38) C 280 rfl (by omega) dL_week_38 (fun h_10p38 => ?_) (fun h_10p38 => ?_)
            · skip
              refine j_iinc (pc := 280) (lc' := [(7, vI (p + 1)), (0, .ref wa), (1, vI np), (2, .ref ca), (3, .ref hh), (4, .ref km), (5, .ref ho), (6, .ref sa), (8, vI (pk (ps p))), (9, vI kx)]) C 7 rfl (by decide) rfl dL_week_280 ?_
              refine j_goto (pc := 283) C 11 rfl dL_week_283 ?_
              refine j_locals (lc' := [(0, .ref wa), (1, vI np), (2, .ref ca), (3, .ref hh), (4, .ref km), (5, .ref ho), (6, .ref sa), (7, vI (p + 1))]) [1, 2, 3, 4, 5, 6, 7, 0] rfl ?_
              exact ih11 (p + 1) U mk3 hw3 sd3 (by omega) (by omega) (by rw [fo_succ _ (n := p) (by omega), ← i11_1, i28_1, show kx = pw (ps p) by omega]) i28_2 i28_3 i28_4
            · skip
              refine j_aload (pc := 41) C 5 rfl dL_week_41 ?_
              refine j_aload (pc := 43) C 6 rfl dL_week_43 ?_
              refine j_callSi (pc := 45) (As := [.ref ho, .ref sa]) (na := 2) (st := []) C [3] [0, 1, 2] (wr := [(hh, aI (Y 0) 7 (ms_h U)), (km, aI (Y 0) 63 mk3), (ho, aI (Y 0) 7 hw3)]) (fun l => l_draw l D Y _ ho sa sd3 U i28_2.1 i28_4) rfl rfl rfl rfl (by decide) rfl gL_week_L_draw (by decide +kernel) (by decide) rfl rfl (Nat.le_of_ble_eq_true rfl) (by decide) dL_week_45 (fun e_11 w_12 h_13 => ?_)
              obtain ⟨rfl, sd1_14, qsd1_14, rfl⟩ := h_13
              refine j_perm (ws' := [(hh, aI (Y 0) 7 (ms_h U)), (km, aI (Y 0) 63 mk3), (ho, aI (Y 0) 7 hw3), (sa, aL (Y 1) 1 sd1_14)]) [0, 1, 2, 3] rfl rfl ?_
              have hU1 := okS_draw i28_2.1
              have hd1 := drawV_in hU1
              refine j_aload_n (pc := 48) C 0 0 rfl rfl dL_week_48 ?_
              refine j_iconst (pc := 49) C dL_week_49 ?_
              refine j_iload (pc := 50) C 7 rfl dL_week_50 ?_
              refine j_imul (pc := 52) C dL_week_52 ?_
              refine j_iconst (pc := 53) C dL_week_53 ?_
              refine j_iadd (pc := 54) C dL_week_54 ?_
              refine j_iald (pc := 55) C (Or.inr w0) rfl (by omega) (by decide) dL_week_55 ?_
              refine j_st (st' := [vI (pi (ps p)), vI (drawV (drawS U))]) rfl rfl (congrArg (fun z => vI z :: [vI (drawV (drawS U))]) (show who ((5 * p) + 3) = pi (ps p) from hw5.2.2.2.1)) ?_
              refine j_icmp_ge (pc := 56) C 140 rfl (by omega) dL_week_56 (fun h_15p56 => ?_) (fun h_15p56 => ?_)
              · skip
                refine j_aload (pc := 140) C 5 rfl dL_week_140 ?_
                refine j_aload (pc := 142) C 6 rfl dL_week_142 ?_
                refine j_callSi (pc := 144) (As := [.ref ho, .ref sa]) (na := 2) (st := []) C [3] [0, 1, 2] (wr := [(hh, aI (Y 0) 7 (ms_h U)), (km, aI (Y 0) 63 mk3), (ho, aI (Y 0) 7 hw3)]) (fun l => l_draw l D Y _ ho sa sd1_14 (drawS U) hU1 qsd1_14) rfl rfl rfl rfl (by decide) rfl gL_week_L_draw (by decide +kernel) (by decide) rfl rfl (Nat.le_of_ble_eq_true rfl) (by decide) dL_week_144 (fun e_16 w_17 h_18 => ?_)
                obtain ⟨rfl, sd1_19, qsd1_19, rfl⟩ := h_18
                refine j_perm (ws' := [(hh, aI (Y 0) 7 (ms_h U)), (km, aI (Y 0) 63 mk3), (ho, aI (Y 0) 7 hw3), (sa, aL (Y 1) 1 sd1_19)]) [0, 1, 2, 3] rfl rfl ?_
                have hU2 := okS_draw hU1
                have hd2 := drawV_in hU2
                refine j_aload_n (pc := 147) C 0 0 rfl rfl dL_week_147 ?_
                refine j_iconst (pc := 148) C dL_week_148 ?_
                refine j_iload (pc := 149) C 7 rfl dL_week_149 ?_
                refine j_imul (pc := 151) C dL_week_151 ?_
                refine j_iconst (pc := 152) C dL_week_152 ?_
                refine j_iadd (pc := 153) C dL_week_153 ?_
                refine j_iald (pc := 154) C (Or.inr w0) rfl (by omega) (by decide) dL_week_154 ?_
                refine j_st (st' := [vI (pz (ps p)), vI (drawV (drawS (drawS U)))]) rfl rfl (congrArg (fun z => vI z :: [vI (drawV (drawS (drawS U)))]) (show who ((5 * p) + 4) = pz (ps p) from hw5.2.2.2.2)) ?_
                refine j_icmp_ge (pc := 155) C 274 rfl (by omega) dL_week_155 (fun h_20p155 => ?_) (fun h_20p155 => ?_)
                · skip
                  have eW : walkS Cu (ps p) p U = (drawS (drawS U)) := by unfold walkS; rw [if_neg (by omega), if_neg (by omega)]
                  have hLN : LR (walkS Cu (ps p) p U) mk3 hw3 := by rw [eW]; exact i28_3
                  have hsN : sd1_19 0 = ms_s (walkS Cu (ps p) p U) := by rw [eW]; exact qsd1_19
                  refine j_st (ws' := [(hh, aI (Y 0) 7 (ms_h (walkS Cu (ps p) p U))), (km, aI (Y 0) 63 mk3), (ho, aI (Y 0) 7 hw3), (sa, aL (Y 1) 1 sd1_19)]) (by rw [eW]; first | done | rfl) rfl rfl ?_
                  refine j_iinc (pc := 274) (lc' := [(9, vI (kx + 1)), (0, .ref wa), (1, vI np), (2, .ref ca), (3, .ref hh), (4, .ref km), (5, .ref ho), (6, .ref sa), (7, vI p), (8, vI (pk (ps p)))]) C 9 rfl (by decide) rfl dL_week_274 ?_
                  refine j_goto (pc := 277) C 28 rfl dL_week_277 ?_
                  refine j_locals (lc' := [(0, .ref wa), (1, vI np), (2, .ref ca), (3, .ref hh), (4, .ref km), (5, .ref ho), (6, .ref sa), (7, vI p), (8, vI (pk (ps p))), (9, vI (kx + 1))]) [1, 2, 3, 4, 5, 6, 7, 8, 9, 0] rfl ?_
                  exact ih28 (kx + 1) (walkS Cu (ps p) p U) mk3 hw3 sd1_19 (by omega) (by omega) (by rw [i28_1]; exact (parS_succ (by omega)).symm) (by have := okS_walk (num := p) i28_2.1 hC hPp (by omega); exact ⟨this.1, this.2.trans i28_2.2⟩) hLN hsN
                · skip
                  refine j_aload (pc := 158) C 5 rfl dL_week_158 ?_
                  refine j_iconst (pc := 160) C dL_week_160 ?_
                  refine j_iload (pc := 161) C 8 rfl dL_week_161 ?_
                  refine j_iconst (pc := 163) C dL_week_163 ?_
                  refine j_icmp_ne (pc := 164) C 172 rfl (by omega) dL_week_164 (fun h_21p164 => ?_) (fun h_21p164 => ?_)
                  · skip
                    refine j_aload_n (pc := 172) C 2 2 rfl rfl dL_week_172 ?_
                    refine j_iconst (pc := 173) C dL_week_173 ?_
                    refine j_iald (pc := 174) C (Or.inr c0) rfl (by omega) (by decide) dL_week_174 ?_
                    refine j_st (st' := [vI (cz Cu), vI 1, .ref ho]) rfl rfl (congrArg (fun z => vI z :: [vI 1, .ref ho]) (show cu 1 = (cz Cu) from hcu.2.1)) ?_
                    refine j_aload_n (pc := 175) C 3 3 rfl rfl dL_week_175 ?_
                    refine j_aload (pc := 176) C 5 rfl dL_week_176 ?_
                    refine j_iconst (pc := 178) C dL_week_178 ?_
                    refine j_iald (pc := 179) C (Or.inl (List.mem_of_getElem? (i := 2) rfl)) rfl (by omega) (by decide) dL_week_179 ?_
                    refine j_st (st' := [vI (ms_l U), .ref hh, vI (cz Cu), vI 1, .ref ho]) rfl rfl (congrArg (fun z => vI z :: [.ref hh, vI (cz Cu), vI 1, .ref ho]) (show hw3 1 = (ms_l U) from i28_3.2.1.2.1)) ?_
                    refine j_iload (pc := 180) C 7 rfl dL_week_180 ?_
                    refine j_callSi (pc := 182) (As := [vI (cz Cu), .ref hh, vI (ms_l U), vI p]) (na := 4) (st := [vI 1, .ref ho]) C [] [0, 1, 2, 3] (wr := [(hh, aI (Y 0) 7 (ms_h U)), (km, aI (Y 0) 63 mk3), (ho, aI (Y 0) 7 hw3), (sa, aL (Y 1) 1 sd1_19)]) (fun l => l_rule l D Y _ hh (ms_h U) (cz Cu) (ms_l U) p (List.mem_append_left _ (List.mem_of_getElem? (i := 0) rfl)) (by omega) (fun i hi => i28_2.1.1 i hi) i28_2.1.2.2.1 (by omega)) rfl rfl rfl rfl (by decide) rfl gL_week_L_rule (by decide +kernel) (by decide) rfl rfl (Nat.le_of_ble_eq_true rfl) (by decide) dL_week_182 (fun e_22 w_23 h_24 => ?_)
                    obtain ⟨rfl, rfl⟩ := h_24
                    refine j_perm (ws' := [(hh, aI (Y 0) 7 (ms_h U)), (km, aI (Y 0) 63 mk3), (ho, aI (Y 0) 7 hw3), (sa, aL (Y 1) 1 sd1_19)]) [0, 1, 2, 3] rfl rfl ?_
                    refine j_st (st' := [vI (fromS Cu (ps p) p (drawS (drawS U))), vI 1, .ref ho]) rfl rfl (congrArg (fun z => vI z :: [vI 1, .ref ho]) (show (ruleL (cz Cu) (ms_h U) (ms_l U) p) = (fromS Cu (ps p) p (drawS (drawS U))) from by unfold fromS; first | (rw [if_pos (by omega)]; rfl) | (rw [if_neg (by omega)]; rfl))) ?_
                    obtain ⟨r2, er2⟩ : ∃ z : Int, (fromS Cu (ps p) p (drawS (drawS U))) = z := ⟨_, rfl⟩
                    refine j_st (st' := [vI r2, vI 1, .ref ho]) rfl rfl (congrArg (fun z => vI z :: [vI 1, .ref ho]) er2) ?_
                    have hr2 := fromS_in (P := ps p) hU2 hC (num := p) (by omega)
                    rw [er2] at hr2
                    refine j_iast (pc := 185) (ws' := [(hh, aI (Y 0) 7 (ms_h U)), (km, aI (Y 0) 63 mk3), (ho, aI (Y 0) 7 (up hw3 1 r2)), (sa, aL (Y 1) 1 sd1_19)]) C 2 rfl rfl (by omega) (by decide) rfl dL_week_185 ?_
                    refine j_aload_n (pc := 186) C 3 3 rfl rfl dL_week_186 ?_
                    refine j_aload (pc := 187) C 5 rfl dL_week_187 ?_
                    refine j_iconst (pc := 189) C dL_week_189 ?_
                    refine j_iald (pc := 190) C (Or.inl (List.mem_of_getElem? (i := 2) rfl)) rfl (by omega) (by decide) dL_week_190 ?_
                    refine j_st (st' := [vI r2, .ref hh]) rfl rfl (congrArg (fun z => vI z :: [.ref hh]) (up_same _ _ _)) ?_
                    refine j_iald (pc := 191) C (Or.inl (List.mem_of_getElem? (i := 0) rfl)) rfl (by omega) (by decide) dL_week_191 ?_
                    have f_25 := i28_2.1.1 r2 (by omega)
                    refine j_if_le (pc := 192) C 274 rfl (by omega) dL_week_192 (fun h_26p192 => ?_) (fun h_26p192 => ?_)
                    · skip
                      have hLU2 : LR (setL (drawS (drawS U)) r2) mk3 (up hw3 1 r2) := LR_L (S := (drawS (drawS U))) r2 i28_3
                      have eW : walkS Cu (ps p) p U = (setL (drawS (drawS U)) r2) := by unfold walkS; rw [if_neg (by omega), if_pos (by omega), sin_alt, er2]; exact stealS_zero (show ms_h U r2 = 0 by omega)
                      have hLN : LR (walkS Cu (ps p) p U) mk3 (up hw3 1 r2) := by rw [eW]; exact hLU2
                      have hsN : sd1_19 0 = ms_s (walkS Cu (ps p) p U) := by rw [eW]; exact qsd1_19
                      refine j_st (ws' := [(hh, aI (Y 0) 7 (ms_h (walkS Cu (ps p) p U))), (km, aI (Y 0) 63 mk3), (ho, aI (Y 0) 7 (up hw3 1 r2)), (sa, aL (Y 1) 1 sd1_19)]) (by rw [eW]; first | done | rfl) rfl rfl ?_
                      refine j_iinc (pc := 274) (lc' := [(9, vI (kx + 1)), (0, .ref wa), (1, vI np), (2, .ref ca), (3, .ref hh), (4, .ref km), (5, .ref ho), (6, .ref sa), (7, vI p), (8, vI (pk (ps p)))]) C 9 rfl (by decide) rfl dL_week_274 ?_
                      refine j_goto (pc := 277) C 28 rfl dL_week_277 ?_
                      refine j_locals (lc' := [(0, .ref wa), (1, vI np), (2, .ref ca), (3, .ref hh), (4, .ref km), (5, .ref ho), (6, .ref sa), (7, vI p), (8, vI (pk (ps p))), (9, vI (kx + 1))]) [1, 2, 3, 4, 5, 6, 7, 8, 9, 0] rfl ?_
                      exact ih28 (kx + 1) (walkS Cu (ps p) p U) mk3 (up hw3 1 r2) sd1_19 (by omega) (by omega) (by rw [i28_1]; exact (parS_succ (by omega)).symm) (by have := okS_walk (num := p) i28_2.1 hC hPp (by omega); exact ⟨this.1, this.2.trans i28_2.2⟩) hLN hsN
                    · skip
                      refine j_aload_n (pc := 195) C 3 3 rfl rfl dL_week_195 ?_
                      refine j_aload (pc := 196) C 5 rfl dL_week_196 ?_
                      refine j_iconst (pc := 198) C dL_week_198 ?_
                      refine j_iald (pc := 199) C (Or.inl (List.mem_of_getElem? (i := 2) rfl)) rfl (by omega) (by decide) dL_week_199 ?_
                      refine j_st (st' := [vI r2, .ref hh]) rfl rfl (congrArg (fun z => vI z :: [.ref hh]) (up_same _ _ _)) ?_
                      refine j_dup2 (pc := 200) C rfl rfl dL_week_200 ?_
                      refine j_iald (pc := 201) C (Or.inl (List.mem_of_getElem? (i := 0) rfl)) rfl (by omega) (by decide) dL_week_201 ?_
                      have f_27 := i28_2.1.1 r2 (by omega)
                      refine j_iconst (pc := 202) C dL_week_202 ?_
                      refine j_isub (pc := 203) C dL_week_203 ?_
                      refine j_iast (pc := 204) (ws' := [(hh, aI (Y 0) 7 (up (ms_h U) r2 (ms_h U r2 - 1))), (km, aI (Y 0) 63 mk3), (ho, aI (Y 0) 7 (up hw3 1 r2)), (sa, aL (Y 1) 1 sd1_19)]) C 0 rfl rfl (by omega) (by decide) rfl dL_week_204 ?_
                      refine j_aload_n (pc := 205) C 3 3 rfl rfl dL_week_205 ?_
                      refine j_aload (pc := 206) C 5 rfl dL_week_206 ?_
                      refine j_iconst (pc := 208) C dL_week_208 ?_
                      refine j_iald (pc := 209) C (Or.inl (List.mem_of_getElem? (i := 2) rfl)) rfl (by omega) (by decide) dL_week_209 ?_
                      refine j_st (st' := [vI r2, .ref hh]) rfl rfl (congrArg (fun z => vI z :: [.ref hh]) (up_same _ _ _)) ?_
                      refine j_iald (pc := 210) C (Or.inl (List.mem_of_getElem? (i := 0) rfl)) rfl (by omega) (by decide) dL_week_210 ?_
                      refine j_st (st' := [vI (ms_h U r2 - 1)]) rfl rfl (congrArg (fun z => vI z :: []) (up_same _ _ _)) ?_
                      refine j_bipush (pc := 211) (w := 9) C rfl dL_week_211 ?_
                      refine j_icmp_ge (pc := 213) C 236 rfl (by omega) dL_week_213 (fun h_28p213 => ?_) (fun h_28p213 => ?_)
                      · skip
                        refine j_iconst (pc := 236) C dL_week_236 ?_
                        have hy2 : (markS r2 0 (setL (drawS (drawS U)) r2)) = ms_m U (60 * r2 + (ms_h U r2 - 1)) := by unfold markS; exact (if_pos (show 0 ≤ (0 : Int) ∧ 0 < ms_h U r2 by omega)).trans (congrArg (ms_m U) (by show 60 * r2 + (ms_h U r2 - 1 - 0) = _; omega))
                        have hxy2 : (up hw3 1 r2) 6 = 0 → 0 = (markS r2 0 (setL (drawS (drawS U)) r2)) := fun q => by have q1 := i28_3.2.2.2 q r2 hr2.1 hr2.2; rw [hy2]; first | exact q1.2 (ms_h U r2 - 1) (by omega) (by omega) | (exfalso; omega)
                        have hx2 : (0 : Int) ≤ 0 ∧ 0 ≤ ms_w U := by have := i28_2.1.w; first | exact i28_3.1 _ | omega
                        refine j_istore (pc := 237) (lc' := [(10, vI 0), (0, .ref wa), (1, vI np), (2, .ref ca), (3, .ref hh), (4, .ref km), (5, .ref ho), (6, .ref sa), (7, vI p), (8, vI (pk (ps p))), (9, vI kx)]) C (by decide) rfl dL_week_237 ?_
                        refine j_iload (pc := 239) C 9 rfl dL_week_239 ?_
                        refine j_iconst (pc := 241) C dL_week_241 ?_
                        refine j_icmp_le (pc := 242) C 266 rfl (by omega) dL_week_242 (fun h_29p242 => ?_) (fun h_29p242 => ?_)
                        · skip
                          refine j_aload (pc := 266) C 6 rfl dL_week_266 ?_
                          refine j_iconst (pc := 268) C dL_week_268 ?_
                          refine j_dup2 (pc := 269) C rfl rfl dL_week_269 ?_
                          refine j_iald (pc := 270) C (Or.inl (List.mem_of_getElem? (i := 2) rfl)) rfl (by omega) (by decide) dL_week_270 ?_
                          refine j_iconst (pc := 271) C dL_week_271 ?_
                          refine j_iadd (pc := 272) C dL_week_272 ?_
                          refine j_iast (pc := 273) (ws' := [(hh, aI (Y 0) 7 (up (ms_h U) r2 (ms_h U r2 - 1))), (km, aI (Y 0) 63 mk3), (ho, aI (Y 0) 7 (up (up hw3 1 r2) 3 ((up hw3 1 r2) 3 + 1))), (sa, aL (Y 1) 1 sd1_19)]) C 2 rfl rfl (by omega) (by decide) rfl dL_week_273 ?_
                          have hLU2 : LR (setL (drawS (drawS U)) r2) mk3 (up hw3 1 r2) := LR_L (S := (drawS (drawS U))) r2 i28_3
                          have eo : offS r2 1 (setL (drawS (drawS U)) r2) = 1 := by unfold offS; exact if_neg (show ¬ ms_h U r2 < 1 by omega)
                          have eW : walkS Cu (ps p) p U = (takeS r2 1 (setL (drawS (drawS U)) r2)) := by unfold walkS; rw [if_neg (by omega), if_pos (by omega), sin_alt, er2]; unfold stealS; rw [if_pos (show hideP (ps p) = -1 by unfold hideP; rw [if_neg (by omega)])]
                          have hT2 := LR_take (c := r2) (n := 1) (S := (setL (drawS (drawS U)) r2)) (by omega) hLU2
                          rw [eo] at hT2
                          have hLN : LR (walkS Cu (ps p) p U) mk3 (up (up hw3 1 r2) 3 ((up hw3 1 r2) 3 + 1)) := by rw [eW]; exact hT2
                          have hsN : sd1_19 0 = ms_s (walkS Cu (ps p) p U) := by rw [eW]; exact qsd1_19
                          refine j_st (ws' := [(hh, aI (Y 0) 7 (ms_h (walkS Cu (ps p) p U))), (km, aI (Y 0) 63 mk3), (ho, aI (Y 0) 7 (up (up hw3 1 r2) 3 ((up hw3 1 r2) 3 + 1))), (sa, aL (Y 1) 1 sd1_19)]) (by rw [eW]; unfold takeS; rw [eo]; first | done | rfl) rfl rfl ?_
                          refine j_iinc (pc := 274) (lc' := [(9, vI (kx + 1)), (10, vI 0), (0, .ref wa), (1, vI np), (2, .ref ca), (3, .ref hh), (4, .ref km), (5, .ref ho), (6, .ref sa), (7, vI p), (8, vI (pk (ps p)))]) C 10 rfl (by decide) rfl dL_week_274 ?_
                          refine j_goto (pc := 277) C 28 rfl dL_week_277 ?_
                          refine j_locals (lc' := [(0, .ref wa), (1, vI np), (2, .ref ca), (3, .ref hh), (4, .ref km), (5, .ref ho), (6, .ref sa), (7, vI p), (8, vI (pk (ps p))), (9, vI (kx + 1))]) [2, 3, 4, 5, 6, 7, 8, 9, 10, 0] rfl ?_
                          exact ih28 (kx + 1) (walkS Cu (ps p) p U) mk3 (up (up hw3 1 r2) 3 ((up hw3 1 r2) 3 + 1)) sd1_19 (by omega) (by omega) (by rw [i28_1]; exact (parS_succ (by omega)).symm) (by have := okS_walk (num := p) i28_2.1 hC hPp (by omega); exact ⟨this.1, this.2.trans i28_2.2⟩) hLN hsN
                        · skip
                          refine j_st (ws' := [(hh, aI (Y 0) 7 (ms_h (setH (setL (drawS (drawS U)) r2) (up (ms_h U) r2 (ms_h U r2 - 1))))), (km, aI (Y 0) 63 mk3), (ho, aI (Y 0) 7 (up hw3 1 r2)), (sa, aL (Y 1) 1 sd1_19)]) rfl rfl rfl ?_
                          have hide2 : hideP (ps p) = pn (ps p) := by unfold hideP; rw [if_pos (by omega)]
                          have hSH : okS (setH (setL (drawS (drawS U)) r2) (up (ms_h U) r2 (ms_h U r2 - 1))) := okS_H (okS_L hU2 hr2) hr2 (show ¬ ms_h U r2 = 0 by omega)
                          have hLH : LR (setH (setL (drawS (drawS U)) r2) (up (ms_h U) r2 (ms_h U r2 - 1))) mk3 (up hw3 1 r2) := LR_H (S := (setL (drawS (drawS U)) r2)) (show ms_h U r2 - 1 ≤ ms_h U r2 by omega) (LR_L (S := (drawS (drawS U))) r2 i28_3)
                          refine j_aload_n (pc := 245) C 3 4 rfl rfl dL_week_245 ?_
                          refine j_aload (pc := 246) C 5 rfl dL_week_246 ?_
                          refine j_aload (pc := 248) C 6 rfl dL_week_248 ?_
                          refine j_aload_n (pc := 250) C 0 1 rfl rfl dL_week_250 ?_
                          refine j_iconst (pc := 251) C dL_week_251 ?_
                          refine j_iload (pc := 252) C 8 rfl dL_week_252 ?_
                          refine j_imul (pc := 254) C dL_week_254 ?_
                          refine j_iconst (pc := 255) C dL_week_255 ?_
                          refine j_iadd (pc := 256) C dL_week_256 ?_
                          refine j_iald (pc := 257) C (Or.inr w0) rfl (by omega) (by decide) dL_week_257 ?_
                          refine j_st (st' := [vI (pn (ps p)), .ref ho, .ref km, .ref hh]) rfl rfl (congrArg (fun z => vI z :: [.ref ho, .ref km, .ref hh]) (show who ((5 * p) + 1) = pn (ps p) from hw5.2.1)) ?_
                          refine j_iload (pc := 258) C 0 rfl dL_week_258 ?_
                          refine j_callSv (pc := 260) (As := [.ref hh, .ref km, .ref ho, vI (pn (ps p)), vI 0]) (na := 5) (st := []) C [0, 1, 2] [3] (wr := [(sa, aL (Y 1) 1 sd1_19)]) (fun l => l_lay l D Y _ hh km ho (setH (setL (drawS (drawS U)) r2) (up (ms_h U) r2 (ms_h U r2 - 1))) mk3 (up hw3 1 r2) (pn (ps p)) 0 (markS r2 0 (setL (drawS (drawS U)) r2)) hSH (by omega) hLH hx2 hxy2) rfl rfl rfl rfl (by decide) rfl gL_week_L_lay (by decide +kernel) (by decide) rfl rfl (Nat.le_of_ble_eq_true rfl) (by decide) dL_week_260 (fun w_31 h_32 => ?_)
                          obtain ⟨mk1_33, hw1_34, qmk1_33, rfl⟩ := h_32
                          refine j_perm (ws' := [(hh, aI (Y 0) 7 (ms_h ((putS (pn (ps p)) (markS r2 0 (setL (drawS (drawS U)) r2)) (setH (setL (drawS (drawS U)) r2) (up (ms_h U) r2 (ms_h U r2 - 1))))))), (km, aI (Y 0) 63 mk1_33), (ho, aI (Y 0) 7 hw1_34), (sa, aL (Y 1) 1 sd1_19)]) [1, 2, 3, 0] rfl rfl ?_
                          refine j_goto (pc := 263) C 274 rfl dL_week_263 ?_
                          have hLU2 : LR (setL (drawS (drawS U)) r2) mk3 (up hw3 1 r2) := LR_L (S := (drawS (drawS U))) r2 i28_3
                          have eW : walkS Cu (ps p) p U = (putS (pn (ps p)) (markS r2 0 (setL (drawS (drawS U)) r2)) (setH (setL (drawS (drawS U)) r2) (up (ms_h U) r2 (ms_h U r2 - 1)))) := by unfold walkS; rw [if_neg (by omega), if_pos (by omega), sin_alt, er2]; unfold stealS; rw [hide2, if_neg (by omega)]; exact if_neg (show ¬ ms_h U r2 = 0 by omega)
                          have hLN : LR (walkS Cu (ps p) p U) mk1_33 hw1_34 := by rw [eW]; exact qmk1_33
                          have hsN : sd1_19 0 = ms_s (walkS Cu (ps p) p U) := by rw [eW]; exact qsd1_19.trans (show ms_s (drawS (drawS U)) = ms_s (putS (pn (ps p)) (markS r2 0 (setL (drawS (drawS U)) r2)) (setH (setL (drawS (drawS U)) r2) (up (ms_h U) r2 (ms_h U r2 - 1)))) from (putS_s (pn (ps p)) (markS r2 0 (setL (drawS (drawS U)) r2)) (setH (setL (drawS (drawS U)) r2) (up (ms_h U) r2 (ms_h U r2 - 1)))).symm)
                          refine j_st (ws' := [(hh, aI (Y 0) 7 (ms_h (walkS Cu (ps p) p U))), (km, aI (Y 0) 63 mk1_33), (ho, aI (Y 0) 7 hw1_34), (sa, aL (Y 1) 1 sd1_19)]) (by rw [eW]; first | done | rfl) rfl rfl ?_
                          refine j_iinc (pc := 274) (lc' := [(9, vI (kx + 1)), (10, vI 0), (0, .ref wa), (1, vI np), (2, .ref ca), (3, .ref hh), (4, .ref km), (5, .ref ho), (6, .ref sa), (7, vI p), (8, vI (pk (ps p)))]) C 10 rfl (by decide) rfl dL_week_274 ?_
                          refine j_goto (pc := 277) C 28 rfl dL_week_277 ?_
                          refine j_locals (lc' := [(0, .ref wa), (1, vI np), (2, .ref ca), (3, .ref hh), (4, .ref km), (5, .ref ho), (6, .ref sa), (7, vI p), (8, vI (pk (ps p))), (9, vI (kx + 1))]) [2, 3, 4, 5, 6, 7, 8, 9, 10, 0] rfl ?_
                          exact ih28 (kx + 1) (walkS Cu (ps p) p U) mk1_33 hw1_34 sd1_19 (by omega) (by omega) (by rw [i28_1]; exact (parS_succ (by omega)).symm) (by have := okS_walk (num := p) i28_2.1 hC hPp (by omega); exact ⟨this.1, this.2.trans i28_2.2⟩) hLN hsN
                      · skip
                        refine j_aload (pc := 216) C 4 rfl dL_week_216 ?_
                        refine j_bipush (pc := 218) (w := 9) C rfl dL_week_218 ?_
                        refine j_aload (pc := 220) C 5 rfl dL_week_220 ?_
                        refine j_iconst (pc := 222) C dL_week_222 ?_
                        refine j_iald (pc := 223) C (Or.inl (List.mem_of_getElem? (i := 2) rfl)) rfl (by omega) (by decide) dL_week_223 ?_
                        refine j_st (st' := [vI r2, vI 9, .ref km]) rfl rfl (congrArg (fun z => vI z :: [vI 9, .ref km]) (up_same _ _ _)) ?_
                        refine j_imul (pc := 224) C dL_week_224 ?_
                        refine j_aload_n (pc := 225) C 3 3 rfl rfl dL_week_225 ?_
                        refine j_aload (pc := 226) C 5 rfl dL_week_226 ?_
                        refine j_iconst (pc := 228) C dL_week_228 ?_
                        refine j_iald (pc := 229) C (Or.inl (List.mem_of_getElem? (i := 2) rfl)) rfl (by omega) (by decide) dL_week_229 ?_
                        refine j_st (st' := [vI r2, .ref hh, vI (9 * r2), .ref km]) rfl rfl (congrArg (fun z => vI z :: [.ref hh, vI (9 * r2), .ref km]) (up_same _ _ _)) ?_
                        refine j_iald (pc := 230) C (Or.inl (List.mem_of_getElem? (i := 0) rfl)) rfl (by omega) (by decide) dL_week_230 ?_
                        refine j_st (st' := [vI (ms_h U r2 - 1), vI (9 * r2), .ref km]) rfl rfl (congrArg (fun z => vI z :: [vI (9 * r2), .ref km]) (up_same _ _ _)) ?_
                        refine j_iadd (pc := 231) C dL_week_231 ?_
                        refine j_iald (pc := 232) C (Or.inl (List.mem_of_getElem? (i := 1) rfl)) rfl (by omega) (by decide) dL_week_232 ?_
                        refine j_goto (pc := 233) C 237 rfl dL_week_233 ?_
                        have hy2 : (markS r2 0 (setL (drawS (drawS U)) r2)) = ms_m U (60 * r2 + (ms_h U r2 - 1)) := by unfold markS; exact (if_pos (show 0 ≤ (0 : Int) ∧ 0 < ms_h U r2 by omega)).trans (congrArg (ms_m U) (by show 60 * r2 + (ms_h U r2 - 1 - 0) = _; omega))
                        have hxy2 : (up hw3 1 r2) 6 = 0 → mk3 ((9 * r2) + (ms_h U r2 - 1)) = (markS r2 0 (setL (drawS (drawS U)) r2)) := fun q => by have q1 := i28_3.2.2.2 q r2 hr2.1 hr2.2; rw [hy2]; first | exact q1.2 (ms_h U r2 - 1) (by omega) (by omega) | (exfalso; omega)
                        have hx2 : (0 : Int) ≤ mk3 ((9 * r2) + (ms_h U r2 - 1)) ∧ mk3 ((9 * r2) + (ms_h U r2 - 1)) ≤ ms_w U := by have := i28_2.1.w; first | exact i28_3.1 _ | omega
                        refine j_istore (pc := 237) (lc' := [(10, vI (mk3 ((9 * r2) + (ms_h U r2 - 1)))), (0, .ref wa), (1, vI np), (2, .ref ca), (3, .ref hh), (4, .ref km), (5, .ref ho), (6, .ref sa), (7, vI p), (8, vI (pk (ps p))), (9, vI kx)]) C (by decide) rfl dL_week_237 ?_
                        refine j_iload (pc := 239) C 9 rfl dL_week_239 ?_
                        refine j_iconst (pc := 241) C dL_week_241 ?_
                        refine j_icmp_le (pc := 242) C 266 rfl (by omega) dL_week_242 (fun h_35p242 => ?_) (fun h_35p242 => ?_)
                        · skip
                          refine j_aload (pc := 266) C 6 rfl dL_week_266 ?_
                          refine j_iconst (pc := 268) C dL_week_268 ?_
                          refine j_dup2 (pc := 269) C rfl rfl dL_week_269 ?_
                          refine j_iald (pc := 270) C (Or.inl (List.mem_of_getElem? (i := 2) rfl)) rfl (by omega) (by decide) dL_week_270 ?_
                          refine j_iconst (pc := 271) C dL_week_271 ?_
                          refine j_iadd (pc := 272) C dL_week_272 ?_
                          refine j_iast (pc := 273) (ws' := [(hh, aI (Y 0) 7 (up (ms_h U) r2 (ms_h U r2 - 1))), (km, aI (Y 0) 63 mk3), (ho, aI (Y 0) 7 (up (up hw3 1 r2) 3 ((up hw3 1 r2) 3 + 1))), (sa, aL (Y 1) 1 sd1_19)]) C 2 rfl rfl (by omega) (by decide) rfl dL_week_273 ?_
                          have hLU2 : LR (setL (drawS (drawS U)) r2) mk3 (up hw3 1 r2) := LR_L (S := (drawS (drawS U))) r2 i28_3
                          have eo : offS r2 1 (setL (drawS (drawS U)) r2) = 1 := by unfold offS; exact if_neg (show ¬ ms_h U r2 < 1 by omega)
                          have eW : walkS Cu (ps p) p U = (takeS r2 1 (setL (drawS (drawS U)) r2)) := by unfold walkS; rw [if_neg (by omega), if_pos (by omega), sin_alt, er2]; unfold stealS; rw [if_pos (show hideP (ps p) = -1 by unfold hideP; rw [if_neg (by omega)])]
                          have hT2 := LR_take (c := r2) (n := 1) (S := (setL (drawS (drawS U)) r2)) (by omega) hLU2
                          rw [eo] at hT2
                          have hLN : LR (walkS Cu (ps p) p U) mk3 (up (up hw3 1 r2) 3 ((up hw3 1 r2) 3 + 1)) := by rw [eW]; exact hT2
                          have hsN : sd1_19 0 = ms_s (walkS Cu (ps p) p U) := by rw [eW]; exact qsd1_19
                          refine j_st (ws' := [(hh, aI (Y 0) 7 (ms_h (walkS Cu (ps p) p U))), (km, aI (Y 0) 63 mk3), (ho, aI (Y 0) 7 (up (up hw3 1 r2) 3 ((up hw3 1 r2) 3 + 1))), (sa, aL (Y 1) 1 sd1_19)]) (by rw [eW]; unfold takeS; rw [eo]; first | done | rfl) rfl rfl ?_
                          refine j_iinc (pc := 274) (lc' := [(9, vI (kx + 1)), (10, vI (mk3 ((9 * r2) + (ms_h U r2 - 1)))), (0, .ref wa), (1, vI np), (2, .ref ca), (3, .ref hh), (4, .ref km), (5, .ref ho), (6, .ref sa), (7, vI p), (8, vI (pk (ps p)))]) C 10 rfl (by decide) rfl dL_week_274 ?_
                          refine j_goto (pc := 277) C 28 rfl dL_week_277 ?_
                          refine j_locals (lc' := [(0, .ref wa), (1, vI np), (2, .ref ca), (3, .ref hh), (4, .ref km), (5, .ref ho), (6, .ref sa), (7, vI p), (8, vI (pk (ps p))), (9, vI (kx + 1))]) [2, 3, 4, 5, 6, 7, 8, 9, 10, 0] rfl ?_
                          exact ih28 (kx + 1) (walkS Cu (ps p) p U) mk3 (up (up hw3 1 r2) 3 ((up hw3 1 r2) 3 + 1)) sd1_19 (by omega) (by omega) (by rw [i28_1]; exact (parS_succ (by omega)).symm) (by have := okS_walk (num := p) i28_2.1 hC hPp (by omega); exact ⟨this.1, this.2.trans i28_2.2⟩) hLN hsN
                        · skip
                          refine j_st (ws' := [(hh, aI (Y 0) 7 (ms_h (setH (setL (drawS (drawS U)) r2) (up (ms_h U) r2 (ms_h U r2 - 1))))), (km, aI (Y 0) 63 mk3), (ho, aI (Y 0) 7 (up hw3 1 r2)), (sa, aL (Y 1) 1 sd1_19)]) rfl rfl rfl ?_
                          have hide2 : hideP (ps p) = pn (ps p) := by unfold hideP; rw [if_pos (by omega)]
                          have hSH : okS (setH (setL (drawS (drawS U)) r2) (up (ms_h U) r2 (ms_h U r2 - 1))) := okS_H (okS_L hU2 hr2) hr2 (show ¬ ms_h U r2 = 0 by omega)
                          have hLH : LR (setH (setL (drawS (drawS U)) r2) (up (ms_h U) r2 (ms_h U r2 - 1))) mk3 (up hw3 1 r2) := LR_H (S := (setL (drawS (drawS U)) r2)) (show ms_h U r2 - 1 ≤ ms_h U r2 by omega) (LR_L (S := (drawS (drawS U))) r2 i28_3)
                          refine j_aload_n (pc := 245) C 3 4 rfl rfl dL_week_245 ?_
                          refine j_aload (pc := 246) C 5 rfl dL_week_246 ?_
                          refine j_aload (pc := 248) C 6 rfl dL_week_248 ?_
                          refine j_aload_n (pc := 250) C 0 1 rfl rfl dL_week_250 ?_
                          refine j_iconst (pc := 251) C dL_week_251 ?_
                          refine j_iload (pc := 252) C 8 rfl dL_week_252 ?_
                          refine j_imul (pc := 254) C dL_week_254 ?_
                          refine j_iconst (pc := 255) C dL_week_255 ?_
                          refine j_iadd (pc := 256) C dL_week_256 ?_
                          refine j_iald (pc := 257) C (Or.inr w0) rfl (by omega) (by decide) dL_week_257 ?_
                          refine j_st (st' := [vI (pn (ps p)), .ref ho, .ref km, .ref hh]) rfl rfl (congrArg (fun z => vI z :: [.ref ho, .ref km, .ref hh]) (show who ((5 * p) + 1) = pn (ps p) from hw5.2.1)) ?_
                          refine j_iload (pc := 258) C 0 rfl dL_week_258 ?_
                          refine j_callSv (pc := 260) (As := [.ref hh, .ref km, .ref ho, vI (pn (ps p)), vI (mk3 ((9 * r2) + (ms_h U r2 - 1)))]) (na := 5) (st := []) C [0, 1, 2] [3] (wr := [(sa, aL (Y 1) 1 sd1_19)]) (fun l => l_lay l D Y _ hh km ho (setH (setL (drawS (drawS U)) r2) (up (ms_h U) r2 (ms_h U r2 - 1))) mk3 (up hw3 1 r2) (pn (ps p)) (mk3 ((9 * r2) + (ms_h U r2 - 1))) (markS r2 0 (setL (drawS (drawS U)) r2)) hSH (by omega) hLH hx2 hxy2) rfl rfl rfl rfl (by decide) rfl gL_week_L_lay (by decide +kernel) (by decide) rfl rfl (Nat.le_of_ble_eq_true rfl) (by decide) dL_week_260 (fun w_37 h_38 => ?_)
                          obtain ⟨mk1_39, hw1_40, qmk1_39, rfl⟩ := h_38
                          refine j_perm (ws' := [(hh, aI (Y 0) 7 (ms_h ((putS (pn (ps p)) (markS r2 0 (setL (drawS (drawS U)) r2)) (setH (setL (drawS (drawS U)) r2) (up (ms_h U) r2 (ms_h U r2 - 1))))))), (km, aI (Y 0) 63 mk1_39), (ho, aI (Y 0) 7 hw1_40), (sa, aL (Y 1) 1 sd1_19)]) [1, 2, 3, 0] rfl rfl ?_
                          refine j_goto (pc := 263) C 274 rfl dL_week_263 ?_
                          have hLU2 : LR (setL (drawS (drawS U)) r2) mk3 (up hw3 1 r2) := LR_L (S := (drawS (drawS U))) r2 i28_3
                          have eW : walkS Cu (ps p) p U = (putS (pn (ps p)) (markS r2 0 (setL (drawS (drawS U)) r2)) (setH (setL (drawS (drawS U)) r2) (up (ms_h U) r2 (ms_h U r2 - 1)))) := by unfold walkS; rw [if_neg (by omega), if_pos (by omega), sin_alt, er2]; unfold stealS; rw [hide2, if_neg (by omega)]; exact if_neg (show ¬ ms_h U r2 = 0 by omega)
                          have hLN : LR (walkS Cu (ps p) p U) mk1_39 hw1_40 := by rw [eW]; exact qmk1_39
                          have hsN : sd1_19 0 = ms_s (walkS Cu (ps p) p U) := by rw [eW]; exact qsd1_19.trans (show ms_s (drawS (drawS U)) = ms_s (putS (pn (ps p)) (markS r2 0 (setL (drawS (drawS U)) r2)) (setH (setL (drawS (drawS U)) r2) (up (ms_h U) r2 (ms_h U r2 - 1)))) from (putS_s (pn (ps p)) (markS r2 0 (setL (drawS (drawS U)) r2)) (setH (setL (drawS (drawS U)) r2) (up (ms_h U) r2 (ms_h U r2 - 1)))).symm)
                          refine j_st (ws' := [(hh, aI (Y 0) 7 (ms_h (walkS Cu (ps p) p U))), (km, aI (Y 0) 63 mk1_39), (ho, aI (Y 0) 7 hw1_40), (sa, aL (Y 1) 1 sd1_19)]) (by rw [eW]; first | done | rfl) rfl rfl ?_
                          refine j_iinc (pc := 274) (lc' := [(9, vI (kx + 1)), (10, vI (mk3 ((9 * r2) + (ms_h U r2 - 1)))), (0, .ref wa), (1, vI np), (2, .ref ca), (3, .ref hh), (4, .ref km), (5, .ref ho), (6, .ref sa), (7, vI p), (8, vI (pk (ps p)))]) C 10 rfl (by decide) rfl dL_week_274 ?_
                          refine j_goto (pc := 277) C 28 rfl dL_week_277 ?_
                          refine j_locals (lc' := [(0, .ref wa), (1, vI np), (2, .ref ca), (3, .ref hh), (4, .ref km), (5, .ref ho), (6, .ref sa), (7, vI p), (8, vI (pk (ps p))), (9, vI (kx + 1))]) [2, 3, 4, 5, 6, 7, 8, 9, 10, 0] rfl ?_
                          exact ih28 (kx + 1) (walkS Cu (ps p) p U) mk1_39 hw1_40 sd1_19 (by omega) (by omega) (by rw [i28_1]; exact (parS_succ (by omega)).symm) (by have := okS_walk (num := p) i28_2.1 hC hPp (by omega); exact ⟨this.1, this.2.trans i28_2.2⟩) hLN hsN
                  · skip
                    refine j_bipush (pc := 167) (w := 7) C rfl dL_week_167 ?_
                    refine j_goto (pc := 169) C 175 rfl dL_week_169 ?_
                    refine j_aload_n (pc := 175) C 3 3 rfl rfl dL_week_175 ?_
                    refine j_aload (pc := 176) C 5 rfl dL_week_176 ?_
                    refine j_iconst (pc := 178) C dL_week_178 ?_
                    refine j_iald (pc := 179) C (Or.inl (List.mem_of_getElem? (i := 2) rfl)) rfl (by omega) (by decide) dL_week_179 ?_
                    refine j_st (st' := [vI (ms_l U), .ref hh, vI 7, vI 1, .ref ho]) rfl rfl (congrArg (fun z => vI z :: [.ref hh, vI 7, vI 1, .ref ho]) (show hw3 1 = (ms_l U) from i28_3.2.1.2.1)) ?_
                    refine j_iload (pc := 180) C 7 rfl dL_week_180 ?_
                    refine j_callSi (pc := 182) (As := [vI 7, .ref hh, vI (ms_l U), vI p]) (na := 4) (st := [vI 1, .ref ho]) C [] [0, 1, 2, 3] (wr := [(hh, aI (Y 0) 7 (ms_h U)), (km, aI (Y 0) 63 mk3), (ho, aI (Y 0) 7 hw3), (sa, aL (Y 1) 1 sd1_19)]) (fun l => l_rule l D Y _ hh (ms_h U) 7 (ms_l U) p (List.mem_append_left _ (List.mem_of_getElem? (i := 0) rfl)) (by omega) (fun i hi => i28_2.1.1 i hi) i28_2.1.2.2.1 (by omega)) rfl rfl rfl rfl (by decide) rfl gL_week_L_rule (by decide +kernel) (by decide) rfl rfl (Nat.le_of_ble_eq_true rfl) (by decide) dL_week_182 (fun e_41 w_42 h_43 => ?_)
                    obtain ⟨rfl, rfl⟩ := h_43
                    refine j_perm (ws' := [(hh, aI (Y 0) 7 (ms_h U)), (km, aI (Y 0) 63 mk3), (ho, aI (Y 0) 7 hw3), (sa, aL (Y 1) 1 sd1_19)]) [0, 1, 2, 3] rfl rfl ?_
                    refine j_st (st' := [vI (fromS Cu (ps p) p (drawS (drawS U))), vI 1, .ref ho]) rfl rfl (congrArg (fun z => vI z :: [vI 1, .ref ho]) (show (ruleL 7 (ms_h U) (ms_l U) p) = (fromS Cu (ps p) p (drawS (drawS U))) from by unfold fromS; first | (rw [if_pos (by omega)]; rfl) | (rw [if_neg (by omega)]; rfl))) ?_
                    obtain ⟨r2, er2⟩ : ∃ z : Int, (fromS Cu (ps p) p (drawS (drawS U))) = z := ⟨_, rfl⟩
                    refine j_st (st' := [vI r2, vI 1, .ref ho]) rfl rfl (congrArg (fun z => vI z :: [vI 1, .ref ho]) er2) ?_
                    have hr2 := fromS_in (P := ps p) hU2 hC (num := p) (by omega)
                    rw [er2] at hr2
                    refine j_iast (pc := 185) (ws' := [(hh, aI (Y 0) 7 (ms_h U)), (km, aI (Y 0) 63 mk3), (ho, aI (Y 0) 7 (up hw3 1 r2)), (sa, aL (Y 1) 1 sd1_19)]) C 2 rfl rfl (by omega) (by decide) rfl dL_week_185 ?_
                    refine j_aload_n (pc := 186) C 3 3 rfl rfl dL_week_186 ?_
                    refine j_aload (pc := 187) C 5 rfl dL_week_187 ?_
                    refine j_iconst (pc := 189) C dL_week_189 ?_
                    refine j_iald (pc := 190) C (Or.inl (List.mem_of_getElem? (i := 2) rfl)) rfl (by omega) (by decide) dL_week_190 ?_
                    refine j_st (st' := [vI r2, .ref hh]) rfl rfl (congrArg (fun z => vI z :: [.ref hh]) (up_same _ _ _)) ?_
                    refine j_iald (pc := 191) C (Or.inl (List.mem_of_getElem? (i := 0) rfl)) rfl (by omega) (by decide) dL_week_191 ?_
                    have f_44 := i28_2.1.1 r2 (by omega)
                    refine j_if_le (pc := 192) C 274 rfl (by omega) dL_week_192 (fun h_45p192 => ?_) (fun h_45p192 => ?_)
                    · skip
                      have hLU2 : LR (setL (drawS (drawS U)) r2) mk3 (up hw3 1 r2) := LR_L (S := (drawS (drawS U))) r2 i28_3
                      have eW : walkS Cu (ps p) p U = (setL (drawS (drawS U)) r2) := by unfold walkS; rw [if_neg (by omega), if_pos (by omega), sin_alt, er2]; exact stealS_zero (show ms_h U r2 = 0 by omega)
                      have hLN : LR (walkS Cu (ps p) p U) mk3 (up hw3 1 r2) := by rw [eW]; exact hLU2
                      have hsN : sd1_19 0 = ms_s (walkS Cu (ps p) p U) := by rw [eW]; exact qsd1_19
                      refine j_st (ws' := [(hh, aI (Y 0) 7 (ms_h (walkS Cu (ps p) p U))), (km, aI (Y 0) 63 mk3), (ho, aI (Y 0) 7 (up hw3 1 r2)), (sa, aL (Y 1) 1 sd1_19)]) (by rw [eW]; first | done | rfl) rfl rfl ?_
                      refine j_iinc (pc := 274) (lc' := [(9, vI (kx + 1)), (0, .ref wa), (1, vI np), (2, .ref ca), (3, .ref hh), (4, .ref km), (5, .ref ho), (6, .ref sa), (7, vI p), (8, vI (pk (ps p)))]) C 9 rfl (by decide) rfl dL_week_274 ?_
                      refine j_goto (pc := 277) C 28 rfl dL_week_277 ?_
                      refine j_locals (lc' := [(0, .ref wa), (1, vI np), (2, .ref ca), (3, .ref hh), (4, .ref km), (5, .ref ho), (6, .ref sa), (7, vI p), (8, vI (pk (ps p))), (9, vI (kx + 1))]) [1, 2, 3, 4, 5, 6, 7, 8, 9, 0] rfl ?_
                      exact ih28 (kx + 1) (walkS Cu (ps p) p U) mk3 (up hw3 1 r2) sd1_19 (by omega) (by omega) (by rw [i28_1]; exact (parS_succ (by omega)).symm) (by have := okS_walk (num := p) i28_2.1 hC hPp (by omega); exact ⟨this.1, this.2.trans i28_2.2⟩) hLN hsN
                    · skip
                      refine j_aload_n (pc := 195) C 3 3 rfl rfl dL_week_195 ?_
                      refine j_aload (pc := 196) C 5 rfl dL_week_196 ?_
                      refine j_iconst (pc := 198) C dL_week_198 ?_
                      refine j_iald (pc := 199) C (Or.inl (List.mem_of_getElem? (i := 2) rfl)) rfl (by omega) (by decide) dL_week_199 ?_
                      refine j_st (st' := [vI r2, .ref hh]) rfl rfl (congrArg (fun z => vI z :: [.ref hh]) (up_same _ _ _)) ?_
                      refine j_dup2 (pc := 200) C rfl rfl dL_week_200 ?_
                      refine j_iald (pc := 201) C (Or.inl (List.mem_of_getElem? (i := 0) rfl)) rfl (by omega) (by decide) dL_week_201 ?_
                      have f_46 := i28_2.1.1 r2 (by omega)
                      refine j_iconst (pc := 202) C dL_week_202 ?_
                      refine j_isub (pc := 203) C dL_week_203 ?_
                      refine j_iast (pc := 204) (ws' := [(hh, aI (Y 0) 7 (up (ms_h U) r2 (ms_h U r2 - 1))), (km, aI (Y 0) 63 mk3), (ho, aI (Y 0) 7 (up hw3 1 r2)), (sa, aL (Y 1) 1 sd1_19)]) C 0 rfl rfl (by omega) (by decide) rfl dL_week_204 ?_
                      refine j_aload_n (pc := 205) C 3 3 rfl rfl dL_week_205 ?_
                      refine j_aload (pc := 206) C 5 rfl dL_week_206 ?_
                      refine j_iconst (pc := 208) C dL_week_208 ?_
                      refine j_iald (pc := 209) C (Or.inl (List.mem_of_getElem? (i := 2) rfl)) rfl (by omega) (by decide) dL_week_209 ?_
                      refine j_st (st' := [vI r2, .ref hh]) rfl rfl (congrArg (fun z => vI z :: [.ref hh]) (up_same _ _ _)) ?_
                      refine j_iald (pc := 210) C (Or.inl (List.mem_of_getElem? (i := 0) rfl)) rfl (by omega) (by decide) dL_week_210 ?_
                      refine j_st (st' := [vI (ms_h U r2 - 1)]) rfl rfl (congrArg (fun z => vI z :: []) (up_same _ _ _)) ?_
                      refine j_bipush (pc := 211) (w := 9) C rfl dL_week_211 ?_
                      refine j_icmp_ge (pc := 213) C 236 rfl (by omega) dL_week_213 (fun h_47p213 => ?_) (fun h_47p213 => ?_)
                      · skip
                        refine j_iconst (pc := 236) C dL_week_236 ?_
                        have hy2 : (markS r2 0 (setL (drawS (drawS U)) r2)) = ms_m U (60 * r2 + (ms_h U r2 - 1)) := by unfold markS; exact (if_pos (show 0 ≤ (0 : Int) ∧ 0 < ms_h U r2 by omega)).trans (congrArg (ms_m U) (by show 60 * r2 + (ms_h U r2 - 1 - 0) = _; omega))
                        have hxy2 : (up hw3 1 r2) 6 = 0 → 0 = (markS r2 0 (setL (drawS (drawS U)) r2)) := fun q => by have q1 := i28_3.2.2.2 q r2 hr2.1 hr2.2; rw [hy2]; first | exact q1.2 (ms_h U r2 - 1) (by omega) (by omega) | (exfalso; omega)
                        have hx2 : (0 : Int) ≤ 0 ∧ 0 ≤ ms_w U := by have := i28_2.1.w; first | exact i28_3.1 _ | omega
                        refine j_istore (pc := 237) (lc' := [(10, vI 0), (0, .ref wa), (1, vI np), (2, .ref ca), (3, .ref hh), (4, .ref km), (5, .ref ho), (6, .ref sa), (7, vI p), (8, vI (pk (ps p))), (9, vI kx)]) C (by decide) rfl dL_week_237 ?_
                        refine j_iload (pc := 239) C 9 rfl dL_week_239 ?_
                        refine j_iconst (pc := 241) C dL_week_241 ?_
                        refine j_icmp_le (pc := 242) C 266 rfl (by omega) dL_week_242 (fun h_48p242 => ?_) (fun h_48p242 => ?_)
                        · skip
                          refine j_aload (pc := 266) C 6 rfl dL_week_266 ?_
                          refine j_iconst (pc := 268) C dL_week_268 ?_
                          refine j_dup2 (pc := 269) C rfl rfl dL_week_269 ?_
                          refine j_iald (pc := 270) C (Or.inl (List.mem_of_getElem? (i := 2) rfl)) rfl (by omega) (by decide) dL_week_270 ?_
                          refine j_iconst (pc := 271) C dL_week_271 ?_
                          refine j_iadd (pc := 272) C dL_week_272 ?_
                          refine j_iast (pc := 273) (ws' := [(hh, aI (Y 0) 7 (up (ms_h U) r2 (ms_h U r2 - 1))), (km, aI (Y 0) 63 mk3), (ho, aI (Y 0) 7 (up (up hw3 1 r2) 3 ((up hw3 1 r2) 3 + 1))), (sa, aL (Y 1) 1 sd1_19)]) C 2 rfl rfl (by omega) (by decide) rfl dL_week_273 ?_
                          have hLU2 : LR (setL (drawS (drawS U)) r2) mk3 (up hw3 1 r2) := LR_L (S := (drawS (drawS U))) r2 i28_3
                          have eo : offS r2 1 (setL (drawS (drawS U)) r2) = 1 := by unfold offS; exact if_neg (show ¬ ms_h U r2 < 1 by omega)
                          have eW : walkS Cu (ps p) p U = (takeS r2 1 (setL (drawS (drawS U)) r2)) := by unfold walkS; rw [if_neg (by omega), if_pos (by omega), sin_alt, er2]; unfold stealS; rw [if_pos (show hideP (ps p) = -1 by unfold hideP; rw [if_neg (by omega)])]
                          have hT2 := LR_take (c := r2) (n := 1) (S := (setL (drawS (drawS U)) r2)) (by omega) hLU2
                          rw [eo] at hT2
                          have hLN : LR (walkS Cu (ps p) p U) mk3 (up (up hw3 1 r2) 3 ((up hw3 1 r2) 3 + 1)) := by rw [eW]; exact hT2
                          have hsN : sd1_19 0 = ms_s (walkS Cu (ps p) p U) := by rw [eW]; exact qsd1_19
                          refine j_st (ws' := [(hh, aI (Y 0) 7 (ms_h (walkS Cu (ps p) p U))), (km, aI (Y 0) 63 mk3), (ho, aI (Y 0) 7 (up (up hw3 1 r2) 3 ((up hw3 1 r2) 3 + 1))), (sa, aL (Y 1) 1 sd1_19)]) (by rw [eW]; unfold takeS; rw [eo]; first | done | rfl) rfl rfl ?_
                          refine j_iinc (pc := 274) (lc' := [(9, vI (kx + 1)), (10, vI 0), (0, .ref wa), (1, vI np), (2, .ref ca), (3, .ref hh), (4, .ref km), (5, .ref ho), (6, .ref sa), (7, vI p), (8, vI (pk (ps p)))]) C 10 rfl (by decide) rfl dL_week_274 ?_
                          refine j_goto (pc := 277) C 28 rfl dL_week_277 ?_
                          refine j_locals (lc' := [(0, .ref wa), (1, vI np), (2, .ref ca), (3, .ref hh), (4, .ref km), (5, .ref ho), (6, .ref sa), (7, vI p), (8, vI (pk (ps p))), (9, vI (kx + 1))]) [2, 3, 4, 5, 6, 7, 8, 9, 10, 0] rfl ?_
                          exact ih28 (kx + 1) (walkS Cu (ps p) p U) mk3 (up (up hw3 1 r2) 3 ((up hw3 1 r2) 3 + 1)) sd1_19 (by omega) (by omega) (by rw [i28_1]; exact (parS_succ (by omega)).symm) (by have := okS_walk (num := p) i28_2.1 hC hPp (by omega); exact ⟨this.1, this.2.trans i28_2.2⟩) hLN hsN
                        · skip
                          refine j_st (ws' := [(hh, aI (Y 0) 7 (ms_h (setH (setL (drawS (drawS U)) r2) (up (ms_h U) r2 (ms_h U r2 - 1))))), (km, aI (Y 0) 63 mk3), (ho, aI (Y 0) 7 (up hw3 1 r2)), (sa, aL (Y 1) 1 sd1_19)]) rfl rfl rfl ?_
                          have hide2 : hideP (ps p) = pn (ps p) := by unfold hideP; rw [if_pos (by omega)]
                          have hSH : okS (setH (setL (drawS (drawS U)) r2) (up (ms_h U) r2 (ms_h U r2 - 1))) := okS_H (okS_L hU2 hr2) hr2 (show ¬ ms_h U r2 = 0 by omega)
                          have hLH : LR (setH (setL (drawS (drawS U)) r2) (up (ms_h U) r2 (ms_h U r2 - 1))) mk3 (up hw3 1 r2) := LR_H (S := (setL (drawS (drawS U)) r2)) (show ms_h U r2 - 1 ≤ ms_h U r2 by omega) (LR_L (S := (drawS (drawS U))) r2 i28_3)
                          refine j_aload_n (pc := 245) C 3 4 rfl rfl dL_week_245 ?_
                          refine j_aload (pc := 246) C 5 rfl dL_week_246 ?_
                          refine j_aload (pc := 248) C 6 rfl dL_week_248 ?_
                          refine j_aload_n (pc := 250) C 0 1 rfl rfl dL_week_250 ?_
                          refine j_iconst (pc := 251) C dL_week_251 ?_
                          refine j_iload (pc := 252) C 8 rfl dL_week_252 ?_
                          refine j_imul (pc := 254) C dL_week_254 ?_
                          refine j_iconst (pc := 255) C dL_week_255 ?_
                          refine j_iadd (pc := 256) C dL_week_256 ?_
                          refine j_iald (pc := 257) C (Or.inr w0) rfl (by omega) (by decide) dL_week_257 ?_
                          refine j_st (st' := [vI (pn (ps p)), .ref ho, .ref km, .ref hh]) rfl rfl (congrArg (fun z => vI z :: [.ref ho, .ref km, .ref hh]) (show who ((5 * p) + 1) = pn (ps p) from hw5.2.1)) ?_
                          refine j_iload (pc := 258) C 0 rfl dL_week_258 ?_
                          refine j_callSv (pc := 260) (As := [.ref hh, .ref km, .ref ho, vI (pn (ps p)), vI 0]) (na := 5) (st := []) C [0, 1, 2] [3] (wr := [(sa, aL (Y 1) 1 sd1_19)]) (fun l => l_lay l D Y _ hh km ho (setH (setL (drawS (drawS U)) r2) (up (ms_h U) r2 (ms_h U r2 - 1))) mk3 (up hw3 1 r2) (pn (ps p)) 0 (markS r2 0 (setL (drawS (drawS U)) r2)) hSH (by omega) hLH hx2 hxy2) rfl rfl rfl rfl (by decide) rfl gL_week_L_lay (by decide +kernel) (by decide) rfl rfl (Nat.le_of_ble_eq_true rfl) (by decide) dL_week_260 (fun w_50 h_51 => ?_)
                          obtain ⟨mk1_52, hw1_53, qmk1_52, rfl⟩ := h_51
                          refine j_perm (ws' := [(hh, aI (Y 0) 7 (ms_h ((putS (pn (ps p)) (markS r2 0 (setL (drawS (drawS U)) r2)) (setH (setL (drawS (drawS U)) r2) (up (ms_h U) r2 (ms_h U r2 - 1))))))), (km, aI (Y 0) 63 mk1_52), (ho, aI (Y 0) 7 hw1_53), (sa, aL (Y 1) 1 sd1_19)]) [1, 2, 3, 0] rfl rfl ?_
                          refine j_goto (pc := 263) C 274 rfl dL_week_263 ?_
                          have hLU2 : LR (setL (drawS (drawS U)) r2) mk3 (up hw3 1 r2) := LR_L (S := (drawS (drawS U))) r2 i28_3
                          have eW : walkS Cu (ps p) p U = (putS (pn (ps p)) (markS r2 0 (setL (drawS (drawS U)) r2)) (setH (setL (drawS (drawS U)) r2) (up (ms_h U) r2 (ms_h U r2 - 1)))) := by unfold walkS; rw [if_neg (by omega), if_pos (by omega), sin_alt, er2]; unfold stealS; rw [hide2, if_neg (by omega)]; exact if_neg (show ¬ ms_h U r2 = 0 by omega)
                          have hLN : LR (walkS Cu (ps p) p U) mk1_52 hw1_53 := by rw [eW]; exact qmk1_52
                          have hsN : sd1_19 0 = ms_s (walkS Cu (ps p) p U) := by rw [eW]; exact qsd1_19.trans (show ms_s (drawS (drawS U)) = ms_s (putS (pn (ps p)) (markS r2 0 (setL (drawS (drawS U)) r2)) (setH (setL (drawS (drawS U)) r2) (up (ms_h U) r2 (ms_h U r2 - 1)))) from (putS_s (pn (ps p)) (markS r2 0 (setL (drawS (drawS U)) r2)) (setH (setL (drawS (drawS U)) r2) (up (ms_h U) r2 (ms_h U r2 - 1)))).symm)
                          refine j_st (ws' := [(hh, aI (Y 0) 7 (ms_h (walkS Cu (ps p) p U))), (km, aI (Y 0) 63 mk1_52), (ho, aI (Y 0) 7 hw1_53), (sa, aL (Y 1) 1 sd1_19)]) (by rw [eW]; first | done | rfl) rfl rfl ?_
                          refine j_iinc (pc := 274) (lc' := [(9, vI (kx + 1)), (10, vI 0), (0, .ref wa), (1, vI np), (2, .ref ca), (3, .ref hh), (4, .ref km), (5, .ref ho), (6, .ref sa), (7, vI p), (8, vI (pk (ps p)))]) C 10 rfl (by decide) rfl dL_week_274 ?_
                          refine j_goto (pc := 277) C 28 rfl dL_week_277 ?_
                          refine j_locals (lc' := [(0, .ref wa), (1, vI np), (2, .ref ca), (3, .ref hh), (4, .ref km), (5, .ref ho), (6, .ref sa), (7, vI p), (8, vI (pk (ps p))), (9, vI (kx + 1))]) [2, 3, 4, 5, 6, 7, 8, 9, 10, 0] rfl ?_
                          exact ih28 (kx + 1) (walkS Cu (ps p) p U) mk1_52 hw1_53 sd1_19 (by omega) (by omega) (by rw [i28_1]; exact (parS_succ (by omega)).symm) (by have := okS_walk (num := p) i28_2.1 hC hPp (by omega); exact ⟨this.1, this.2.trans i28_2.2⟩) hLN hsN
                      · skip
                        refine j_aload (pc := 216) C 4 rfl dL_week_216 ?_
                        refine j_bipush (pc := 218) (w := 9) C rfl dL_week_218 ?_
                        refine j_aload (pc := 220) C 5 rfl dL_week_220 ?_
                        refine j_iconst (pc := 222) C dL_week_222 ?_
                        refine j_iald (pc := 223) C (Or.inl (List.mem_of_getElem? (i := 2) rfl)) rfl (by omega) (by decide) dL_week_223 ?_
                        refine j_st (st' := [vI r2, vI 9, .ref km]) rfl rfl (congrArg (fun z => vI z :: [vI 9, .ref km]) (up_same _ _ _)) ?_
                        refine j_imul (pc := 224) C dL_week_224 ?_
                        refine j_aload_n (pc := 225) C 3 3 rfl rfl dL_week_225 ?_
                        refine j_aload (pc := 226) C 5 rfl dL_week_226 ?_
                        refine j_iconst (pc := 228) C dL_week_228 ?_
                        refine j_iald (pc := 229) C (Or.inl (List.mem_of_getElem? (i := 2) rfl)) rfl (by omega) (by decide) dL_week_229 ?_
                        refine j_st (st' := [vI r2, .ref hh, vI (9 * r2), .ref km]) rfl rfl (congrArg (fun z => vI z :: [.ref hh, vI (9 * r2), .ref km]) (up_same _ _ _)) ?_
                        refine j_iald (pc := 230) C (Or.inl (List.mem_of_getElem? (i := 0) rfl)) rfl (by omega) (by decide) dL_week_230 ?_
                        refine j_st (st' := [vI (ms_h U r2 - 1), vI (9 * r2), .ref km]) rfl rfl (congrArg (fun z => vI z :: [vI (9 * r2), .ref km]) (up_same _ _ _)) ?_
                        refine j_iadd (pc := 231) C dL_week_231 ?_
                        refine j_iald (pc := 232) C (Or.inl (List.mem_of_getElem? (i := 1) rfl)) rfl (by omega) (by decide) dL_week_232 ?_
                        refine j_goto (pc := 233) C 237 rfl dL_week_233 ?_
                        have hy2 : (markS r2 0 (setL (drawS (drawS U)) r2)) = ms_m U (60 * r2 + (ms_h U r2 - 1)) := by unfold markS; exact (if_pos (show 0 ≤ (0 : Int) ∧ 0 < ms_h U r2 by omega)).trans (congrArg (ms_m U) (by show 60 * r2 + (ms_h U r2 - 1 - 0) = _; omega))
                        have hxy2 : (up hw3 1 r2) 6 = 0 → mk3 ((9 * r2) + (ms_h U r2 - 1)) = (markS r2 0 (setL (drawS (drawS U)) r2)) := fun q => by have q1 := i28_3.2.2.2 q r2 hr2.1 hr2.2; rw [hy2]; first | exact q1.2 (ms_h U r2 - 1) (by omega) (by omega) | (exfalso; omega)
                        have hx2 : (0 : Int) ≤ mk3 ((9 * r2) + (ms_h U r2 - 1)) ∧ mk3 ((9 * r2) + (ms_h U r2 - 1)) ≤ ms_w U := by have := i28_2.1.w; first | exact i28_3.1 _ | omega
                        refine j_istore (pc := 237) (lc' := [(10, vI (mk3 ((9 * r2) + (ms_h U r2 - 1)))), (0, .ref wa), (1, vI np), (2, .ref ca), (3, .ref hh), (4, .ref km), (5, .ref ho), (6, .ref sa), (7, vI p), (8, vI (pk (ps p))), (9, vI kx)]) C (by decide) rfl dL_week_237 ?_
                        refine j_iload (pc := 239) C 9 rfl dL_week_239 ?_
                        refine j_iconst (pc := 241) C dL_week_241 ?_
                        refine j_icmp_le (pc := 242) C 266 rfl (by omega) dL_week_242 (fun h_54p242 => ?_) (fun h_54p242 => ?_)
                        · skip
                          refine j_aload (pc := 266) C 6 rfl dL_week_266 ?_
                          refine j_iconst (pc := 268) C dL_week_268 ?_
                          refine j_dup2 (pc := 269) C rfl rfl dL_week_269 ?_
                          refine j_iald (pc := 270) C (Or.inl (List.mem_of_getElem? (i := 2) rfl)) rfl (by omega) (by decide) dL_week_270 ?_
                          refine j_iconst (pc := 271) C dL_week_271 ?_
                          refine j_iadd (pc := 272) C dL_week_272 ?_
                          refine j_iast (pc := 273) (ws' := [(hh, aI (Y 0) 7 (up (ms_h U) r2 (ms_h U r2 - 1))), (km, aI (Y 0) 63 mk3), (ho, aI (Y 0) 7 (up (up hw3 1 r2) 3 ((up hw3 1 r2) 3 + 1))), (sa, aL (Y 1) 1 sd1_19)]) C 2 rfl rfl (by omega) (by decide) rfl dL_week_273 ?_
                          have hLU2 : LR (setL (drawS (drawS U)) r2) mk3 (up hw3 1 r2) := LR_L (S := (drawS (drawS U))) r2 i28_3
                          have eo : offS r2 1 (setL (drawS (drawS U)) r2) = 1 := by unfold offS; exact if_neg (show ¬ ms_h U r2 < 1 by omega)
                          have eW : walkS Cu (ps p) p U = (takeS r2 1 (setL (drawS (drawS U)) r2)) := by unfold walkS; rw [if_neg (by omega), if_pos (by omega), sin_alt, er2]; unfold stealS; rw [if_pos (show hideP (ps p) = -1 by unfold hideP; rw [if_neg (by omega)])]
                          have hT2 := LR_take (c := r2) (n := 1) (S := (setL (drawS (drawS U)) r2)) (by omega) hLU2
                          rw [eo] at hT2
                          have hLN : LR (walkS Cu (ps p) p U) mk3 (up (up hw3 1 r2) 3 ((up hw3 1 r2) 3 + 1)) := by rw [eW]; exact hT2
                          have hsN : sd1_19 0 = ms_s (walkS Cu (ps p) p U) := by rw [eW]; exact qsd1_19
                          refine j_st (ws' := [(hh, aI (Y 0) 7 (ms_h (walkS Cu (ps p) p U))), (km, aI (Y 0) 63 mk3), (ho, aI (Y 0) 7 (up (up hw3 1 r2) 3 ((up hw3 1 r2) 3 + 1))), (sa, aL (Y 1) 1 sd1_19)]) (by rw [eW]; unfold takeS; rw [eo]; first | done | rfl) rfl rfl ?_
                          refine j_iinc (pc := 274) (lc' := [(9, vI (kx + 1)), (10, vI (mk3 ((9 * r2) + (ms_h U r2 - 1)))), (0, .ref wa), (1, vI np), (2, .ref ca), (3, .ref hh), (4, .ref km), (5, .ref ho), (6, .ref sa), (7, vI p), (8, vI (pk (ps p)))]) C 10 rfl (by decide) rfl dL_week_274 ?_
                          refine j_goto (pc := 277) C 28 rfl dL_week_277 ?_
                          refine j_locals (lc' := [(0, .ref wa), (1, vI np), (2, .ref ca), (3, .ref hh), (4, .ref km), (5, .ref ho), (6, .ref sa), (7, vI p), (8, vI (pk (ps p))), (9, vI (kx + 1))]) [2, 3, 4, 5, 6, 7, 8, 9, 10, 0] rfl ?_
                          exact ih28 (kx + 1) (walkS Cu (ps p) p U) mk3 (up (up hw3 1 r2) 3 ((up hw3 1 r2) 3 + 1)) sd1_19 (by omega) (by omega) (by rw [i28_1]; exact (parS_succ (by omega)).symm) (by have := okS_walk (num := p) i28_2.1 hC hPp (by omega); exact ⟨this.1, this.2.trans i28_2.2⟩) hLN hsN
                        · skip
                          refine j_st (ws' := [(hh, aI (Y 0) 7 (ms_h (setH (setL (drawS (drawS U)) r2) (up (ms_h U) r2 (ms_h U r2 - 1))))), (km, aI (Y 0) 63 mk3), (ho, aI (Y 0) 7 (up hw3 1 r2)), (sa, aL (Y 1) 1 sd1_19)]) rfl rfl rfl ?_
                          have hide2 : hideP (ps p) = pn (ps p) := by unfold hideP; rw [if_pos (by omega)]
                          have hSH : okS (setH (setL (drawS (drawS U)) r2) (up (ms_h U) r2 (ms_h U r2 - 1))) := okS_H (okS_L hU2 hr2) hr2 (show ¬ ms_h U r2 = 0 by omega)
                          have hLH : LR (setH (setL (drawS (drawS U)) r2) (up (ms_h U) r2 (ms_h U r2 - 1))) mk3 (up hw3 1 r2) := LR_H (S := (setL (drawS (drawS U)) r2)) (show ms_h U r2 - 1 ≤ ms_h U r2 by omega) (LR_L (S := (drawS (drawS U))) r2 i28_3)
                          refine j_aload_n (pc := 245) C 3 4 rfl rfl dL_week_245 ?_
                          refine j_aload (pc := 246) C 5 rfl dL_week_246 ?_
                          refine j_aload (pc := 248) C 6 rfl dL_week_248 ?_
                          refine j_aload_n (pc := 250) C 0 1 rfl rfl dL_week_250 ?_
                          refine j_iconst (pc := 251) C dL_week_251 ?_
                          refine j_iload (pc := 252) C 8 rfl dL_week_252 ?_
                          refine j_imul (pc := 254) C dL_week_254 ?_
                          refine j_iconst (pc := 255) C dL_week_255 ?_
                          refine j_iadd (pc := 256) C dL_week_256 ?_
                          refine j_iald (pc := 257) C (Or.inr w0) rfl (by omega) (by decide) dL_week_257 ?_
                          refine j_st (st' := [vI (pn (ps p)), .ref ho, .ref km, .ref hh]) rfl rfl (congrArg (fun z => vI z :: [.ref ho, .ref km, .ref hh]) (show who ((5 * p) + 1) = pn (ps p) from hw5.2.1)) ?_
                          refine j_iload (pc := 258) C 0 rfl dL_week_258 ?_
                          refine j_callSv (pc := 260) (As := [.ref hh, .ref km, .ref ho, vI (pn (ps p)), vI (mk3 ((9 * r2) + (ms_h U r2 - 1)))]) (na := 5) (st := []) C [0, 1, 2] [3] (wr := [(sa, aL (Y 1) 1 sd1_19)]) (fun l => l_lay l D Y _ hh km ho (setH (setL (drawS (drawS U)) r2) (up (ms_h U) r2 (ms_h U r2 - 1))) mk3 (up hw3 1 r2) (pn (ps p)) (mk3 ((9 * r2) + (ms_h U r2 - 1))) (markS r2 0 (setL (drawS (drawS U)) r2)) hSH (by omega) hLH hx2 hxy2) rfl rfl rfl rfl (by decide) rfl gL_week_L_lay (by decide +kernel) (by decide) rfl rfl (Nat.le_of_ble_eq_true rfl) (by decide) dL_week_260 (fun w_56 h_57 => ?_)
                          obtain ⟨mk1_58, hw1_59, qmk1_58, rfl⟩ := h_57
                          refine j_perm (ws' := [(hh, aI (Y 0) 7 (ms_h ((putS (pn (ps p)) (markS r2 0 (setL (drawS (drawS U)) r2)) (setH (setL (drawS (drawS U)) r2) (up (ms_h U) r2 (ms_h U r2 - 1))))))), (km, aI (Y 0) 63 mk1_58), (ho, aI (Y 0) 7 hw1_59), (sa, aL (Y 1) 1 sd1_19)]) [1, 2, 3, 0] rfl rfl ?_
                          refine j_goto (pc := 263) C 274 rfl dL_week_263 ?_
                          have hLU2 : LR (setL (drawS (drawS U)) r2) mk3 (up hw3 1 r2) := LR_L (S := (drawS (drawS U))) r2 i28_3
                          have eW : walkS Cu (ps p) p U = (putS (pn (ps p)) (markS r2 0 (setL (drawS (drawS U)) r2)) (setH (setL (drawS (drawS U)) r2) (up (ms_h U) r2 (ms_h U r2 - 1)))) := by unfold walkS; rw [if_neg (by omega), if_pos (by omega), sin_alt, er2]; unfold stealS; rw [hide2, if_neg (by omega)]; exact if_neg (show ¬ ms_h U r2 = 0 by omega)
                          have hLN : LR (walkS Cu (ps p) p U) mk1_58 hw1_59 := by rw [eW]; exact qmk1_58
                          have hsN : sd1_19 0 = ms_s (walkS Cu (ps p) p U) := by rw [eW]; exact qsd1_19.trans (show ms_s (drawS (drawS U)) = ms_s (putS (pn (ps p)) (markS r2 0 (setL (drawS (drawS U)) r2)) (setH (setL (drawS (drawS U)) r2) (up (ms_h U) r2 (ms_h U r2 - 1)))) from (putS_s (pn (ps p)) (markS r2 0 (setL (drawS (drawS U)) r2)) (setH (setL (drawS (drawS U)) r2) (up (ms_h U) r2 (ms_h U r2 - 1)))).symm)
                          refine j_st (ws' := [(hh, aI (Y 0) 7 (ms_h (walkS Cu (ps p) p U))), (km, aI (Y 0) 63 mk1_58), (ho, aI (Y 0) 7 hw1_59), (sa, aL (Y 1) 1 sd1_19)]) (by rw [eW]; first | done | rfl) rfl rfl ?_
                          refine j_iinc (pc := 274) (lc' := [(9, vI (kx + 1)), (10, vI (mk3 ((9 * r2) + (ms_h U r2 - 1)))), (0, .ref wa), (1, vI np), (2, .ref ca), (3, .ref hh), (4, .ref km), (5, .ref ho), (6, .ref sa), (7, vI p), (8, vI (pk (ps p)))]) C 10 rfl (by decide) rfl dL_week_274 ?_
                          refine j_goto (pc := 277) C 28 rfl dL_week_277 ?_
                          refine j_locals (lc' := [(0, .ref wa), (1, vI np), (2, .ref ca), (3, .ref hh), (4, .ref km), (5, .ref ho), (6, .ref sa), (7, vI p), (8, vI (pk (ps p))), (9, vI (kx + 1))]) [2, 3, 4, 5, 6, 7, 8, 9, 10, 0] rfl ?_
                          exact ih28 (kx + 1) (walkS Cu (ps p) p U) mk1_58 hw1_59 sd1_19 (by omega) (by omega) (by rw [i28_1]; exact (parS_succ (by omega)).symm) (by have := okS_walk (num := p) i28_2.1 hC hPp (by omega); exact ⟨this.1, this.2.trans i28_2.2⟩) hLN hsN
              · skip
                refine j_aload (pc := 59) C 5 rfl dL_week_59 ?_
                refine j_iconst (pc := 61) C dL_week_61 ?_
                refine j_aload_n (pc := 62) C 2 2 rfl rfl dL_week_62 ?_
                refine j_iconst (pc := 63) C dL_week_63 ?_
                refine j_iald (pc := 64) C (Or.inr c0) rfl (by omega) (by decide) dL_week_64 ?_
                refine j_st (st' := [vI (cw Cu), vI 1, .ref ho]) rfl rfl (congrArg (fun z => vI z :: [vI 1, .ref ho]) (show cu 0 = (cw Cu) from hcu.1)) ?_
                refine j_aload_n (pc := 65) C 3 3 rfl rfl dL_week_65 ?_
                refine j_aload (pc := 66) C 5 rfl dL_week_66 ?_
                refine j_iconst (pc := 68) C dL_week_68 ?_
                refine j_iald (pc := 69) C (Or.inl (List.mem_of_getElem? (i := 2) rfl)) rfl (by omega) (by decide) dL_week_69 ?_
                refine j_st (st' := [vI (ms_l U), .ref hh, vI (cw Cu), vI 1, .ref ho]) rfl rfl (congrArg (fun z => vI z :: [.ref hh, vI (cw Cu), vI 1, .ref ho]) (show hw3 1 = (ms_l U) from i28_3.2.1.2.1)) ?_
                refine j_iload (pc := 70) C 7 rfl dL_week_70 ?_
                refine j_callSi (pc := 72) (As := [vI (cw Cu), .ref hh, vI (ms_l U), vI p]) (na := 4) (st := [vI 1, .ref ho]) C [] [0, 1, 2, 3] (wr := [(hh, aI (Y 0) 7 (ms_h U)), (km, aI (Y 0) 63 mk3), (ho, aI (Y 0) 7 hw3), (sa, aL (Y 1) 1 sd1_14)]) (fun l => l_rule l D Y _ hh (ms_h U) (cw Cu) (ms_l U) p (List.mem_append_left _ (List.mem_of_getElem? (i := 0) rfl)) hC1 (fun i hi => i28_2.1.1 i hi) i28_2.1.2.2.1 (by omega)) rfl rfl rfl rfl (by decide) rfl gL_week_L_rule (by decide +kernel) (by decide) rfl rfl (Nat.le_of_ble_eq_true rfl) (by decide) dL_week_72 (fun e_60 w_61 h_62 => ?_)
                obtain ⟨rfl, rfl⟩ := h_62
                refine j_perm (ws' := [(hh, aI (Y 0) 7 (ms_h U)), (km, aI (Y 0) 63 mk3), (ho, aI (Y 0) 7 hw3), (sa, aL (Y 1) 1 sd1_14)]) [0, 1, 2, 3] rfl rfl ?_
                refine j_st (st' := [vI (ruleS (cw Cu) p (drawS U)), vI 1, .ref ho]) rfl rfl (congrArg (fun z => vI z :: [vI 1, .ref ho]) (show (ruleL (cw Cu) (ms_h U) (ms_l U) p) = (ruleS (cw Cu) p (drawS U)) from rfl)) ?_
                obtain ⟨r1, er1⟩ : ∃ z : Int, (ruleS (cw Cu) p (drawS U)) = z := ⟨_, rfl⟩
                refine j_st (st' := [vI r1, vI 1, .ref ho]) rfl rfl (congrArg (fun z => vI z :: [vI 1, .ref ho]) er1) ?_
                have hr1 := ruleS_in hC.1 (num := p) (by omega) hU1
                rw [er1] at hr1
                refine j_iast (pc := 75) (ws' := [(hh, aI (Y 0) 7 (ms_h U)), (km, aI (Y 0) 63 mk3), (ho, aI (Y 0) 7 (up hw3 1 r1)), (sa, aL (Y 1) 1 sd1_14)]) C 2 rfl rfl (by omega) (by decide) rfl dL_week_75 ?_
                refine j_iload (pc := 76) C 8 rfl dL_week_76 ?_
                refine j_iconst (pc := 78) C dL_week_78 ?_
                refine j_icmp_ne (pc := 79) C 93 rfl (by omega) dL_week_79 (fun h_63p79 => ?_) (fun h_63p79 => ?_)
                · skip
                  refine j_iconst (pc := 93) C dL_week_93 ?_
                  refine j_st (st' := [vI (giftP (ps p))]) rfl rfl (congrArg (fun z => vI z :: []) (show 1 = (giftP (ps p)) from by unfold giftP; first | rw [if_pos (by omega)] | rw [if_neg (by omega)])) ?_
                  have hg := giftP_in hPp
                  refine j_istore (pc := 94) (lc' := [(10, vI (giftP (ps p))), (0, .ref wa), (1, vI np), (2, .ref ca), (3, .ref hh), (4, .ref km), (5, .ref ho), (6, .ref sa), (7, vI p), (8, vI (pk (ps p))), (9, vI kx)]) C (by decide) rfl dL_week_94 ?_
                  have hV0 : okS (setL (drawS U) r1) := okS_L hU1 hr1
                  have hLV0 : LR (setL (drawS U) r1) mk3 (up hw3 1 r1) := LR_L (S := drawS U) r1 i28_3
                  refine j_st (ws' := [(hh, aI (Y 0) 7 (ms_h (setL (drawS U) r1))), (km, aI (Y 0) 63 mk3), (ho, aI (Y 0) 7 (up hw3 1 r1)), (sa, aL (Y 1) 1 sd1_14)]) rfl rfl rfl ?_
                  refine j_iconst (pc := 96) C dL_week_96 ?_
                  refine j_istore (pc := 97) (lc' := [(11, vI 0), (10, vI (giftP (ps p))), (0, .ref wa), (1, vI np), (2, .ref ca), (3, .ref hh), (4, .ref km), (5, .ref ho), (6, .ref sa), (7, vI p), (8, vI (pk (ps p))), (9, vI kx)]) C (by decide) rfl dL_week_97 ?_
                  have hL99 : ∀ (N99 : Nat) (i : Int) (V : MS) (mk4 : Int → Int) (hw4 : Int → Int), ((giftP (ps p) - i).toNat) < N99 → (0 ≤ i ∧ i ≤ giftP (ps p)) → (V = putN r1 i (setL (drawS U) r1)) → (okS V ∧ ms_w V = ms_w S + 1) → (LR V mk4 hw4) → (ms_l V = r1 ∧ ms_s V = ms_s (drawS U)) → jW X 12 0 0 [(hh, aI (Y 0) 7 (ms_h V)), (km, aI (Y 0) 63 mk4), (ho, aI (Y 0) 7 hw4), (sa, aL (Y 1) 1 sd1_14)] [(0, .ref wa), (1, vI np), (2, .ref ca), (3, .ref hh), (4, .ref km), (5, .ref ho), (6, .ref sa), (7, vI p), (8, vI (pk (ps p))), (9, vI kx), (10, vI (giftP (ps p))), (11, vI i)] 99 [] := by
                    intro N99
                    induction N99 with
                    | zero => intro i V mk4 hw4 hm99 i99_0 i99_1 i99_2 i99_3 i99_4; omega
                    | succ N99 ih99 =>
                      intro i V mk4 hw4 hm99 i99_0 i99_1 i99_2 i99_3 i99_4
                      refine j_iload (pc := 99) C 11 rfl dL_week_99 ?_
                      refine j_iload (pc := 101) C 10 rfl dL_week_101 ?_
                      refine j_icmp_ge (pc := 103) C 128 rfl (by omega) dL_week_103 (fun h_64p103 => ?_) (fun h_64p103 => ?_)
                      · skip
                        refine j_aload (pc := 128) C 5 rfl dL_week_128 ?_
                        refine j_iconst (pc := 130) C dL_week_130 ?_
                        refine j_dup2 (pc := 131) C rfl rfl dL_week_131 ?_
                        refine j_iald (pc := 132) C (Or.inl (List.mem_of_getElem? (i := 2) rfl)) rfl (by omega) (by decide) dL_week_132 ?_
                        refine j_iload (pc := 133) C 10 rfl dL_week_133 ?_
                        refine j_iadd (pc := 135) C dL_week_135 ?_
                        refine j_iast (pc := 136) (ws' := [(hh, aI (Y 0) 7 (ms_h V)), (km, aI (Y 0) 63 mk4), (ho, aI (Y 0) 7 (up hw4 2 (hw4 2 + (giftP (ps p))))), (sa, aL (Y 1) 1 sd1_14)]) C 2 rfl rfl (by omega) (by decide) rfl dL_week_136 ?_
                        refine j_goto (pc := 137) C 274 rfl dL_week_137 ?_
                        have ei : i = giftP (ps p) := by omega
                        rw [ei] at i99_1
                        have eW : walkS Cu (ps p) p U = (setA V (ms_a V + giftP (ps p))) := by unfold walkS; rw [if_pos (by omega), wish_alt, er1, i99_1]; rfl
                        have hLN : LR (walkS Cu (ps p) p U) mk4 (up hw4 2 (hw4 2 + (giftP (ps p)))) := by rw [eW]; exact LR_A _ i99_3
                        have hsN : sd1_14 0 = ms_s (walkS Cu (ps p) p U) := by rw [eW]; exact qsd1_14.trans (show ms_s (drawS U) = ms_s (setA V (ms_a V + giftP (ps p))) from (i99_4.2).symm)
                        refine j_st (ws' := [(hh, aI (Y 0) 7 (ms_h (walkS Cu (ps p) p U))), (km, aI (Y 0) 63 mk4), (ho, aI (Y 0) 7 (up hw4 2 (hw4 2 + (giftP (ps p))))), (sa, aL (Y 1) 1 sd1_14)]) (by rw [eW]; first | done | rfl) rfl rfl ?_
                        refine j_iinc (pc := 274) (lc' := [(9, vI (kx + 1)), (0, .ref wa), (1, vI np), (2, .ref ca), (3, .ref hh), (4, .ref km), (5, .ref ho), (6, .ref sa), (7, vI p), (8, vI (pk (ps p))), (10, vI (giftP (ps p))), (11, vI i)]) C 9 rfl (by decide) rfl dL_week_274 ?_
                        refine j_goto (pc := 277) C 28 rfl dL_week_277 ?_
                        refine j_locals (lc' := [(0, .ref wa), (1, vI np), (2, .ref ca), (3, .ref hh), (4, .ref km), (5, .ref ho), (6, .ref sa), (7, vI p), (8, vI (pk (ps p))), (9, vI (kx + 1))]) [1, 2, 3, 4, 5, 6, 7, 8, 9, 0] rfl ?_
                        exact ih28 (kx + 1) (walkS Cu (ps p) p U) mk4 (up hw4 2 (hw4 2 + (giftP (ps p)))) sd1_14 (by omega) (by omega) (by rw [i28_1]; exact (parS_succ (by omega)).symm) (by have := okS_walk (num := p) i28_2.1 hC hPp (by omega); exact ⟨this.1, this.2.trans i28_2.2⟩) hLN hsN
                      · skip
                        refine j_aload_n (pc := 106) C 3 3 rfl rfl dL_week_106 ?_
                        refine j_aload (pc := 107) C 4 rfl dL_week_107 ?_
                        refine j_aload (pc := 109) C 5 rfl dL_week_109 ?_
                        refine j_aload (pc := 111) C 5 rfl dL_week_111 ?_
                        refine j_iconst (pc := 113) C dL_week_113 ?_
                        refine j_iald (pc := 114) C (Or.inl (List.mem_of_getElem? (i := 2) rfl)) rfl (by omega) (by decide) dL_week_114 ?_
                        refine j_st (st' := [vI r1, .ref ho, .ref km, .ref hh]) rfl rfl (congrArg (fun z => vI z :: [.ref ho, .ref km, .ref hh]) (show hw4 1 = r1 from i99_3.2.1.2.1.trans i99_4.1)) ?_
                        refine j_aload (pc := 115) C 5 rfl dL_week_115 ?_
                        refine j_iconst (pc := 117) C dL_week_117 ?_
                        refine j_iald (pc := 118) C (Or.inl (List.mem_of_getElem? (i := 2) rfl)) rfl (by omega) (by decide) dL_week_118 ?_
                        refine j_st (st' := [vI (ms_w V), vI r1, .ref ho, .ref km, .ref hh]) rfl rfl (congrArg (fun z => vI z :: [vI r1, .ref ho, .ref km, .ref hh]) (show hw4 0 = (ms_w V) from i99_3.2.1.1)) ?_
                        refine j_callSv (pc := 119) (As := [.ref hh, .ref km, .ref ho, vI r1, vI (ms_w V)]) (na := 5) (st := []) C [0, 1, 2] [3] (wr := [(sa, aL (Y 1) 1 sd1_14)]) (fun l => l_lay l D Y _ hh km ho V mk4 hw4 r1 (ms_w V) (ms_w V) i99_2.1 hr1 i99_3 ⟨i99_2.1.w, Int.le_refl _⟩ (fun _ => rfl)) rfl rfl rfl rfl (by decide) rfl gL_week_L_lay (by decide +kernel) (by decide) rfl rfl (Nat.le_of_ble_eq_true rfl) (by decide) dL_week_119 (fun w_66 h_67 => ?_)
                        obtain ⟨mk1_68, hw1_69, qmk1_68, rfl⟩ := h_67
                        refine j_perm (ws' := [(hh, aI (Y 0) 7 (ms_h ((putS r1 (ms_w V) V)))), (km, aI (Y 0) 63 mk1_68), (ho, aI (Y 0) 7 hw1_69), (sa, aL (Y 1) 1 sd1_14)]) [1, 2, 3, 0] rfl rfl ?_
                        refine j_iinc (pc := 122) (lc' := [(11, vI (i + 1)), (0, .ref wa), (1, vI np), (2, .ref ca), (3, .ref hh), (4, .ref km), (5, .ref ho), (6, .ref sa), (7, vI p), (8, vI (pk (ps p))), (9, vI kx), (10, vI (giftP (ps p)))]) C 11 rfl (by decide) rfl dL_week_122 ?_
                        refine j_goto (pc := 125) C 99 rfl dL_week_125 ?_
                        refine j_locals (lc' := [(0, .ref wa), (1, vI np), (2, .ref ca), (3, .ref hh), (4, .ref km), (5, .ref ho), (6, .ref sa), (7, vI p), (8, vI (pk (ps p))), (9, vI kx), (10, vI (giftP (ps p))), (11, vI (i + 1))]) [1, 2, 3, 4, 5, 6, 7, 8, 9, 10, 11, 0] rfl ?_
                        exact ih99 (i + 1) ((putS r1 (ms_w V) V)) mk1_68 hw1_69 (by omega) (by omega) (by rw [i99_1]; exact (lay_succ (by omega)).symm) ⟨okS_put i99_2.1 hr1 ⟨i99_2.1.w, Int.le_refl _⟩, (putS_w _ _ _).trans i99_2.2⟩ qmk1_68 ⟨(putS_l _ _ _).trans i99_4.1, (putS_s _ _ _).trans i99_4.2⟩
                  refine j_locals (lc' := [(0, .ref wa), (1, vI np), (2, .ref ca), (3, .ref hh), (4, .ref km), (5, .ref ho), (6, .ref sa), (7, vI p), (8, vI (pk (ps p))), (9, vI kx), (10, vI (giftP (ps p))), (11, vI 0)]) [2, 3, 4, 5, 6, 7, 8, 9, 10, 11, 1, 0] rfl ?_
                  exact hL99 _ 0 (setL (drawS U) r1) mk3 (up hw3 1 r1) (Nat.lt_succ_self _) (by omega) rfl ⟨hV0, i28_2.2⟩ hLV0 ⟨rfl, rfl⟩
                · skip
                  refine j_aload_n (pc := 82) C 0 0 rfl rfl dL_week_82 ?_
                  refine j_iconst (pc := 83) C dL_week_83 ?_
                  refine j_iload (pc := 84) C 7 rfl dL_week_84 ?_
                  refine j_imul (pc := 86) C dL_week_86 ?_
                  refine j_iconst (pc := 87) C dL_week_87 ?_
                  refine j_iadd (pc := 88) C dL_week_88 ?_
                  refine j_iald (pc := 89) C (Or.inr w0) rfl (by omega) (by decide) dL_week_89 ?_
                  refine j_st (st' := [vI (pn (ps p))]) rfl rfl (congrArg (fun z => vI z :: []) (show who ((5 * p) + 1) = pn (ps p) from hw5.2.1)) ?_
                  refine j_goto (pc := 90) C 94 rfl dL_week_90 ?_
                  refine j_st (st' := [vI (giftP (ps p))]) rfl rfl (congrArg (fun z => vI z :: []) (show pn (ps p) = (giftP (ps p)) from by unfold giftP; first | rw [if_pos (by omega)] | rw [if_neg (by omega)])) ?_
                  have hg := giftP_in hPp
                  refine j_istore (pc := 94) (lc' := [(10, vI (giftP (ps p))), (0, .ref wa), (1, vI np), (2, .ref ca), (3, .ref hh), (4, .ref km), (5, .ref ho), (6, .ref sa), (7, vI p), (8, vI (pk (ps p))), (9, vI kx)]) C (by decide) rfl dL_week_94 ?_
                  have hV0 : okS (setL (drawS U) r1) := okS_L hU1 hr1
                  have hLV0 : LR (setL (drawS U) r1) mk3 (up hw3 1 r1) := LR_L (S := drawS U) r1 i28_3
                  refine j_st (ws' := [(hh, aI (Y 0) 7 (ms_h (setL (drawS U) r1))), (km, aI (Y 0) 63 mk3), (ho, aI (Y 0) 7 (up hw3 1 r1)), (sa, aL (Y 1) 1 sd1_14)]) rfl rfl rfl ?_
                  refine j_iconst (pc := 96) C dL_week_96 ?_
                  refine j_istore (pc := 97) (lc' := [(11, vI 0), (10, vI (giftP (ps p))), (0, .ref wa), (1, vI np), (2, .ref ca), (3, .ref hh), (4, .ref km), (5, .ref ho), (6, .ref sa), (7, vI p), (8, vI (pk (ps p))), (9, vI kx)]) C (by decide) rfl dL_week_97 ?_
                  have hL99 : ∀ (N99 : Nat) (i : Int) (V : MS) (mk4 : Int → Int) (hw4 : Int → Int), ((giftP (ps p) - i).toNat) < N99 → (0 ≤ i ∧ i ≤ giftP (ps p)) → (V = putN r1 i (setL (drawS U) r1)) → (okS V ∧ ms_w V = ms_w S + 1) → (LR V mk4 hw4) → (ms_l V = r1 ∧ ms_s V = ms_s (drawS U)) → jW X 12 0 0 [(hh, aI (Y 0) 7 (ms_h V)), (km, aI (Y 0) 63 mk4), (ho, aI (Y 0) 7 hw4), (sa, aL (Y 1) 1 sd1_14)] [(0, .ref wa), (1, vI np), (2, .ref ca), (3, .ref hh), (4, .ref km), (5, .ref ho), (6, .ref sa), (7, vI p), (8, vI (pk (ps p))), (9, vI kx), (10, vI (giftP (ps p))), (11, vI i)] 99 [] := by
                    intro N99
                    induction N99 with
                    | zero => intro i V mk4 hw4 hm99 i99_0 i99_1 i99_2 i99_3 i99_4; omega
                    | succ N99 ih99 =>
                      intro i V mk4 hw4 hm99 i99_0 i99_1 i99_2 i99_3 i99_4
                      refine j_iload (pc := 99) C 11 rfl dL_week_99 ?_
                      refine j_iload (pc := 101) C 10 rfl dL_week_101 ?_
                      refine j_icmp_ge (pc := 103) C 128 rfl (by omega) dL_week_103 (fun h_70p103 => ?_) (fun h_70p103 => ?_)
                      · skip
                        refine j_aload (pc := 128) C 5 rfl dL_week_128 ?_
                        refine j_iconst (pc := 130) C dL_week_130 ?_
                        refine j_dup2 (pc := 131) C rfl rfl dL_week_131 ?_
                        refine j_iald (pc := 132) C (Or.inl (List.mem_of_getElem? (i := 2) rfl)) rfl (by omega) (by decide) dL_week_132 ?_
                        refine j_iload (pc := 133) C 10 rfl dL_week_133 ?_
                        refine j_iadd (pc := 135) C dL_week_135 ?_
                        refine j_iast (pc := 136) (ws' := [(hh, aI (Y 0) 7 (ms_h V)), (km, aI (Y 0) 63 mk4), (ho, aI (Y 0) 7 (up hw4 2 (hw4 2 + (giftP (ps p))))), (sa, aL (Y 1) 1 sd1_14)]) C 2 rfl rfl (by omega) (by decide) rfl dL_week_136 ?_
                        refine j_goto (pc := 137) C 274 rfl dL_week_137 ?_
                        have ei : i = giftP (ps p) := by omega
                        rw [ei] at i99_1
                        have eW : walkS Cu (ps p) p U = (setA V (ms_a V + giftP (ps p))) := by unfold walkS; rw [if_pos (by omega), wish_alt, er1, i99_1]; rfl
                        have hLN : LR (walkS Cu (ps p) p U) mk4 (up hw4 2 (hw4 2 + (giftP (ps p)))) := by rw [eW]; exact LR_A _ i99_3
                        have hsN : sd1_14 0 = ms_s (walkS Cu (ps p) p U) := by rw [eW]; exact qsd1_14.trans (show ms_s (drawS U) = ms_s (setA V (ms_a V + giftP (ps p))) from (i99_4.2).symm)
                        refine j_st (ws' := [(hh, aI (Y 0) 7 (ms_h (walkS Cu (ps p) p U))), (km, aI (Y 0) 63 mk4), (ho, aI (Y 0) 7 (up hw4 2 (hw4 2 + (giftP (ps p))))), (sa, aL (Y 1) 1 sd1_14)]) (by rw [eW]; first | done | rfl) rfl rfl ?_
                        refine j_iinc (pc := 274) (lc' := [(9, vI (kx + 1)), (0, .ref wa), (1, vI np), (2, .ref ca), (3, .ref hh), (4, .ref km), (5, .ref ho), (6, .ref sa), (7, vI p), (8, vI (pk (ps p))), (10, vI (giftP (ps p))), (11, vI i)]) C 9 rfl (by decide) rfl dL_week_274 ?_
                        refine j_goto (pc := 277) C 28 rfl dL_week_277 ?_
                        refine j_locals (lc' := [(0, .ref wa), (1, vI np), (2, .ref ca), (3, .ref hh), (4, .ref km), (5, .ref ho), (6, .ref sa), (7, vI p), (8, vI (pk (ps p))), (9, vI (kx + 1))]) [1, 2, 3, 4, 5, 6, 7, 8, 9, 0] rfl ?_
                        exact ih28 (kx + 1) (walkS Cu (ps p) p U) mk4 (up hw4 2 (hw4 2 + (giftP (ps p)))) sd1_14 (by omega) (by omega) (by rw [i28_1]; exact (parS_succ (by omega)).symm) (by have := okS_walk (num := p) i28_2.1 hC hPp (by omega); exact ⟨this.1, this.2.trans i28_2.2⟩) hLN hsN
                      · skip
                        refine j_aload_n (pc := 106) C 3 3 rfl rfl dL_week_106 ?_
                        refine j_aload (pc := 107) C 4 rfl dL_week_107 ?_
                        refine j_aload (pc := 109) C 5 rfl dL_week_109 ?_
                        refine j_aload (pc := 111) C 5 rfl dL_week_111 ?_
                        refine j_iconst (pc := 113) C dL_week_113 ?_
                        refine j_iald (pc := 114) C (Or.inl (List.mem_of_getElem? (i := 2) rfl)) rfl (by omega) (by decide) dL_week_114 ?_
                        refine j_st (st' := [vI r1, .ref ho, .ref km, .ref hh]) rfl rfl (congrArg (fun z => vI z :: [.ref ho, .ref km, .ref hh]) (show hw4 1 = r1 from i99_3.2.1.2.1.trans i99_4.1)) ?_
                        refine j_aload (pc := 115) C 5 rfl dL_week_115 ?_
                        refine j_iconst (pc := 117) C dL_week_117 ?_
                        refine j_iald (pc := 118) C (Or.inl (List.mem_of_getElem? (i := 2) rfl)) rfl (by omega) (by decide) dL_week_118 ?_
                        refine j_st (st' := [vI (ms_w V), vI r1, .ref ho, .ref km, .ref hh]) rfl rfl (congrArg (fun z => vI z :: [vI r1, .ref ho, .ref km, .ref hh]) (show hw4 0 = (ms_w V) from i99_3.2.1.1)) ?_
                        refine j_callSv (pc := 119) (As := [.ref hh, .ref km, .ref ho, vI r1, vI (ms_w V)]) (na := 5) (st := []) C [0, 1, 2] [3] (wr := [(sa, aL (Y 1) 1 sd1_14)]) (fun l => l_lay l D Y _ hh km ho V mk4 hw4 r1 (ms_w V) (ms_w V) i99_2.1 hr1 i99_3 ⟨i99_2.1.w, Int.le_refl _⟩ (fun _ => rfl)) rfl rfl rfl rfl (by decide) rfl gL_week_L_lay (by decide +kernel) (by decide) rfl rfl (Nat.le_of_ble_eq_true rfl) (by decide) dL_week_119 (fun w_72 h_73 => ?_)
                        obtain ⟨mk1_74, hw1_75, qmk1_74, rfl⟩ := h_73
                        refine j_perm (ws' := [(hh, aI (Y 0) 7 (ms_h ((putS r1 (ms_w V) V)))), (km, aI (Y 0) 63 mk1_74), (ho, aI (Y 0) 7 hw1_75), (sa, aL (Y 1) 1 sd1_14)]) [1, 2, 3, 0] rfl rfl ?_
                        refine j_iinc (pc := 122) (lc' := [(11, vI (i + 1)), (0, .ref wa), (1, vI np), (2, .ref ca), (3, .ref hh), (4, .ref km), (5, .ref ho), (6, .ref sa), (7, vI p), (8, vI (pk (ps p))), (9, vI kx), (10, vI (giftP (ps p)))]) C 11 rfl (by decide) rfl dL_week_122 ?_
                        refine j_goto (pc := 125) C 99 rfl dL_week_125 ?_
                        refine j_locals (lc' := [(0, .ref wa), (1, vI np), (2, .ref ca), (3, .ref hh), (4, .ref km), (5, .ref ho), (6, .ref sa), (7, vI p), (8, vI (pk (ps p))), (9, vI kx), (10, vI (giftP (ps p))), (11, vI (i + 1))]) [1, 2, 3, 4, 5, 6, 7, 8, 9, 10, 11, 0] rfl ?_
                        exact ih99 (i + 1) ((putS r1 (ms_w V) V)) mk1_74 hw1_75 (by omega) (by omega) (by rw [i99_1]; exact (lay_succ (by omega)).symm) ⟨okS_put i99_2.1 hr1 ⟨i99_2.1.w, Int.le_refl _⟩, (putS_w _ _ _).trans i99_2.2⟩ qmk1_74 ⟨(putS_l _ _ _).trans i99_4.1, (putS_s _ _ _).trans i99_4.2⟩
                  refine j_locals (lc' := [(0, .ref wa), (1, vI np), (2, .ref ca), (3, .ref hh), (4, .ref km), (5, .ref ho), (6, .ref sa), (7, vI p), (8, vI (pk (ps p))), (9, vI kx), (10, vI (giftP (ps p))), (11, vI 0)]) [2, 3, 4, 5, 6, 7, 8, 9, 10, 11, 1, 0] rfl ?_
                  exact hL99 _ 0 (setL (drawS U) r1) mk3 (up hw3 1 r1) (Nat.lt_succ_self _) (by omega) rfl ⟨hV0, i28_2.2⟩ hLV0 ⟨rfl, rfl⟩
        refine j_locals (lc' := [(0, .ref wa), (1, vI np), (2, .ref ca), (3, .ref hh), (4, .ref km), (5, .ref ho), (6, .ref sa), (7, vI p), (8, vI (pk (ps p))), (9, vI 0)]) [2, 3, 4, 5, 6, 7, 8, 9, 1, 0] rfl ?_
        exact hL28 _ 0 T mk2 hw2 sd2 (Nat.lt_succ_self _) (by omega) rfl i11_2 i11_3 i11_4
  refine j_locals (lc' := [(0, .ref wa), (1, vI np), (2, .ref ca), (3, .ref hh), (4, .ref km), (5, .ref ho), (6, .ref sa), (7, vI 0)]) [1, 2, 3, 4, 5, 6, 7, 0] rfl ?_
  exact hL11 _ 0 (setW S (ms_w S + 1)) mk (up hw 0 (hw 0 + 1)) sd (Nat.lt_succ_self _) (by omega) rfl ⟨okS_W hS, rfl⟩ (LR_W hLR) hsd
