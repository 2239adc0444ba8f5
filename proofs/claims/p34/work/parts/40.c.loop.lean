set_option maxHeartbeats 8000000 in
set_option maxRecDepth 100000 in
theorem law_loop (X : jX) (D : va_G) (Y : Nat → ClassId) (b L : Nat) (xs : Nat → Int32) (C : jC X code 23 RL wsL_law room_1 D Y []) (hSc : jSc X b L xs) (hL : L ≤ 3072) (k : Nat → Nat) (a3 a4 a5 a6 a7 a8 a9 a10 a11 a12 a13 : Nat) {np : Int} {S : MS} {pg : Int → Int} {cs : Int → CT} {ps : Int → PT} {mk hw cu th tm tw sd ts al who : Int → Int} {W : va_W} (hwho : RWho np ps who) (hal : RAll 4 cs al) (hW : KWs Y k np 4 0 S pg cs ps W) (hLR : LR S mk hw) (hsd : sd 0 = ms_s S) (hdef : defS S = 0) (hwz : ms_w S ≤ 0) (kk nn : Nat) (hkk : kk ≤ 1000) (hnn : nn ≤ 100000) (hend : ∀ (kk nn : Nat) (ws : va_W) (lc : List (Nat × Value)), kk ≤ 600000 → nn ≤ 7302250 → jW X 23 kk nn ws lc 1181 [vI 1]) : jW X 23 kk nn ([(a3, aI (Y 0) 30 who), (a4, aI (Y 0) 3 cu), (a5, aI (Y 0) 7 (ms_h S)), (a6, aI (Y 0) 63 mk), (a7, aI (Y 0) 7 hw), (a8, aI (Y 0) 7 th), (a9, aI (Y 0) 63 tm), (a10, aI (Y 0) 7 tw), (a11, aL (Y 1) 1 sd), (a12, aL (Y 1) 1 ts), (a13, aI (Y 0) 12 al)] ++ W) [(0, .ref b), (1, .ref (k 0)), (2, vI np), (3, .ref a3), (4, .ref a4), (5, .ref a5), (6, .ref a6), (7, .ref a7), (8, .ref a8), (9, .ref a9), (10, .ref a10), (11, .ref a11), (12, .ref a12), (13, .ref a13), (14, vI 0)] 223 [] := by
  have hL223 : ∀ (N223 : Nat) (t : Int) (S : MS) (mk : Int → Int) (hw : Int → Int) (cu : Int → Int) (th : Int → Int) (tm : Int → Int) (tw : Int → Int) (sd : Int → Int) (ts : Int → Int) (W : va_W), ((14 - t).toNat) < N223 → (0 ≤ t ∧ t ≤ 14) → (KWs Y k np 4 0 S pg cs ps W) → (LR S mk hw) → (sd 0 = ms_s S) → (defS S = 0) → (ms_w S ≤ 3 * t) → jW X 23 (kk + 0) (nn + 0) ([(a3, aI (Y 0) 30 who), (a4, aI (Y 0) 3 cu), (a5, aI (Y 0) 7 (ms_h S)), (a6, aI (Y 0) 63 mk), (a7, aI (Y 0) 7 hw), (a8, aI (Y 0) 7 th), (a9, aI (Y 0) 63 tm), (a10, aI (Y 0) 7 tw), (a11, aL (Y 1) 1 sd), (a12, aL (Y 1) 1 ts), (a13, aI (Y 0) 12 al)] ++ W) [(0, .ref b), (1, .ref (k 0)), (2, vI np), (3, .ref a3), (4, .ref a4), (5, .ref a5), (6, .ref a6), (7, .ref a7), (8, .ref a8), (9, .ref a9), (10, .ref a10), (11, .ref a11), (12, .ref a12), (13, .ref a13), (14, vI t)] 223 [] := by
    intro N223
    induction N223 with
    | zero => intro t S mk hw cu th tm tw sd ts W hm223 i223_0 i223_1 i223_2 i223_3 i223_4 i223_5; omega
    | succ N223 ih223 =>
      intro t S mk hw cu th tm tw sd ts W hm223 i223_0 i223_1 i223_2 i223_3 i223_4 i223_5
      have hS := i223_1.1.1
      have hw0 := hS.w
      have hnpR := i223_1.2.1
      have hpsR := i223_1.2.2.1
      refine j_iload (pc := 223) C 14 rfl dL_law_223 ?_
      refine j_bipush (pc := 225) (w := 14) C rfl dL_law_225 ?_
      refine j_icmp_ge (pc := 227) C 942 rfl (by omega) dL_law_227 (fun h_1p227 => ?_) (fun h_1p227 => ?_)
      · skip
        exact law_tail X D Y b L xs C hSc hL k a3 a4 a5 a6 a7 a8 a9 a10 a11 a12 a13 i223_1 _ _ (by omega) (by omega) hend
      · skip
        refine j_aload_n (pc := 230) C 0 0 rfl rfl dL_law_230 ?_
        refine j_bipush (pc := 231) (w := 12) C rfl dL_law_231 ?_
        refine j_iload (pc := 233) C 14 rfl dL_law_233 ?_
        refine j_iadd (pc := 235) C dL_law_235 ?_
        refine j_lawSiX (pc := 236) (M0 := [(a3, aI (Y 0) 30 who), (a4, aI (Y 0) 3 cu), (a5, aI (Y 0) 7 (ms_h S)), (a6, aI (Y 0) 63 mk), (a7, aI (Y 0) 7 hw), (a8, aI (Y 0) 7 th), (a9, aI (Y 0) 63 tm), (a10, aI (Y 0) 7 tw), (a11, aL (Y 1) 1 sd), (a12, aL (Y 1) 1 ts), (a13, aI (Y 0) 12 al)]) (PL := W) (wc := []) (As := [.ref b, vI (12 + t)]) (na := 2) (st := []) C [] [0, 1, 2, 3, 4, 5, 6, 7, 8, 9, 10] (wr := [(a3, aI (Y 0) 30 who), (a4, aI (Y 0) 3 cu), (a5, aI (Y 0) 7 (ms_h S)), (a6, aI (Y 0) 63 mk), (a7, aI (Y 0) 7 hw), (a8, aI (Y 0) 7 th), (a9, aI (Y 0) 63 tm), (a10, aI (Y 0) 7 tw), (a11, aL (Y 1) 1 sd), (a12, aL (Y 1) 1 ts), (a13, aI (Y 0) 12 al)]) hSc (fun l => l_cell l D Y _ b L xs hL (12 + t) (by first | assumption | omega)) rfl rfl rfl rfl (by decide) rfl gL_law_L_cell (by decide +kernel) (by decide) rfl rfl (Nat.le_of_ble_eq_true rfl) ⟨show kk + 0 + 0 ≤ 600000 by omega, show nn + 0 + 0 ≤ 7302250 by omega⟩ dL_law_236 (fun e_2 w_3 h_4 => ?_)
        obtain ⟨ce_2, rfl⟩ := h_4
        refine j_permT (L' := [(a3, aI (Y 0) 30 who), (a4, aI (Y 0) 3 cu), (a5, aI (Y 0) 7 (ms_h S)), (a6, aI (Y 0) 63 mk), (a7, aI (Y 0) 7 hw), (a8, aI (Y 0) 7 th), (a9, aI (Y 0) 63 tm), (a10, aI (Y 0) 7 tw), (a11, aL (Y 1) 1 sd), (a12, aL (Y 1) 1 ts), (a13, aI (Y 0) 12 al)]) [0, 1, 2, 3, 4, 5, 6, 7, 8, 9, 10] rfl rfl ?_
        obtain ⟨x, ex⟩ : ∃ z : Int, e_2 = z := ⟨_, rfl⟩
        refine j_st (st' := [vI x]) rfl rfl (congrArg (fun z => vI z :: []) ex) ?_
        have rx : 0 ≤ x ∧ x ≤ 2147483647 := by omega
        refine j_istore (pc := 239) (lc' := [(15, vI x), (0, .ref b), (1, .ref (k 0)), (2, vI np), (3, .ref a3), (4, .ref a4), (5, .ref a5), (6, .ref a6), (7, .ref a7), (8, .ref a8), (9, .ref a9), (10, .ref a10), (11, .ref a11), (12, .ref a12), (13, .ref a13), (14, vI t)]) C (by decide) rfl dL_law_239 ?_
        refine j_iload (pc := 241) C 0 rfl dL_law_241 ?_
        refine j_bipush (pc := 243) (w := 8) C rfl dL_law_243 ?_
        refine j_idiv (pc := 245) C (by omega) dL_law_245 ?_
        refine j_bipush (pc := 246) (w := 7) C rfl dL_law_246 ?_
        refine j_irem (pc := 248) C (by omega) dL_law_248 ?_
        obtain ⟨c, ec⟩ : ∃ z : Int, ((x / 8) % 7) = z := ⟨_, rfl⟩
        refine j_st (st' := [vI c]) rfl rfl (congrArg (fun z => vI z :: []) ec) ?_
        have rc : 0 ≤ c ∧ c ≤ 6 := by omega
        refine j_istore (pc := 249) (lc' := [(16, vI c), (15, vI x), (0, .ref b), (1, .ref (k 0)), (2, vI np), (3, .ref a3), (4, .ref a4), (5, .ref a5), (6, .ref a6), (7, .ref a7), (8, .ref a8), (9, .ref a9), (10, .ref a10), (11, .ref a11), (12, .ref a12), (13, .ref a13), (14, vI t)]) C (by decide) rfl dL_law_249 ?_
        refine j_iconst (pc := 251) C dL_law_251 ?_
        refine j_iload (pc := 252) C 1 rfl dL_law_252 ?_
        refine j_bipush (pc := 254) (w := 64) C rfl dL_law_254 ?_
        refine j_idiv (pc := 256) C (by omega) dL_law_256 ?_
        refine j_iload (pc := 257) C 1 rfl dL_law_257 ?_
        refine j_iconst (pc := 259) C dL_law_259 ?_
        refine j_irem (pc := 260) C (by omega) dL_law_260 ?_
        have J : ∀ d : Int, 1 ≤ d ∧ d ≤ 60 → jW X 23 (kk + 0) (nn + 0) ([(a3, aI (Y 0) 30 who), (a4, aI (Y 0) 3 cu), (a5, aI (Y 0) 7 (ms_h S)), (a6, aI (Y 0) 63 mk), (a7, aI (Y 0) 7 hw), (a8, aI (Y 0) 7 th), (a9, aI (Y 0) 63 tm), (a10, aI (Y 0) 7 tw), (a11, aL (Y 1) 1 sd), (a12, aL (Y 1) 1 ts), (a13, aI (Y 0) 12 al)] ++ W) [(16, vI c), (15, vI x), (0, .ref b), (1, .ref (k 0)), (2, vI np), (3, .ref a3), (4, .ref a4), (5, .ref a5), (6, .ref a6), (7, .ref a7), (8, .ref a8), (9, .ref a9), (10, .ref a10), (11, .ref a11), (12, .ref a12), (13, .ref a13), (14, vI t)] 270 [vI d, vI (x / 64), vI 1] := by
          intro d rd
          refine j_irem (pc := 270) C (by omega) dL_law_270 ?_
          have hm1 := Int.emod_nonneg (x / 64) (b := d) (by omega)
          have hm2 := Int.emod_lt_of_pos (x / 64) (show 0 < d by omega)
          refine j_iadd (pc := 271) C dL_law_271 ?_
          obtain ⟨much, emuch⟩ : ∃ z : Int, (1 + ((x / 64) % d)) = z := ⟨_, rfl⟩
          refine j_st (st' := [vI much]) rfl rfl (congrArg (fun z => vI z :: []) emuch) ?_
          have rmuch : 1 ≤ much ∧ much ≤ 60 := by omega
          refine j_istore (pc := 272) (lc' := [(17, vI much), (16, vI c), (15, vI x), (0, .ref b), (1, .ref (k 0)), (2, vI np), (3, .ref a3), (4, .ref a4), (5, .ref a5), (6, .ref a6), (7, .ref a7), (8, .ref a8), (9, .ref a9), (10, .ref a10), (11, .ref a11), (12, .ref a12), (13, .ref a13), (14, vI t)]) C (by decide) rfl dL_law_272 ?_
          refine j_iload (pc := 274) C 2 rfl dL_law_274 ?_
          refine j_sipush (pc := 276) (w := 4096) C rfl dL_law_276 ?_
          refine j_idiv (pc := 279) C (by omega) dL_law_279 ?_
          refine j_iconst (pc := 280) C dL_law_280 ?_
          refine j_irem (pc := 281) C (by omega) dL_law_281 ?_
          obtain ⟨cb, ecb⟩ : ∃ z : Int, ((x / 4096) % 4) = z := ⟨_, rfl⟩
          refine j_st (st' := [vI cb]) rfl rfl (congrArg (fun z => vI z :: []) ecb) ?_
          have rcb : 0 ≤ cb ∧ cb ≤ 3 := by omega
          refine j_istore (pc := 282) (lc' := [(18, vI cb), (17, vI much), (16, vI c), (15, vI x), (0, .ref b), (1, .ref (k 0)), (2, vI np), (3, .ref a3), (4, .ref a4), (5, .ref a5), (6, .ref a6), (7, .ref a7), (8, .ref a8), (9, .ref a9), (10, .ref a10), (11, .ref a11), (12, .ref a12), (13, .ref a13), (14, vI t)]) C (by decide) rfl dL_law_282 ?_
          refine j_iconst (pc := 284) C dL_law_284 ?_
          refine j_iload (pc := 285) C 3 rfl dL_law_285 ?_
          refine j_sipush (pc := 287) (w := 16384) C rfl dL_law_287 ?_
          refine j_idiv (pc := 290) C (by omega) dL_law_290 ?_
          refine j_iconst (pc := 291) C dL_law_291 ?_
          refine j_irem (pc := 292) C (by omega) dL_law_292 ?_
          refine j_iadd (pc := 293) C dL_law_293 ?_
          obtain ⟨wn, ewn⟩ : ∃ z : Int, (1 + ((x / 16384) % 3)) = z := ⟨_, rfl⟩
          refine j_st (st' := [vI wn]) rfl rfl (congrArg (fun z => vI z :: []) ewn) ?_
          have rwn : 1 ≤ wn ∧ wn ≤ 3 := by omega
          refine j_istore (pc := 294) (lc' := [(19, vI wn), (18, vI cb), (17, vI much), (16, vI c), (15, vI x), (0, .ref b), (1, .ref (k 0)), (2, vI np), (3, .ref a3), (4, .ref a4), (5, .ref a5), (6, .ref a6), (7, .ref a7), (8, .ref a8), (9, .ref a9), (10, .ref a10), (11, .ref a11), (12, .ref a12), (13, .ref a13), (14, vI t)]) C (by decide) rfl dL_law_294 ?_
          refine j_iconst (pc := 296) C dL_law_296 ?_
          refine j_istore (pc := 297) (lc' := [(20, vI 0), (19, vI wn), (18, vI cb), (17, vI much), (16, vI c), (15, vI x), (0, .ref b), (1, .ref (k 0)), (2, vI np), (3, .ref a3), (4, .ref a4), (5, .ref a5), (6, .ref a6), (7, .ref a7), (8, .ref a8), (9, .ref a9), (10, .ref a10), (11, .ref a11), (12, .ref a12), (13, .ref a13), (14, vI t)]) C (by decide) rfl dL_law_297 ?_
          have hL299 : ∀ (N299 : Nat) (i : Int) (cu2 : Int → Int), ((3 - i).toNat) < N299 → (0 ≤ i ∧ i ≤ 3) → (∀ j : Int, 0 ≤ j → j < i → cu2 j = al (3 * cb + j)) → jW X 23 (kk + 0) (nn + 0) ([(a3, aI (Y 0) 30 who), (a4, aI (Y 0) 3 cu2), (a5, aI (Y 0) 7 (ms_h S)), (a6, aI (Y 0) 63 mk), (a7, aI (Y 0) 7 hw), (a8, aI (Y 0) 7 th), (a9, aI (Y 0) 63 tm), (a10, aI (Y 0) 7 tw), (a11, aL (Y 1) 1 sd), (a12, aL (Y 1) 1 ts), (a13, aI (Y 0) 12 al)] ++ W) [(0, .ref b), (1, .ref (k 0)), (2, vI np), (3, .ref a3), (4, .ref a4), (5, .ref a5), (6, .ref a6), (7, .ref a7), (8, .ref a8), (9, .ref a9), (10, .ref a10), (11, .ref a11), (12, .ref a12), (13, .ref a13), (14, vI t), (15, vI x), (16, vI c), (17, vI much), (18, vI cb), (19, vI wn), (20, vI i)] 299 [] := by
            intro N299
            induction N299 with
            | zero => intro i cu2 hm299 i299_0 i299_1; omega
            | succ N299 ih299 =>
              intro i cu2 hm299 i299_0 i299_1
              refine j_iload (pc := 299) C 20 rfl dL_law_299 ?_
              refine j_iconst (pc := 301) C dL_law_301 ?_
              refine j_icmp_ge (pc := 302) C 326 rfl (by omega) dL_law_302 (fun h_5p302 => ?_) (fun h_5p302 => ?_)
              · skip
                have hcu2 : RCu (cs cb) cu2 := by have q := hal cb (by omega) (by omega); exact ⟨(i299_1 0 (by omega) (by omega)).trans (by rw [show 3 * cb + 0 = 3 * cb by omega]; exact q.1), (i299_1 1 (by omega) (by omega)).trans q.2.1, (i299_1 2 (by omega) (by omega)).trans q.2.2⟩
                have hCb : okC (cs cb) := i223_1.2.2.2.2.1 cb ⟨by omega, by omega⟩
                refine j_iload (pc := 326) C 15 rfl dL_law_326 ?_
                refine j_bipush (pc := 328) (w := 8) C rfl dL_law_328 ?_
                refine j_irem (pc := 330) C (by omega) dL_law_330 ?_
                refine j_iconst (pc := 331) C dL_law_331 ?_
                refine j_icmp_ge (pc := 332) C 393 rfl (by omega) dL_law_332 (fun h_6p332 => ?_) (fun h_6p332 => ?_)
                · skip
                  refine j_iload (pc := 393) C 15 rfl dL_law_393 ?_
                  refine j_bipush (pc := 395) (w := 8) C rfl dL_law_395 ?_
                  refine j_irem (pc := 397) C (by omega) dL_law_397 ?_
                  refine j_iconst (pc := 398) C dL_law_398 ?_
                  refine j_icmp_ne (pc := 399) C 464 rfl (by omega) dL_law_399 (fun h_7p399 => ?_) (fun h_7p399 => ?_)
                  · skip
                    refine j_aload (pc := 464) C 5 rfl dL_law_464 ?_
                    refine j_aload (pc := 466) C 8 rfl dL_law_466 ?_
                    refine j_lawSv (pc := 468) (M0 := [(a3, aI (Y 0) 30 who), (a4, aI (Y 0) 3 cu2), (a5, aI (Y 0) 7 (ms_h S)), (a6, aI (Y 0) 63 mk), (a7, aI (Y 0) 7 hw), (a8, aI (Y 0) 7 th), (a9, aI (Y 0) 63 tm), (a10, aI (Y 0) 7 tw), (a11, aL (Y 1) 1 sd), (a12, aL (Y 1) 1 ts), (a13, aI (Y 0) 12 al)]) (PL := W) (wc := [(a8, aI (Y 0) 7 th)]) (As := [.ref a5, .ref a8]) (na := 2) (st := []) C [5] [0, 1, 2, 3, 4, 6, 7, 8, 9, 10] (wr := [(a3, aI (Y 0) 30 who), (a4, aI (Y 0) 3 cu2), (a5, aI (Y 0) 7 (ms_h S)), (a6, aI (Y 0) 63 mk), (a7, aI (Y 0) 7 hw), (a9, aI (Y 0) 63 tm), (a10, aI (Y 0) 7 tw), (a11, aL (Y 1) 1 sd), (a12, aL (Y 1) 1 ts), (a13, aI (Y 0) 12 al)]) (fun l => l_copy7 l D Y _ a5 a8 (ms_h S) th (List.mem_append_left _ (List.mem_append_left _ (List.mem_of_getElem? (i := 2) rfl))) ) rfl rfl rfl rfl (by decide) rfl gL_law_L_copy (by decide +kernel) (by decide) rfl rfl (Nat.le_of_ble_eq_true rfl) ⟨show kk + 0 + 0 ≤ 600000 by omega, show nn + 0 + 0 ≤ 7302250 by omega⟩ dL_law_468 (fun w_9 h_10 => ?_)
                    subst h_10
                    refine j_permT (L' := [(a3, aI (Y 0) 30 who), (a4, aI (Y 0) 3 cu2), (a5, aI (Y 0) 7 (ms_h S)), (a6, aI (Y 0) 63 mk), (a7, aI (Y 0) 7 hw), (a8, aI (Y 0) 7 (ms_h S)), (a9, aI (Y 0) 63 tm), (a10, aI (Y 0) 7 tw), (a11, aL (Y 1) 1 sd), (a12, aL (Y 1) 1 ts), (a13, aI (Y 0) 12 al)]) [0, 1, 2, 3, 4, 10, 5, 6, 7, 8, 9] rfl rfl ?_
                    refine j_aload (pc := 471) C 6 rfl dL_law_471 ?_
                    refine j_aload (pc := 473) C 9 rfl dL_law_473 ?_
                    refine j_lawSv (pc := 475) (M0 := [(a3, aI (Y 0) 30 who), (a4, aI (Y 0) 3 cu2), (a5, aI (Y 0) 7 (ms_h S)), (a6, aI (Y 0) 63 mk), (a7, aI (Y 0) 7 hw), (a8, aI (Y 0) 7 (ms_h S)), (a9, aI (Y 0) 63 tm), (a10, aI (Y 0) 7 tw), (a11, aL (Y 1) 1 sd), (a12, aL (Y 1) 1 ts), (a13, aI (Y 0) 12 al)]) (PL := W) (wc := [(a9, aI (Y 0) 63 tm)]) (As := [.ref a6, .ref a9]) (na := 2) (st := []) C [6] [0, 1, 2, 3, 4, 5, 7, 8, 9, 10] (wr := [(a3, aI (Y 0) 30 who), (a4, aI (Y 0) 3 cu2), (a5, aI (Y 0) 7 (ms_h S)), (a6, aI (Y 0) 63 mk), (a7, aI (Y 0) 7 hw), (a8, aI (Y 0) 7 (ms_h S)), (a10, aI (Y 0) 7 tw), (a11, aL (Y 1) 1 sd), (a12, aL (Y 1) 1 ts), (a13, aI (Y 0) 12 al)]) (fun l => l_copy63 l D Y _ a6 a9 mk tm (List.mem_append_left _ (List.mem_append_left _ (List.mem_of_getElem? (i := 3) rfl))) ) rfl rfl rfl rfl (by decide) rfl gL_law_L_copy (by decide +kernel) (by decide) rfl rfl (Nat.le_of_ble_eq_true rfl) ⟨show kk + 0 + 0 ≤ 600000 by omega, show nn + 0 + 0 ≤ 7302250 by omega⟩ dL_law_475 (fun w_12 h_13 => ?_)
                    subst h_13
                    refine j_permT (L' := [(a3, aI (Y 0) 30 who), (a4, aI (Y 0) 3 cu2), (a5, aI (Y 0) 7 (ms_h S)), (a6, aI (Y 0) 63 mk), (a7, aI (Y 0) 7 hw), (a8, aI (Y 0) 7 (ms_h S)), (a9, aI (Y 0) 63 mk), (a10, aI (Y 0) 7 tw), (a11, aL (Y 1) 1 sd), (a12, aL (Y 1) 1 ts), (a13, aI (Y 0) 12 al)]) [0, 1, 2, 3, 4, 5, 10, 6, 7, 8, 9] rfl rfl ?_
                    refine j_aload (pc := 478) C 7 rfl dL_law_478 ?_
                    refine j_aload (pc := 480) C 10 rfl dL_law_480 ?_
                    refine j_lawSv (pc := 482) (M0 := [(a3, aI (Y 0) 30 who), (a4, aI (Y 0) 3 cu2), (a5, aI (Y 0) 7 (ms_h S)), (a6, aI (Y 0) 63 mk), (a7, aI (Y 0) 7 hw), (a8, aI (Y 0) 7 (ms_h S)), (a9, aI (Y 0) 63 mk), (a10, aI (Y 0) 7 tw), (a11, aL (Y 1) 1 sd), (a12, aL (Y 1) 1 ts), (a13, aI (Y 0) 12 al)]) (PL := W) (wc := [(a10, aI (Y 0) 7 tw)]) (As := [.ref a7, .ref a10]) (na := 2) (st := []) C [7] [0, 1, 2, 3, 4, 5, 6, 8, 9, 10] (wr := [(a3, aI (Y 0) 30 who), (a4, aI (Y 0) 3 cu2), (a5, aI (Y 0) 7 (ms_h S)), (a6, aI (Y 0) 63 mk), (a7, aI (Y 0) 7 hw), (a8, aI (Y 0) 7 (ms_h S)), (a9, aI (Y 0) 63 mk), (a11, aL (Y 1) 1 sd), (a12, aL (Y 1) 1 ts), (a13, aI (Y 0) 12 al)]) (fun l => l_copy7 l D Y _ a7 a10 hw tw (List.mem_append_left _ (List.mem_append_left _ (List.mem_of_getElem? (i := 4) rfl))) ) rfl rfl rfl rfl (by decide) rfl gL_law_L_copy (by decide +kernel) (by decide) rfl rfl (Nat.le_of_ble_eq_true rfl) ⟨show kk + 0 + 0 ≤ 600000 by omega, show nn + 0 + 0 ≤ 7302250 by omega⟩ dL_law_482 (fun w_15 h_16 => ?_)
                    subst h_16
                    refine j_permT (L' := [(a3, aI (Y 0) 30 who), (a4, aI (Y 0) 3 cu2), (a5, aI (Y 0) 7 (ms_h S)), (a6, aI (Y 0) 63 mk), (a7, aI (Y 0) 7 hw), (a8, aI (Y 0) 7 (ms_h S)), (a9, aI (Y 0) 63 mk), (a10, aI (Y 0) 7 hw), (a11, aL (Y 1) 1 sd), (a12, aL (Y 1) 1 ts), (a13, aI (Y 0) 12 al)]) [0, 1, 2, 3, 4, 5, 6, 10, 7, 8, 9] rfl rfl ?_
                    refine j_aload (pc := 485) C 12 rfl dL_law_485 ?_
                    refine j_iconst (pc := 487) C dL_law_487 ?_
                    refine j_aload (pc := 488) C 11 rfl dL_law_488 ?_
                    refine j_iconst (pc := 490) C dL_law_490 ?_
                    refine j_lald (pc := 491) C (Or.inl (List.mem_of_getElem? (i := 8) rfl)) rfl (by omega) (by decide) dL_law_491 ?_
                    refine j_last (pc := 492) (ws' := ([(a3, aI (Y 0) 30 who), (a4, aI (Y 0) 3 cu2), (a5, aI (Y 0) 7 (ms_h S)), (a6, aI (Y 0) 63 mk), (a7, aI (Y 0) 7 hw), (a8, aI (Y 0) 7 (ms_h S)), (a9, aI (Y 0) 63 mk), (a10, aI (Y 0) 7 hw), (a11, aL (Y 1) 1 sd), (a12, aL (Y 1) 1 (up ts 0 (sd 0))), (a13, aI (Y 0) 12 al)] ++ W)) C 9 rfl rfl (by omega) (by decide) rfl dL_law_492 ?_
                    refine j_iconst (pc := 493) C dL_law_493 ?_
                    refine j_istore (pc := 494) (lc' := [(20, vI 0), (0, .ref b), (1, .ref (k 0)), (2, vI np), (3, .ref a3), (4, .ref a4), (5, .ref a5), (6, .ref a6), (7, .ref a7), (8, .ref a8), (9, .ref a9), (10, .ref a10), (11, .ref a11), (12, .ref a12), (13, .ref a13), (14, vI t), (15, vI x), (16, vI c), (17, vI much), (18, vI cb), (19, vI wn)]) C (by decide) rfl dL_law_494 ?_
                    have hL496 : ∀ (N496 : Nat) (i : Int) (V : MS) (tm2 : Int → Int) (tw2 : Int → Int) (ts2 : Int → Int), ((wn - i).toNat) < N496 → (0 ≤ i ∧ i ≤ wn) → (V = weeksS (cs cb) ps np i S) → (okS V ∧ ms_w V = ms_w S + i) → (LR V tm2 tw2) → (ts2 0 = ms_s V) → jW X 23 (kk + 0) (nn + 0) ([(a3, aI (Y 0) 30 who), (a4, aI (Y 0) 3 cu2), (a5, aI (Y 0) 7 (ms_h S)), (a6, aI (Y 0) 63 mk), (a7, aI (Y 0) 7 hw), (a8, aI (Y 0) 7 (ms_h V)), (a9, aI (Y 0) 63 tm2), (a10, aI (Y 0) 7 tw2), (a11, aL (Y 1) 1 sd), (a12, aL (Y 1) 1 ts2), (a13, aI (Y 0) 12 al)] ++ W) [(0, .ref b), (1, .ref (k 0)), (2, vI np), (3, .ref a3), (4, .ref a4), (5, .ref a5), (6, .ref a6), (7, .ref a7), (8, .ref a8), (9, .ref a9), (10, .ref a10), (11, .ref a11), (12, .ref a12), (13, .ref a13), (14, vI t), (15, vI x), (16, vI c), (17, vI much), (18, vI cb), (19, vI wn), (20, vI i)] 496 [] := by
                      intro N496
                      induction N496 with
                      | zero => intro i V tm2 tw2 ts2 hm496 i496_0 i496_1 i496_2 i496_3 i496_4; omega
                      | succ N496 ih496 =>
                        intro i V tm2 tw2 ts2 hm496 i496_0 i496_1 i496_2 i496_3 i496_4
                        refine j_iload (pc := 496) C 20 rfl dL_law_496 ?_
                        refine j_iload (pc := 498) C 19 rfl dL_law_498 ?_
                        refine j_icmp_ge (pc := 500) C 524 rfl (by omega) dL_law_500 (fun h_17p500 => ?_) (fun h_17p500 => ?_)
                        · skip
                          have eV : V = weeksS (cs cb) ps np wn S := by rw [show wn = i by omega]; exact i496_1
                          refine j_iconst (pc := 524) C dL_law_524 ?_
                          refine j_istore (pc := 525) (lc' := [(20, vI 0), (0, .ref b), (1, .ref (k 0)), (2, vI np), (3, .ref a3), (4, .ref a4), (5, .ref a5), (6, .ref a6), (7, .ref a7), (8, .ref a8), (9, .ref a9), (10, .ref a10), (11, .ref a11), (12, .ref a12), (13, .ref a13), (14, vI t), (15, vI x), (16, vI c), (17, vI much), (18, vI cb), (19, vI wn)]) C (by decide) rfl dL_law_525 ?_
                          have hL527 : ∀ (N527 : Nat) (c2 : Int) (W2 : va_W), ((7 - c2).toNat) < N527 → (0 ≤ c2 ∧ c2 ≤ 7) → (KWs Y k np 4 0 S pg cs ps W2) → jW X 23 (kk + 0) (nn + 0) ([(a3, aI (Y 0) 30 who), (a4, aI (Y 0) 3 cu2), (a5, aI (Y 0) 7 (ms_h S)), (a6, aI (Y 0) 63 mk), (a7, aI (Y 0) 7 hw), (a8, aI (Y 0) 7 (ms_h V)), (a9, aI (Y 0) 63 tm2), (a10, aI (Y 0) 7 tw2), (a11, aL (Y 1) 1 sd), (a12, aL (Y 1) 1 ts2), (a13, aI (Y 0) 12 al)] ++ W2) [(0, .ref b), (1, .ref (k 0)), (2, vI np), (3, .ref a3), (4, .ref a4), (5, .ref a5), (6, .ref a6), (7, .ref a7), (8, .ref a8), (9, .ref a9), (10, .ref a10), (11, .ref a11), (12, .ref a12), (13, .ref a13), (14, vI t), (15, vI x), (16, vI c), (17, vI much), (18, vI cb), (19, vI wn), (20, vI c2)] 527 [] := by
                            intro N527
                            induction N527 with
                            | zero => intro c2 W2 hm527 i527_0 i527_1; omega
                            | succ N527 ih527 =>
                              intro c2 W2 hm527 i527_0 i527_1
                              refine j_iload (pc := 527) C 20 rfl dL_law_527 ?_
                              refine j_bipush (pc := 529) (w := 7) C rfl dL_law_529 ?_
                              refine j_icmp_ge (pc := 531) C 577 rfl (by omega) dL_law_531 (fun h_18p531 => ?_) (fun h_18p531 => ?_)
                              · skip
                                refine j_iload (pc := 577) C 15 rfl dL_law_577 ?_
                                refine j_bipush (pc := 579) (w := 8) C rfl dL_law_579 ?_
                                refine j_irem (pc := 581) C (by omega) dL_law_581 ?_
                                refine j_iconst (pc := 582) C dL_law_582 ?_
                                refine j_icmp_le (pc := 583) C 633 rfl (by omega) dL_law_583 (fun h_19p583 => ?_) (fun h_19p583 => ?_)
                                · skip
                                  have hLRn : LR S mk hw := i223_2
                                  have hsdn : sd 0 = ms_s S := i223_3
                                  have hdefn : defS S = 0 := i223_4
                                  have hwn : ms_w S ≤ ms_w S + 3 := by omega
                                  refine j_locals (lc' := [(0, .ref b), (1, .ref (k 0)), (2, vI np), (3, .ref a3), (4, .ref a4), (5, .ref a5), (6, .ref a6), (7, .ref a7), (8, .ref a8), (9, .ref a9), (10, .ref a10), (11, .ref a11), (12, .ref a12), (13, .ref a13), (14, vI t)]) [0, 1, 2, 3, 4, 5, 6, 7, 8, 9, 10, 11, 12, 13, 14] rfl ?_
                                  refine law_look X D Y b L xs C hSc hL k a3 a4 a5 a6 a7 a8 a9 a10 a11 a12 a13 i527_1 hLRn hsdn hdefn t _ _ (by omega) (by omega) (fun W_20 hW_21 => ?_)
                                  refine j_iinc (pc := 936) (lc' := [(14, vI (t + 1)), (0, .ref b), (1, .ref (k 0)), (2, vI np), (3, .ref a3), (4, .ref a4), (5, .ref a5), (6, .ref a6), (7, .ref a7), (8, .ref a8), (9, .ref a9), (10, .ref a10), (11, .ref a11), (12, .ref a12), (13, .ref a13)]) C 14 rfl (by decide) rfl dL_law_936 ?_
                                  refine j_goto (pc := 939) C 223 rfl dL_law_939 ?_
                                  refine j_locals (lc' := [(0, .ref b), (1, .ref (k 0)), (2, vI np), (3, .ref a3), (4, .ref a4), (5, .ref a5), (6, .ref a6), (7, .ref a7), (8, .ref a8), (9, .ref a9), (10, .ref a10), (11, .ref a11), (12, .ref a12), (13, .ref a13), (14, vI (t + 1))]) [1, 2, 3, 4, 5, 6, 7, 8, 9, 10, 11, 12, 13, 14, 0] rfl ?_
                                  exact ih223 (t + 1) S mk hw cu2 (ms_h V) tm2 tw2 sd ts2 W_20 (by omega) (by omega) hW_21 hLRn hsdn hdefn (by omega)
                                · skip
                                  refine j_aload (pc := 586) C 8 rfl dL_law_586 ?_
                                  refine j_aload (pc := 588) C 5 rfl dL_law_588 ?_
                                  refine j_lawSv (pc := 590) (M0 := [(a3, aI (Y 0) 30 who), (a4, aI (Y 0) 3 cu2), (a5, aI (Y 0) 7 (ms_h S)), (a6, aI (Y 0) 63 mk), (a7, aI (Y 0) 7 hw), (a8, aI (Y 0) 7 (ms_h V)), (a9, aI (Y 0) 63 tm2), (a10, aI (Y 0) 7 tw2), (a11, aL (Y 1) 1 sd), (a12, aL (Y 1) 1 ts2), (a13, aI (Y 0) 12 al)]) (PL := W2) (wc := [(a5, aI (Y 0) 7 (ms_h S))]) (As := [.ref a8, .ref a5]) (na := 2) (st := []) C [2] [0, 1, 3, 4, 5, 6, 7, 8, 9, 10] (wr := [(a3, aI (Y 0) 30 who), (a4, aI (Y 0) 3 cu2), (a6, aI (Y 0) 63 mk), (a7, aI (Y 0) 7 hw), (a8, aI (Y 0) 7 (ms_h V)), (a9, aI (Y 0) 63 tm2), (a10, aI (Y 0) 7 tw2), (a11, aL (Y 1) 1 sd), (a12, aL (Y 1) 1 ts2), (a13, aI (Y 0) 12 al)]) (fun l => l_copy7 l D Y _ a8 a5 (ms_h V) (ms_h S) (List.mem_append_left _ (List.mem_append_left _ (List.mem_of_getElem? (i := 4) rfl))) ) rfl rfl rfl rfl (by decide) rfl gL_law_L_copy (by decide +kernel) (by decide) rfl rfl (Nat.le_of_ble_eq_true rfl) ⟨show kk + 0 + 0 ≤ 600000 by omega, show nn + 0 + 0 ≤ 7302250 by omega⟩ dL_law_590 (fun w_23 h_24 => ?_)
                                  subst h_24
                                  refine j_permT (L' := [(a3, aI (Y 0) 30 who), (a4, aI (Y 0) 3 cu2), (a5, aI (Y 0) 7 (ms_h V)), (a6, aI (Y 0) 63 mk), (a7, aI (Y 0) 7 hw), (a8, aI (Y 0) 7 (ms_h V)), (a9, aI (Y 0) 63 tm2), (a10, aI (Y 0) 7 tw2), (a11, aL (Y 1) 1 sd), (a12, aL (Y 1) 1 ts2), (a13, aI (Y 0) 12 al)]) [0, 1, 10, 2, 3, 4, 5, 6, 7, 8, 9] rfl rfl ?_
                                  refine j_aload (pc := 593) C 9 rfl dL_law_593 ?_
                                  refine j_aload (pc := 595) C 6 rfl dL_law_595 ?_
                                  refine j_lawSv (pc := 597) (M0 := [(a3, aI (Y 0) 30 who), (a4, aI (Y 0) 3 cu2), (a5, aI (Y 0) 7 (ms_h V)), (a6, aI (Y 0) 63 mk), (a7, aI (Y 0) 7 hw), (a8, aI (Y 0) 7 (ms_h V)), (a9, aI (Y 0) 63 tm2), (a10, aI (Y 0) 7 tw2), (a11, aL (Y 1) 1 sd), (a12, aL (Y 1) 1 ts2), (a13, aI (Y 0) 12 al)]) (PL := W2) (wc := [(a6, aI (Y 0) 63 mk)]) (As := [.ref a9, .ref a6]) (na := 2) (st := []) C [3] [0, 1, 2, 4, 5, 6, 7, 8, 9, 10] (wr := [(a3, aI (Y 0) 30 who), (a4, aI (Y 0) 3 cu2), (a5, aI (Y 0) 7 (ms_h V)), (a7, aI (Y 0) 7 hw), (a8, aI (Y 0) 7 (ms_h V)), (a9, aI (Y 0) 63 tm2), (a10, aI (Y 0) 7 tw2), (a11, aL (Y 1) 1 sd), (a12, aL (Y 1) 1 ts2), (a13, aI (Y 0) 12 al)]) (fun l => l_copy63 l D Y _ a9 a6 tm2 mk (List.mem_append_left _ (List.mem_append_left _ (List.mem_of_getElem? (i := 5) rfl))) ) rfl rfl rfl rfl (by decide) rfl gL_law_L_copy (by decide +kernel) (by decide) rfl rfl (Nat.le_of_ble_eq_true rfl) ⟨show kk + 0 + 0 ≤ 600000 by omega, show nn + 0 + 0 ≤ 7302250 by omega⟩ dL_law_597 (fun w_26 h_27 => ?_)
                                  subst h_27
                                  refine j_permT (L' := [(a3, aI (Y 0) 30 who), (a4, aI (Y 0) 3 cu2), (a5, aI (Y 0) 7 (ms_h V)), (a6, aI (Y 0) 63 tm2), (a7, aI (Y 0) 7 hw), (a8, aI (Y 0) 7 (ms_h V)), (a9, aI (Y 0) 63 tm2), (a10, aI (Y 0) 7 tw2), (a11, aL (Y 1) 1 sd), (a12, aL (Y 1) 1 ts2), (a13, aI (Y 0) 12 al)]) [0, 1, 2, 10, 3, 4, 5, 6, 7, 8, 9] rfl rfl ?_
                                  refine j_aload (pc := 600) C 10 rfl dL_law_600 ?_
                                  refine j_aload (pc := 602) C 7 rfl dL_law_602 ?_
                                  refine j_lawSv (pc := 604) (M0 := [(a3, aI (Y 0) 30 who), (a4, aI (Y 0) 3 cu2), (a5, aI (Y 0) 7 (ms_h V)), (a6, aI (Y 0) 63 tm2), (a7, aI (Y 0) 7 hw), (a8, aI (Y 0) 7 (ms_h V)), (a9, aI (Y 0) 63 tm2), (a10, aI (Y 0) 7 tw2), (a11, aL (Y 1) 1 sd), (a12, aL (Y 1) 1 ts2), (a13, aI (Y 0) 12 al)]) (PL := W2) (wc := [(a7, aI (Y 0) 7 hw)]) (As := [.ref a10, .ref a7]) (na := 2) (st := []) C [4] [0, 1, 2, 3, 5, 6, 7, 8, 9, 10] (wr := [(a3, aI (Y 0) 30 who), (a4, aI (Y 0) 3 cu2), (a5, aI (Y 0) 7 (ms_h V)), (a6, aI (Y 0) 63 tm2), (a8, aI (Y 0) 7 (ms_h V)), (a9, aI (Y 0) 63 tm2), (a10, aI (Y 0) 7 tw2), (a11, aL (Y 1) 1 sd), (a12, aL (Y 1) 1 ts2), (a13, aI (Y 0) 12 al)]) (fun l => l_copy7 l D Y _ a10 a7 tw2 hw (List.mem_append_left _ (List.mem_append_left _ (List.mem_of_getElem? (i := 6) rfl))) ) rfl rfl rfl rfl (by decide) rfl gL_law_L_copy (by decide +kernel) (by decide) rfl rfl (Nat.le_of_ble_eq_true rfl) ⟨show kk + 0 + 0 ≤ 600000 by omega, show nn + 0 + 0 ≤ 7302250 by omega⟩ dL_law_604 (fun w_29 h_30 => ?_)
                                  subst h_30
                                  refine j_permT (L' := [(a3, aI (Y 0) 30 who), (a4, aI (Y 0) 3 cu2), (a5, aI (Y 0) 7 (ms_h V)), (a6, aI (Y 0) 63 tm2), (a7, aI (Y 0) 7 tw2), (a8, aI (Y 0) 7 (ms_h V)), (a9, aI (Y 0) 63 tm2), (a10, aI (Y 0) 7 tw2), (a11, aL (Y 1) 1 sd), (a12, aL (Y 1) 1 ts2), (a13, aI (Y 0) 12 al)]) [0, 1, 2, 3, 10, 4, 5, 6, 7, 8, 9] rfl rfl ?_
                                  refine j_aload (pc := 607) C 11 rfl dL_law_607 ?_
                                  refine j_iconst (pc := 609) C dL_law_609 ?_
                                  refine j_aload (pc := 610) C 12 rfl dL_law_610 ?_
                                  refine j_iconst (pc := 612) C dL_law_612 ?_
                                  refine j_lald (pc := 613) C (Or.inl (List.mem_of_getElem? (i := 9) rfl)) rfl (by omega) (by decide) dL_law_613 ?_
                                  refine j_last (pc := 614) (ws' := ([(a3, aI (Y 0) 30 who), (a4, aI (Y 0) 3 cu2), (a5, aI (Y 0) 7 (ms_h V)), (a6, aI (Y 0) 63 tm2), (a7, aI (Y 0) 7 tw2), (a8, aI (Y 0) 7 (ms_h V)), (a9, aI (Y 0) 63 tm2), (a10, aI (Y 0) 7 tw2), (a11, aL (Y 1) 1 (up sd 0 (ts2 0))), (a12, aL (Y 1) 1 ts2), (a13, aI (Y 0) 12 al)] ++ W2)) C 8 rfl rfl (by omega) (by decide) rfl dL_law_614 ?_
                                  refine j_aload_n (pc := 615) C 1 1 rfl rfl dL_law_615 ?_
                                  refine j_iload (pc := 616) C 18 rfl dL_law_616 ?_
                                  refine j_iload (pc := 618) C 19 rfl dL_law_618 ?_
                                  refine tc_weeks (pc := 620) (st := []) C i527_1 (by omega) (by omega) gL_law_X9_weeks (by decide) rfl ⟨show kk + 0 + 0 ≤ 600000 by omega, show nn + 0 + 0 ≤ 7302250 by omega⟩ dL_law_620 (fun W_31 hW_32 => ?_)
                                  rw [show (sWeeks cb wn 4 cs np ps S) = V from by unfold sWeeks; rw [if_neg (by omega), if_neg (by omega), if_neg (by omega), eV]] at hW_32
                                  refine j_st (st' := [vI (sumI (ms_h V) 7)]) rfl rfl (congrArg (fun z => vI z :: []) (show (rWeeks cb wn 4 cs np ps S) = (sumI (ms_h V) 7) from by unfold rWeeks; rw [if_neg (by omega), if_neg (by omega), if_neg (by omega), eV])) ?_
                                  refine j_aload (pc := 623) C 5 rfl dL_law_623 ?_
                                  refine j_lawSi (pc := 625) (M0 := [(a3, aI (Y 0) 30 who), (a4, aI (Y 0) 3 cu2), (a5, aI (Y 0) 7 (ms_h V)), (a6, aI (Y 0) 63 tm2), (a7, aI (Y 0) 7 tw2), (a8, aI (Y 0) 7 (ms_h V)), (a9, aI (Y 0) 63 tm2), (a10, aI (Y 0) 7 tw2), (a11, aL (Y 1) 1 (up sd 0 (ts2 0))), (a12, aL (Y 1) 1 ts2), (a13, aI (Y 0) 12 al)]) (PL := W_31) (wc := []) (As := [.ref a5]) (na := 1) (st := [vI (sumI (ms_h V) 7)]) C [] [0, 1, 2, 3, 4, 5, 6, 7, 8, 9, 10] (wr := [(a3, aI (Y 0) 30 who), (a4, aI (Y 0) 3 cu2), (a5, aI (Y 0) 7 (ms_h V)), (a6, aI (Y 0) 63 tm2), (a7, aI (Y 0) 7 tw2), (a8, aI (Y 0) 7 (ms_h V)), (a9, aI (Y 0) 63 tm2), (a10, aI (Y 0) 7 tw2), (a11, aL (Y 1) 1 (up sd 0 (ts2 0))), (a12, aL (Y 1) 1 ts2), (a13, aI (Y 0) 12 al)]) (fun l => l_all l D Y _ a5 (ms_h V) (List.mem_append_left _ (List.mem_append_left _ (List.mem_of_getElem? (i := 2) rfl))) ) rfl rfl rfl rfl (by decide) rfl gL_law_L_all (by decide +kernel) (by decide) rfl rfl (Nat.le_of_ble_eq_true rfl) ⟨show kk + 0 + 0 ≤ 600000 by omega, show nn + 0 + 0 ≤ 7302250 by omega⟩ dL_law_625 (fun e_33 w_34 h_35 => ?_)
                                  obtain ⟨rfl, rfl⟩ := h_35
                                  refine j_permT (L' := [(a3, aI (Y 0) 30 who), (a4, aI (Y 0) 3 cu2), (a5, aI (Y 0) 7 (ms_h V)), (a6, aI (Y 0) 63 tm2), (a7, aI (Y 0) 7 tw2), (a8, aI (Y 0) 7 (ms_h V)), (a9, aI (Y 0) 63 tm2), (a10, aI (Y 0) 7 tw2), (a11, aL (Y 1) 1 (up sd 0 (ts2 0))), (a12, aL (Y 1) 1 ts2), (a13, aI (Y 0) 12 al)]) [0, 1, 2, 3, 4, 5, 6, 7, 8, 9, 10] rfl rfl ?_
                                  refine j_icmpSe (pc := 628) C 633 rfl dL_law_628 ?_
                                  have hLRn : LR V tm2 tw2 := i496_3
                                  have hsdn : (up sd 0 (ts2 0)) 0 = ms_s V := (up_same _ _ _).trans i496_4
                                  have hdefn : defS V = 0 := by rw [eV]; exact (def_weeks hS hCb hpsR hnpR (by omega)).trans i223_4
                                  have hwn : ms_w V ≤ ms_w S + 3 := by rw [i496_2.2]; omega
                                  refine j_locals (lc' := [(0, .ref b), (1, .ref (k 0)), (2, vI np), (3, .ref a3), (4, .ref a4), (5, .ref a5), (6, .ref a6), (7, .ref a7), (8, .ref a8), (9, .ref a9), (10, .ref a10), (11, .ref a11), (12, .ref a12), (13, .ref a13), (14, vI t)]) [0, 1, 2, 3, 4, 5, 6, 7, 8, 9, 10, 11, 12, 13, 14] rfl ?_
                                  refine law_look X D Y b L xs C hSc hL k a3 a4 a5 a6 a7 a8 a9 a10 a11 a12 a13 hW_32 hLRn hsdn hdefn t _ _ (by omega) (by omega) (fun W_36 hW_37 => ?_)
                                  refine j_iinc (pc := 936) (lc' := [(14, vI (t + 1)), (0, .ref b), (1, .ref (k 0)), (2, vI np), (3, .ref a3), (4, .ref a4), (5, .ref a5), (6, .ref a6), (7, .ref a7), (8, .ref a8), (9, .ref a9), (10, .ref a10), (11, .ref a11), (12, .ref a12), (13, .ref a13)]) C 14 rfl (by decide) rfl dL_law_936 ?_
                                  refine j_goto (pc := 939) C 223 rfl dL_law_939 ?_
                                  refine j_locals (lc' := [(0, .ref b), (1, .ref (k 0)), (2, vI np), (3, .ref a3), (4, .ref a4), (5, .ref a5), (6, .ref a6), (7, .ref a7), (8, .ref a8), (9, .ref a9), (10, .ref a10), (11, .ref a11), (12, .ref a12), (13, .ref a13), (14, vI (t + 1))]) [1, 2, 3, 4, 5, 6, 7, 8, 9, 10, 11, 12, 13, 14, 0] rfl ?_
                                  exact ih223 (t + 1) V tm2 tw2 cu2 (ms_h V) tm2 tw2 (up sd 0 (ts2 0)) ts2 W_36 (by omega) (by omega) hW_37 hLRn hsdn hdefn (by omega)
                              · skip
                                refine j_aload_n (pc := 534) C 1 1 rfl rfl dL_law_534 ?_
                                refine j_iload (pc := 535) C 18 rfl dL_law_535 ?_
                                refine j_iload (pc := 537) C 20 rfl dL_law_537 ?_
                                refine j_iload (pc := 539) C 19 rfl dL_law_539 ?_
                                refine tc_would (pc := 541) (st := []) C i527_1 (by omega) (by omega) (by omega) gL_law_X9_would (by decide) rfl ⟨show kk + 0 + 0 ≤ 600000 by omega, show nn + 0 + 0 ≤ 7302250 by omega⟩ dL_law_541 (fun W_38 hW_39 => ?_)
                                refine j_st (st' := [vI (ms_h V c2)]) rfl rfl (congrArg (fun z => vI z :: []) (show (rWould cb c2 wn 4 cs np ps S) = ms_h V c2 from by unfold rWould; rw [if_neg (by omega), if_neg (by omega), eV])) ?_
                                refine j_aload (pc := 544) C 8 rfl dL_law_544 ?_
                                refine j_iload (pc := 546) C 20 rfl dL_law_546 ?_
                                refine j_iald (pc := 548) C (Or.inl (List.mem_of_getElem? (i := 5) rfl)) rfl (by omega) (by decide) dL_law_548 ?_
                                refine j_icmpSn (pc := 549) C 569 rfl dL_law_549 ?_
                                refine j_aload_n (pc := 552) C 1 1 rfl rfl dL_law_552 ?_
                                refine j_iload (pc := 553) C 18 rfl dL_law_553 ?_
                                refine j_iload (pc := 555) C 20 rfl dL_law_555 ?_
                                refine j_iconst (pc := 557) C dL_law_557 ?_
                                refine tc_would (pc := 558) (st := []) C hW_39 (by omega) (by omega) (by omega) gL_law_X9_would (by decide) rfl ⟨show kk + 0 + 0 ≤ 600000 by omega, show nn + 0 + 0 ≤ 7302250 by omega⟩ dL_law_558 (fun W_40 hW_41 => ?_)
                                refine j_st (st' := [vI (ms_h S c2)]) rfl rfl (congrArg (fun z => vI z :: []) (show (rWould cb c2 0 4 cs np ps S) = ms_h S c2 from by unfold rWould; rw [if_neg (by omega), if_neg (by omega)]; first | done | rfl)) ?_
                                refine j_aload (pc := 561) C 5 rfl dL_law_561 ?_
                                refine j_iload (pc := 563) C 20 rfl dL_law_563 ?_
                                refine j_iald (pc := 565) C (Or.inl (List.mem_of_getElem? (i := 2) rfl)) rfl (by omega) (by decide) dL_law_565 ?_
                                have f_42 := hS.1 c2 (by omega)
                                refine j_icmpSe (pc := 566) C 571 rfl dL_law_566 ?_
                                refine j_iinc (pc := 571) (lc' := [(20, vI (c2 + 1)), (0, .ref b), (1, .ref (k 0)), (2, vI np), (3, .ref a3), (4, .ref a4), (5, .ref a5), (6, .ref a6), (7, .ref a7), (8, .ref a8), (9, .ref a9), (10, .ref a10), (11, .ref a11), (12, .ref a12), (13, .ref a13), (14, vI t), (15, vI x), (16, vI c), (17, vI much), (18, vI cb), (19, vI wn)]) C 20 rfl (by decide) rfl dL_law_571 ?_
                                refine j_goto (pc := 574) C 527 rfl dL_law_574 ?_
                                refine j_locals (lc' := [(0, .ref b), (1, .ref (k 0)), (2, vI np), (3, .ref a3), (4, .ref a4), (5, .ref a5), (6, .ref a6), (7, .ref a7), (8, .ref a8), (9, .ref a9), (10, .ref a10), (11, .ref a11), (12, .ref a12), (13, .ref a13), (14, vI t), (15, vI x), (16, vI c), (17, vI much), (18, vI cb), (19, vI wn), (20, vI (c2 + 1))]) [1, 2, 3, 4, 5, 6, 7, 8, 9, 10, 11, 12, 13, 14, 15, 16, 17, 18, 19, 20, 0] rfl ?_
                                exact ih527 (c2 + 1) W_40 (by omega) (by omega) hW_41
                          refine j_locals (lc' := [(0, .ref b), (1, .ref (k 0)), (2, vI np), (3, .ref a3), (4, .ref a4), (5, .ref a5), (6, .ref a6), (7, .ref a7), (8, .ref a8), (9, .ref a9), (10, .ref a10), (11, .ref a11), (12, .ref a12), (13, .ref a13), (14, vI t), (15, vI x), (16, vI c), (17, vI much), (18, vI cb), (19, vI wn), (20, vI 0)]) [1, 2, 3, 4, 5, 6, 7, 8, 9, 10, 11, 12, 13, 14, 15, 16, 17, 18, 19, 20, 0] rfl ?_
                          exact hL527 _ 0 W (Nat.lt_succ_self _) (by omega) i223_1
                        · skip
                          refine j_aload_n (pc := 503) C 3 3 rfl rfl dL_law_503 ?_
                          refine j_iload_n (pc := 504) C 2 2 rfl rfl dL_law_504 ?_
                          refine j_aload (pc := 505) C 4 rfl dL_law_505 ?_
                          refine j_aload (pc := 507) C 8 rfl dL_law_507 ?_
                          refine j_aload (pc := 509) C 9 rfl dL_law_509 ?_
                          refine j_aload (pc := 511) C 10 rfl dL_law_511 ?_
                          refine j_aload (pc := 513) C 12 rfl dL_law_513 ?_
                          refine j_lawSv (pc := 515) (M0 := [(a3, aI (Y 0) 30 who), (a4, aI (Y 0) 3 cu2), (a5, aI (Y 0) 7 (ms_h S)), (a6, aI (Y 0) 63 mk), (a7, aI (Y 0) 7 hw), (a8, aI (Y 0) 7 (ms_h V)), (a9, aI (Y 0) 63 tm2), (a10, aI (Y 0) 7 tw2), (a11, aL (Y 1) 1 sd), (a12, aL (Y 1) 1 ts2), (a13, aI (Y 0) 12 al)]) (PL := W) (wc := [(a8, aI (Y 0) 7 (ms_h V)), (a9, aI (Y 0) 63 tm2), (a10, aI (Y 0) 7 tw2), (a12, aL (Y 1) 1 ts2)]) (As := [.ref a3, vI np, .ref a4, .ref a8, .ref a9, .ref a10, .ref a12]) (na := 7) (st := []) C [5, 6, 7, 9] [0, 1, 2, 3, 4, 8, 10] (wr := [(a3, aI (Y 0) 30 who), (a4, aI (Y 0) 3 cu2), (a5, aI (Y 0) 7 (ms_h S)), (a6, aI (Y 0) 63 mk), (a7, aI (Y 0) 7 hw), (a11, aL (Y 1) 1 sd), (a13, aI (Y 0) 12 al)]) (fun l => l_week l D Y _ a8 a9 a10 V tm2 tw2 a3 who a4 cu2 a12 ts2 np ps (cs cb) (List.mem_append_left _ (List.mem_append_left _ (List.mem_of_getElem? (i := 0) rfl))) (List.mem_append_left _ (List.mem_append_left _ (List.mem_of_getElem? (i := 1) rfl))) i496_2.1 i496_3 i496_4 (by omega) hCb hnpR hpsR hwho hcu2) rfl rfl rfl rfl (by decide) rfl gL_law_L_week (by decide +kernel) (by decide) rfl rfl (Nat.le_of_ble_eq_true rfl) ⟨show kk + 0 + 0 ≤ 600000 by omega, show nn + 0 + 0 ≤ 7302250 by omega⟩ dL_law_515 (fun w_44 h_45 => ?_)
                          obtain ⟨mk1_46, hw1_47, sd1_48, qmk1_46, dmk1_46, rfl⟩ := h_45
                          refine j_permT (L' := [(a3, aI (Y 0) 30 who), (a4, aI (Y 0) 3 cu2), (a5, aI (Y 0) 7 (ms_h S)), (a6, aI (Y 0) 63 mk), (a7, aI (Y 0) 7 hw), (a8, aI (Y 0) 7 (ms_h ((goS (cs cb) ps np V)))), (a9, aI (Y 0) 63 mk1_46), (a10, aI (Y 0) 7 hw1_47), (a11, aL (Y 1) 1 sd), (a12, aL (Y 1) 1 sd1_48), (a13, aI (Y 0) 12 al)]) [0, 1, 2, 3, 4, 7, 8, 9, 5, 10, 6] rfl rfl ?_
                          refine j_iinc (pc := 518) (lc' := [(20, vI (i + 1)), (0, .ref b), (1, .ref (k 0)), (2, vI np), (3, .ref a3), (4, .ref a4), (5, .ref a5), (6, .ref a6), (7, .ref a7), (8, .ref a8), (9, .ref a9), (10, .ref a10), (11, .ref a11), (12, .ref a12), (13, .ref a13), (14, vI t), (15, vI x), (16, vI c), (17, vI much), (18, vI cb), (19, vI wn)]) C 20 rfl (by decide) rfl dL_law_518 ?_
                          refine j_goto (pc := 521) C 496 rfl dL_law_521 ?_
                          refine j_locals (lc' := [(0, .ref b), (1, .ref (k 0)), (2, vI np), (3, .ref a3), (4, .ref a4), (5, .ref a5), (6, .ref a6), (7, .ref a7), (8, .ref a8), (9, .ref a9), (10, .ref a10), (11, .ref a11), (12, .ref a12), (13, .ref a13), (14, vI t), (15, vI x), (16, vI c), (17, vI much), (18, vI cb), (19, vI wn), (20, vI (i + 1))]) [1, 2, 3, 4, 5, 6, 7, 8, 9, 10, 11, 12, 13, 14, 15, 16, 17, 18, 19, 20, 0] rfl ?_
                          exact ih496 (i + 1) ((goS (cs cb) ps np V)) mk1_46 hw1_47 sd1_48 (by omega) (by omega) (by rw [i496_1]; exact (weeksS_succ (by omega)).symm) (by have := okS_go i496_2.1 hCb hpsR hnpR; exact ⟨this.1, by rw [this.2, i496_2.2]; omega⟩) qmk1_46 dmk1_46
                    refine j_locals (lc' := [(0, .ref b), (1, .ref (k 0)), (2, vI np), (3, .ref a3), (4, .ref a4), (5, .ref a5), (6, .ref a6), (7, .ref a7), (8, .ref a8), (9, .ref a9), (10, .ref a10), (11, .ref a11), (12, .ref a12), (13, .ref a13), (14, vI t), (15, vI x), (16, vI c), (17, vI much), (18, vI cb), (19, vI wn), (20, vI 0)]) [1, 2, 3, 4, 5, 6, 7, 8, 9, 10, 11, 12, 13, 14, 15, 16, 17, 18, 19, 20, 0] rfl ?_
                    exact hL496 _ 0 S mk hw (up ts 0 (sd 0)) (Nat.lt_succ_self _) (by omega) rfl ⟨hS, by omega⟩ i223_2 ((up_same _ _ _).trans i223_3)
                  · skip
                    refine j_iload (pc := 402) C 17 rfl dL_law_402 ?_
                    refine j_aload (pc := 404) C 5 rfl dL_law_404 ?_
                    refine j_iload (pc := 406) C 16 rfl dL_law_406 ?_
                    refine j_iald (pc := 408) C (Or.inl (List.mem_of_getElem? (i := 2) rfl)) rfl (by omega) (by decide) dL_law_408 ?_
                    have f_49 := hS.1 c (by omega)
                    refine j_icmp_le (pc := 409) C 420 rfl (by omega) dL_law_409 (fun h_50p409 => ?_) (fun h_50p409 => ?_)
                    · skip
                      refine j_iload (pc := 420) C 17 rfl dL_law_420 ?_
                      refine j_st (st' := [vI (offS c much S)]) rfl rfl (congrArg (fun z => vI z :: []) (show much = (offS c much S) from by unfold offS; first | rw [if_pos (by omega)] | rw [if_neg (by omega)])) ?_
                      refine j_istore (pc := 422) (lc' := [(20, vI (offS c much S)), (0, .ref b), (1, .ref (k 0)), (2, vI np), (3, .ref a3), (4, .ref a4), (5, .ref a5), (6, .ref a6), (7, .ref a7), (8, .ref a8), (9, .ref a9), (10, .ref a10), (11, .ref a11), (12, .ref a12), (13, .ref a13), (14, vI t), (15, vI x), (16, vI c), (17, vI much), (18, vI cb), (19, vI wn)]) C (by decide) rfl dL_law_422 ?_
                      refine j_aload (pc := 424) C 6 rfl dL_law_424 ?_
                      refine j_iload (pc := 426) C 17 rfl dL_law_426 ?_
                      refine j_dup2 (pc := 428) C rfl rfl dL_law_428 ?_
                      refine j_iald (pc := 429) C (Or.inl (List.mem_of_getElem? (i := 2) rfl)) rfl (by omega) (by decide) dL_law_429 ?_
                      have f_51 := hS.1 c (by omega)
                      refine j_iload (pc := 430) C 0 rfl dL_law_430 ?_
                      refine j_isub (pc := 432) C dL_law_432 ?_
                      refine j_iast (pc := 433) (ws' := ([(a3, aI (Y 0) 30 who), (a4, aI (Y 0) 3 cu2), (a5, aI (Y 0) 7 (up (ms_h S) c (ms_h S c - (offS c much S)))), (a6, aI (Y 0) 63 mk), (a7, aI (Y 0) 7 hw), (a8, aI (Y 0) 7 th), (a9, aI (Y 0) 63 tm), (a10, aI (Y 0) 7 tw), (a11, aL (Y 1) 1 sd), (a12, aL (Y 1) 1 ts), (a13, aI (Y 0) 12 al)] ++ W)) C 2 rfl rfl (by omega) (by decide) rfl dL_law_433 ?_
                      refine j_aload (pc := 434) C 8 rfl dL_law_434 ?_
                      refine j_iconst (pc := 436) C dL_law_436 ?_
                      refine j_dup2 (pc := 437) C rfl rfl dL_law_437 ?_
                      refine j_iald (pc := 438) C (Or.inl (List.mem_of_getElem? (i := 4) rfl)) rfl (by omega) (by decide) dL_law_438 ?_
                      refine j_iload (pc := 439) C 0 rfl dL_law_439 ?_
                      refine j_iadd (pc := 441) C dL_law_441 ?_
                      refine j_iast (pc := 442) (ws' := ([(a3, aI (Y 0) 30 who), (a4, aI (Y 0) 3 cu2), (a5, aI (Y 0) 7 (up (ms_h S) c (ms_h S c - (offS c much S)))), (a6, aI (Y 0) 63 mk), (a7, aI (Y 0) 7 (up hw 3 (hw 3 + (offS c much S)))), (a8, aI (Y 0) 7 th), (a9, aI (Y 0) 63 tm), (a10, aI (Y 0) 7 tw), (a11, aL (Y 1) 1 sd), (a12, aL (Y 1) 1 ts), (a13, aI (Y 0) 12 al)] ++ W)) C 4 rfl rfl (by omega) (by decide) rfl dL_law_442 ?_
                      refine j_st (ws' := ([(a3, aI (Y 0) 30 who), (a4, aI (Y 0) 3 cu2), (a5, aI (Y 0) 7 (ms_h (takeS c much S))), (a6, aI (Y 0) 63 mk), (a7, aI (Y 0) 7 (up hw 3 (hw 3 + (offS c much S)))), (a8, aI (Y 0) 7 th), (a9, aI (Y 0) 63 tm), (a10, aI (Y 0) 7 tw), (a11, aL (Y 1) 1 sd), (a12, aL (Y 1) 1 ts), (a13, aI (Y 0) 12 al)] ++ W)) rfl rfl rfl ?_
                      refine j_aload_n (pc := 443) C 1 2 rfl rfl dL_law_443 ?_
                      refine j_iload (pc := 444) C 17 rfl dL_law_444 ?_
                      refine j_iload (pc := 446) C 18 rfl dL_law_446 ?_
                      refine tc_take (pc := 448) (st := []) C i223_1 (by omega) (by omega) gL_law_X9_take (by decide) rfl ⟨show kk + 0 + 0 ≤ 600000 by omega, show nn + 0 + 0 ≤ 7302250 by omega⟩ dL_law_448 (fun W_52 hW_53 => ?_)
                      rw [show (sTake c much S) = (takeS c much S) from by unfold sTake; rw [if_neg (by omega), if_neg (by omega)]] at hW_53
                      refine j_st (st' := [vI (ms_h (takeS c much S) c)]) rfl rfl (congrArg (fun z => vI z :: []) (show (rTake c much S) = ms_h (takeS c much S) c from by unfold rTake; rw [if_neg (by omega), if_neg (by omega)])) ?_
                      refine j_aload (pc := 451) C 6 rfl dL_law_451 ?_
                      refine j_iload (pc := 453) C 17 rfl dL_law_453 ?_
                      refine j_iald (pc := 455) C (Or.inl (List.mem_of_getElem? (i := 2) rfl)) rfl (by omega) (by decide) dL_law_455 ?_
                      refine j_icmpSe (pc := 456) C 461 rfl dL_law_456 ?_
                      refine j_goto (pc := 461) C 633 rfl dL_law_461 ?_
                      have hLRn : LR (takeS c much S) mk (up hw 3 (hw 3 + (offS c much S))) := LR_take (offS_in hS ⟨by omega, by omega⟩ (by omega)).1 i223_2
                      have hsdn : sd 0 = ms_s (takeS c much S) := i223_3
                      have hdefn : defS (takeS c much S) = 0 := (def_take ⟨by omega, by omega⟩).trans i223_4
                      have hwn : ms_w (takeS c much S) ≤ ms_w S + 3 := by show ms_w S ≤ ms_w S + 3; omega
                      refine j_locals (lc' := [(0, .ref b), (1, .ref (k 0)), (2, vI np), (3, .ref a3), (4, .ref a4), (5, .ref a5), (6, .ref a6), (7, .ref a7), (8, .ref a8), (9, .ref a9), (10, .ref a10), (11, .ref a11), (12, .ref a12), (13, .ref a13), (14, vI t)]) [1, 2, 3, 4, 5, 6, 7, 8, 9, 10, 11, 12, 13, 14, 15] rfl ?_
                      refine law_look X D Y b L xs C hSc hL k a3 a4 a5 a6 a7 a8 a9 a10 a11 a12 a13 hW_53 hLRn hsdn hdefn t _ _ (by omega) (by omega) (fun W_54 hW_55 => ?_)
                      refine j_iinc (pc := 936) (lc' := [(14, vI (t + 1)), (0, .ref b), (1, .ref (k 0)), (2, vI np), (3, .ref a3), (4, .ref a4), (5, .ref a5), (6, .ref a6), (7, .ref a7), (8, .ref a8), (9, .ref a9), (10, .ref a10), (11, .ref a11), (12, .ref a12), (13, .ref a13)]) C 14 rfl (by decide) rfl dL_law_936 ?_
                      refine j_goto (pc := 939) C 223 rfl dL_law_939 ?_
                      refine j_locals (lc' := [(0, .ref b), (1, .ref (k 0)), (2, vI np), (3, .ref a3), (4, .ref a4), (5, .ref a5), (6, .ref a6), (7, .ref a7), (8, .ref a8), (9, .ref a9), (10, .ref a10), (11, .ref a11), (12, .ref a12), (13, .ref a13), (14, vI (t + 1))]) [1, 2, 3, 4, 5, 6, 7, 8, 9, 10, 11, 12, 13, 14, 0] rfl ?_
                      exact ih223 (t + 1) (takeS c much S) mk (up hw 3 (hw 3 + (offS c much S))) cu2 th tm tw sd ts W_54 (by omega) (by omega) hW_55 hLRn hsdn hdefn (by omega)
                    · skip
                      refine j_aload (pc := 412) C 5 rfl dL_law_412 ?_
                      refine j_iload (pc := 414) C 16 rfl dL_law_414 ?_
                      refine j_iald (pc := 416) C (Or.inl (List.mem_of_getElem? (i := 2) rfl)) rfl (by omega) (by decide) dL_law_416 ?_
                      have f_56 := hS.1 c (by omega)
                      refine j_goto (pc := 417) C 422 rfl dL_law_417 ?_
                      refine j_st (st' := [vI (offS c much S)]) rfl rfl (congrArg (fun z => vI z :: []) (show ms_h S c = (offS c much S) from by unfold offS; first | rw [if_pos (by omega)] | rw [if_neg (by omega)])) ?_
                      refine j_istore (pc := 422) (lc' := [(20, vI (offS c much S)), (0, .ref b), (1, .ref (k 0)), (2, vI np), (3, .ref a3), (4, .ref a4), (5, .ref a5), (6, .ref a6), (7, .ref a7), (8, .ref a8), (9, .ref a9), (10, .ref a10), (11, .ref a11), (12, .ref a12), (13, .ref a13), (14, vI t), (15, vI x), (16, vI c), (17, vI much), (18, vI cb), (19, vI wn)]) C (by decide) rfl dL_law_422 ?_
                      refine j_aload (pc := 424) C 6 rfl dL_law_424 ?_
                      refine j_iload (pc := 426) C 17 rfl dL_law_426 ?_
                      refine j_dup2 (pc := 428) C rfl rfl dL_law_428 ?_
                      refine j_iald (pc := 429) C (Or.inl (List.mem_of_getElem? (i := 2) rfl)) rfl (by omega) (by decide) dL_law_429 ?_
                      have f_57 := hS.1 c (by omega)
                      refine j_iload (pc := 430) C 0 rfl dL_law_430 ?_
                      refine j_isub (pc := 432) C dL_law_432 ?_
                      refine j_iast (pc := 433) (ws' := ([(a3, aI (Y 0) 30 who), (a4, aI (Y 0) 3 cu2), (a5, aI (Y 0) 7 (up (ms_h S) c (ms_h S c - (offS c much S)))), (a6, aI (Y 0) 63 mk), (a7, aI (Y 0) 7 hw), (a8, aI (Y 0) 7 th), (a9, aI (Y 0) 63 tm), (a10, aI (Y 0) 7 tw), (a11, aL (Y 1) 1 sd), (a12, aL (Y 1) 1 ts), (a13, aI (Y 0) 12 al)] ++ W)) C 2 rfl rfl (by omega) (by decide) rfl dL_law_433 ?_
                      refine j_aload (pc := 434) C 8 rfl dL_law_434 ?_
                      refine j_iconst (pc := 436) C dL_law_436 ?_
                      refine j_dup2 (pc := 437) C rfl rfl dL_law_437 ?_
                      refine j_iald (pc := 438) C (Or.inl (List.mem_of_getElem? (i := 4) rfl)) rfl (by omega) (by decide) dL_law_438 ?_
                      refine j_iload (pc := 439) C 0 rfl dL_law_439 ?_
                      refine j_iadd (pc := 441) C dL_law_441 ?_
                      refine j_iast (pc := 442) (ws' := ([(a3, aI (Y 0) 30 who), (a4, aI (Y 0) 3 cu2), (a5, aI (Y 0) 7 (up (ms_h S) c (ms_h S c - (offS c much S)))), (a6, aI (Y 0) 63 mk), (a7, aI (Y 0) 7 (up hw 3 (hw 3 + (offS c much S)))), (a8, aI (Y 0) 7 th), (a9, aI (Y 0) 63 tm), (a10, aI (Y 0) 7 tw), (a11, aL (Y 1) 1 sd), (a12, aL (Y 1) 1 ts), (a13, aI (Y 0) 12 al)] ++ W)) C 4 rfl rfl (by omega) (by decide) rfl dL_law_442 ?_
                      refine j_st (ws' := ([(a3, aI (Y 0) 30 who), (a4, aI (Y 0) 3 cu2), (a5, aI (Y 0) 7 (ms_h (takeS c much S))), (a6, aI (Y 0) 63 mk), (a7, aI (Y 0) 7 (up hw 3 (hw 3 + (offS c much S)))), (a8, aI (Y 0) 7 th), (a9, aI (Y 0) 63 tm), (a10, aI (Y 0) 7 tw), (a11, aL (Y 1) 1 sd), (a12, aL (Y 1) 1 ts), (a13, aI (Y 0) 12 al)] ++ W)) rfl rfl rfl ?_
                      refine j_aload_n (pc := 443) C 1 2 rfl rfl dL_law_443 ?_
                      refine j_iload (pc := 444) C 17 rfl dL_law_444 ?_
                      refine j_iload (pc := 446) C 18 rfl dL_law_446 ?_
                      refine tc_take (pc := 448) (st := []) C i223_1 (by omega) (by omega) gL_law_X9_take (by decide) rfl ⟨show kk + 0 + 0 ≤ 600000 by omega, show nn + 0 + 0 ≤ 7302250 by omega⟩ dL_law_448 (fun W_58 hW_59 => ?_)
                      rw [show (sTake c much S) = (takeS c much S) from by unfold sTake; rw [if_neg (by omega), if_neg (by omega)]] at hW_59
                      refine j_st (st' := [vI (ms_h (takeS c much S) c)]) rfl rfl (congrArg (fun z => vI z :: []) (show (rTake c much S) = ms_h (takeS c much S) c from by unfold rTake; rw [if_neg (by omega), if_neg (by omega)])) ?_
                      refine j_aload (pc := 451) C 6 rfl dL_law_451 ?_
                      refine j_iload (pc := 453) C 17 rfl dL_law_453 ?_
                      refine j_iald (pc := 455) C (Or.inl (List.mem_of_getElem? (i := 2) rfl)) rfl (by omega) (by decide) dL_law_455 ?_
                      refine j_icmpSe (pc := 456) C 461 rfl dL_law_456 ?_
                      refine j_goto (pc := 461) C 633 rfl dL_law_461 ?_
                      have hLRn : LR (takeS c much S) mk (up hw 3 (hw 3 + (offS c much S))) := LR_take (offS_in hS ⟨by omega, by omega⟩ (by omega)).1 i223_2
                      have hsdn : sd 0 = ms_s (takeS c much S) := i223_3
                      have hdefn : defS (takeS c much S) = 0 := (def_take ⟨by omega, by omega⟩).trans i223_4
                      have hwn : ms_w (takeS c much S) ≤ ms_w S + 3 := by show ms_w S ≤ ms_w S + 3; omega
                      refine j_locals (lc' := [(0, .ref b), (1, .ref (k 0)), (2, vI np), (3, .ref a3), (4, .ref a4), (5, .ref a5), (6, .ref a6), (7, .ref a7), (8, .ref a8), (9, .ref a9), (10, .ref a10), (11, .ref a11), (12, .ref a12), (13, .ref a13), (14, vI t)]) [1, 2, 3, 4, 5, 6, 7, 8, 9, 10, 11, 12, 13, 14, 15] rfl ?_
                      refine law_look X D Y b L xs C hSc hL k a3 a4 a5 a6 a7 a8 a9 a10 a11 a12 a13 hW_59 hLRn hsdn hdefn t _ _ (by omega) (by omega) (fun W_60 hW_61 => ?_)
                      refine j_iinc (pc := 936) (lc' := [(14, vI (t + 1)), (0, .ref b), (1, .ref (k 0)), (2, vI np), (3, .ref a3), (4, .ref a4), (5, .ref a5), (6, .ref a6), (7, .ref a7), (8, .ref a8), (9, .ref a9), (10, .ref a10), (11, .ref a11), (12, .ref a12), (13, .ref a13)]) C 14 rfl (by decide) rfl dL_law_936 ?_
                      refine j_goto (pc := 939) C 223 rfl dL_law_939 ?_
                      refine j_locals (lc' := [(0, .ref b), (1, .ref (k 0)), (2, vI np), (3, .ref a3), (4, .ref a4), (5, .ref a5), (6, .ref a6), (7, .ref a7), (8, .ref a8), (9, .ref a9), (10, .ref a10), (11, .ref a11), (12, .ref a12), (13, .ref a13), (14, vI (t + 1))]) [1, 2, 3, 4, 5, 6, 7, 8, 9, 10, 11, 12, 13, 14, 0] rfl ?_
                      exact ih223 (t + 1) (takeS c much S) mk (up hw 3 (hw 3 + (offS c much S))) cu2 th tm tw sd ts W_60 (by omega) (by omega) hW_61 hLRn hsdn hdefn (by omega)
                · skip
                  refine j_iconst (pc := 335) C dL_law_335 ?_
                  refine j_istore (pc := 336) (lc' := [(20, vI 0), (0, .ref b), (1, .ref (k 0)), (2, vI np), (3, .ref a3), (4, .ref a4), (5, .ref a5), (6, .ref a6), (7, .ref a7), (8, .ref a8), (9, .ref a9), (10, .ref a10), (11, .ref a11), (12, .ref a12), (13, .ref a13), (14, vI t), (15, vI x), (16, vI c), (17, vI much), (18, vI cb), (19, vI wn)]) C (by decide) rfl dL_law_336 ?_
                  have hL338 : ∀ (N338 : Nat) (i : Int) (V : MS) (mk4 : Int → Int) (hw4 : Int → Int), ((much - i).toNat) < N338 → (0 ≤ i ∧ i ≤ much) → (V = putN c i S) → (okS V ∧ ms_w V = ms_w S) → (LR V mk4 hw4) → (ms_s V = ms_s S) → jW X 23 (kk + 0) (nn + 0) ([(a3, aI (Y 0) 30 who), (a4, aI (Y 0) 3 cu2), (a5, aI (Y 0) 7 (ms_h V)), (a6, aI (Y 0) 63 mk4), (a7, aI (Y 0) 7 hw4), (a8, aI (Y 0) 7 th), (a9, aI (Y 0) 63 tm), (a10, aI (Y 0) 7 tw), (a11, aL (Y 1) 1 sd), (a12, aL (Y 1) 1 ts), (a13, aI (Y 0) 12 al)] ++ W) [(0, .ref b), (1, .ref (k 0)), (2, vI np), (3, .ref a3), (4, .ref a4), (5, .ref a5), (6, .ref a6), (7, .ref a7), (8, .ref a8), (9, .ref a9), (10, .ref a10), (11, .ref a11), (12, .ref a12), (13, .ref a13), (14, vI t), (15, vI x), (16, vI c), (17, vI much), (18, vI cb), (19, vI wn), (20, vI i)] 338 [] := by
                    intro N338
                    induction N338 with
                    | zero => intro i V mk4 hw4 hm338 i338_0 i338_1 i338_2 i338_3 i338_4; omega
                    | succ N338 ih338 =>
                      intro i V mk4 hw4 hm338 i338_0 i338_1 i338_2 i338_3 i338_4
                      refine j_iload (pc := 338) C 20 rfl dL_law_338 ?_
                      refine j_iload (pc := 340) C 17 rfl dL_law_340 ?_
                      refine j_icmp_ge (pc := 342) C 366 rfl (by omega) dL_law_342 (fun h_62p342 => ?_) (fun h_62p342 => ?_)
                      · skip
                        have ei : i = much := by omega
                        refine j_aload (pc := 366) C 7 rfl dL_law_366 ?_
                        refine j_iconst (pc := 368) C dL_law_368 ?_
                        refine j_dup2 (pc := 369) C rfl rfl dL_law_369 ?_
                        refine j_iald (pc := 370) C (Or.inl (List.mem_of_getElem? (i := 4) rfl)) rfl (by omega) (by decide) dL_law_370 ?_
                        refine j_iload (pc := 371) C 17 rfl dL_law_371 ?_
                        refine j_iadd (pc := 373) C dL_law_373 ?_
                        refine j_iast (pc := 374) (ws' := ([(a3, aI (Y 0) 30 who), (a4, aI (Y 0) 3 cu2), (a5, aI (Y 0) 7 (ms_h V)), (a6, aI (Y 0) 63 mk4), (a7, aI (Y 0) 7 (up hw4 2 (hw4 2 + much))), (a8, aI (Y 0) 7 th), (a9, aI (Y 0) 63 tm), (a10, aI (Y 0) 7 tw), (a11, aL (Y 1) 1 sd), (a12, aL (Y 1) 1 ts), (a13, aI (Y 0) 12 al)] ++ W)) C 4 rfl rfl (by omega) (by decide) rfl dL_law_374 ?_
                        have eV : layS c much S = setA V (ms_a V + much) := by rw [ei] at i338_1; rw [i338_1]; rfl
                        refine j_st (ws' := ([(a3, aI (Y 0) 30 who), (a4, aI (Y 0) 3 cu2), (a5, aI (Y 0) 7 (ms_h (layS c much S))), (a6, aI (Y 0) 63 mk4), (a7, aI (Y 0) 7 (up hw4 2 (hw4 2 + much))), (a8, aI (Y 0) 7 th), (a9, aI (Y 0) 63 tm), (a10, aI (Y 0) 7 tw), (a11, aL (Y 1) 1 sd), (a12, aL (Y 1) 1 ts), (a13, aI (Y 0) 12 al)] ++ W)) (by rw [eV]; first | done | rfl) rfl rfl ?_
                        refine j_aload_n (pc := 375) C 1 1 rfl rfl dL_law_375 ?_
                        refine j_iload (pc := 376) C 16 rfl dL_law_376 ?_
                        refine j_iload (pc := 378) C 17 rfl dL_law_378 ?_
                        refine tc_lay (pc := 380) (st := []) C i223_1 (by omega) (by omega) gL_law_X9_lay (by decide) rfl ⟨show kk + 0 + 0 ≤ 600000 by omega, show nn + 0 + 0 ≤ 7302250 by omega⟩ dL_law_380 (fun W_63 hW_64 => ?_)
                        rw [show (sLay c much S) = (layS c much S) from by unfold sLay; rw [if_neg (by omega), if_neg (by omega)]] at hW_64
                        refine j_st (st' := [vI (ms_h (layS c much S) c)]) rfl rfl (congrArg (fun z => vI z :: []) (show (rLay c much S) = ms_h (layS c much S) c from by unfold rLay; rw [if_neg (by omega), if_neg (by omega)])) ?_
                        refine j_aload (pc := 383) C 5 rfl dL_law_383 ?_
                        refine j_iload (pc := 385) C 16 rfl dL_law_385 ?_
                        refine j_iald (pc := 387) C (Or.inl (List.mem_of_getElem? (i := 2) rfl)) rfl (by omega) (by decide) dL_law_387 ?_
                        refine j_icmpSe (pc := 388) C 633 rfl dL_law_388 ?_
                        have hLRn : LR (layS c much S) mk4 (up hw4 2 (hw4 2 + much)) := by rw [eV]; exact LR_A _ i338_3
                        have hsdn : sd 0 = ms_s (layS c much S) := by rw [eV]; exact i223_3.trans i338_4.symm
                        have hdefn : defS (layS c much S) = 0 := (def_lay ⟨by omega, by omega⟩ (by omega)).trans i223_4
                        have hwn : ms_w (layS c much S) ≤ ms_w S + 3 := by rw [layS_w hS ⟨by omega, by omega⟩ (by omega)]; omega
                        refine j_locals (lc' := [(0, .ref b), (1, .ref (k 0)), (2, vI np), (3, .ref a3), (4, .ref a4), (5, .ref a5), (6, .ref a6), (7, .ref a7), (8, .ref a8), (9, .ref a9), (10, .ref a10), (11, .ref a11), (12, .ref a12), (13, .ref a13), (14, vI t)]) [0, 1, 2, 3, 4, 5, 6, 7, 8, 9, 10, 11, 12, 13, 14] rfl ?_
                        refine law_look X D Y b L xs C hSc hL k a3 a4 a5 a6 a7 a8 a9 a10 a11 a12 a13 hW_64 hLRn hsdn hdefn t _ _ (by omega) (by omega) (fun W_65 hW_66 => ?_)
                        refine j_iinc (pc := 936) (lc' := [(14, vI (t + 1)), (0, .ref b), (1, .ref (k 0)), (2, vI np), (3, .ref a3), (4, .ref a4), (5, .ref a5), (6, .ref a6), (7, .ref a7), (8, .ref a8), (9, .ref a9), (10, .ref a10), (11, .ref a11), (12, .ref a12), (13, .ref a13)]) C 14 rfl (by decide) rfl dL_law_936 ?_
                        refine j_goto (pc := 939) C 223 rfl dL_law_939 ?_
                        refine j_locals (lc' := [(0, .ref b), (1, .ref (k 0)), (2, vI np), (3, .ref a3), (4, .ref a4), (5, .ref a5), (6, .ref a6), (7, .ref a7), (8, .ref a8), (9, .ref a9), (10, .ref a10), (11, .ref a11), (12, .ref a12), (13, .ref a13), (14, vI (t + 1))]) [1, 2, 3, 4, 5, 6, 7, 8, 9, 10, 11, 12, 13, 14, 0] rfl ?_
                        exact ih223 (t + 1) (layS c much S) mk4 (up hw4 2 (hw4 2 + much)) cu2 th tm tw sd ts W_65 (by omega) (by omega) hW_66 hLRn hsdn hdefn (by omega)
                      · skip
                        refine j_aload (pc := 345) C 5 rfl dL_law_345 ?_
                        refine j_aload (pc := 347) C 6 rfl dL_law_347 ?_
                        refine j_aload (pc := 349) C 7 rfl dL_law_349 ?_
                        refine j_iload (pc := 351) C 16 rfl dL_law_351 ?_
                        refine j_aload (pc := 353) C 7 rfl dL_law_353 ?_
                        refine j_iconst (pc := 355) C dL_law_355 ?_
                        refine j_iald (pc := 356) C (Or.inl (List.mem_of_getElem? (i := 4) rfl)) rfl (by omega) (by decide) dL_law_356 ?_
                        refine j_st (st' := [vI (ms_w V), vI c, .ref a7, .ref a6, .ref a5]) rfl rfl (congrArg (fun z => vI z :: [vI c, .ref a7, .ref a6, .ref a5]) (show hw4 0 = (ms_w V) from i338_3.2.1.1)) ?_
                        refine j_lawSv (pc := 357) (M0 := [(a3, aI (Y 0) 30 who), (a4, aI (Y 0) 3 cu2), (a5, aI (Y 0) 7 (ms_h V)), (a6, aI (Y 0) 63 mk4), (a7, aI (Y 0) 7 hw4), (a8, aI (Y 0) 7 th), (a9, aI (Y 0) 63 tm), (a10, aI (Y 0) 7 tw), (a11, aL (Y 1) 1 sd), (a12, aL (Y 1) 1 ts), (a13, aI (Y 0) 12 al)]) (PL := W) (wc := [(a5, aI (Y 0) 7 (ms_h V)), (a6, aI (Y 0) 63 mk4), (a7, aI (Y 0) 7 hw4)]) (As := [.ref a5, .ref a6, .ref a7, vI c, vI (ms_w V)]) (na := 5) (st := []) C [2, 3, 4] [0, 1, 5, 6, 7, 8, 9, 10] (wr := [(a3, aI (Y 0) 30 who), (a4, aI (Y 0) 3 cu2), (a8, aI (Y 0) 7 th), (a9, aI (Y 0) 63 tm), (a10, aI (Y 0) 7 tw), (a11, aL (Y 1) 1 sd), (a12, aL (Y 1) 1 ts), (a13, aI (Y 0) 12 al)]) (fun l => l_lay l D Y _ a5 a6 a7 V mk4 hw4 c (ms_w V) (ms_w V) i338_2.1 ⟨by omega, by omega⟩ i338_3 ⟨i338_2.1.w, Int.le_refl _⟩ (fun _ => rfl)) rfl rfl rfl rfl (by decide) rfl gL_law_L_lay (by decide +kernel) (by decide) rfl rfl (Nat.le_of_ble_eq_true rfl) ⟨show kk + 0 + 0 ≤ 600000 by omega, show nn + 0 + 0 ≤ 7302250 by omega⟩ dL_law_357 (fun w_68 h_69 => ?_)
                        obtain ⟨mk1_70, hw1_71, qmk1_70, rfl⟩ := h_69
                        refine j_permT (L' := [(a3, aI (Y 0) 30 who), (a4, aI (Y 0) 3 cu2), (a5, aI (Y 0) 7 (ms_h ((putS c (ms_w V) V)))), (a6, aI (Y 0) 63 mk1_70), (a7, aI (Y 0) 7 hw1_71), (a8, aI (Y 0) 7 th), (a9, aI (Y 0) 63 tm), (a10, aI (Y 0) 7 tw), (a11, aL (Y 1) 1 sd), (a12, aL (Y 1) 1 ts), (a13, aI (Y 0) 12 al)]) [0, 1, 8, 9, 10, 2, 3, 4, 5, 6, 7] rfl rfl ?_
                        refine j_iinc (pc := 360) (lc' := [(20, vI (i + 1)), (0, .ref b), (1, .ref (k 0)), (2, vI np), (3, .ref a3), (4, .ref a4), (5, .ref a5), (6, .ref a6), (7, .ref a7), (8, .ref a8), (9, .ref a9), (10, .ref a10), (11, .ref a11), (12, .ref a12), (13, .ref a13), (14, vI t), (15, vI x), (16, vI c), (17, vI much), (18, vI cb), (19, vI wn)]) C 20 rfl (by decide) rfl dL_law_360 ?_
                        refine j_goto (pc := 363) C 338 rfl dL_law_363 ?_
                        refine j_locals (lc' := [(0, .ref b), (1, .ref (k 0)), (2, vI np), (3, .ref a3), (4, .ref a4), (5, .ref a5), (6, .ref a6), (7, .ref a7), (8, .ref a8), (9, .ref a9), (10, .ref a10), (11, .ref a11), (12, .ref a12), (13, .ref a13), (14, vI t), (15, vI x), (16, vI c), (17, vI much), (18, vI cb), (19, vI wn), (20, vI (i + 1))]) [1, 2, 3, 4, 5, 6, 7, 8, 9, 10, 11, 12, 13, 14, 15, 16, 17, 18, 19, 20, 0] rfl ?_
                        exact ih338 (i + 1) ((putS c (ms_w V) V)) mk1_70 hw1_71 (by omega) (by omega) (by rw [i338_1]; exact (lay_succ (by omega)).symm) ⟨okS_put i338_2.1 ⟨by omega, by omega⟩ ⟨i338_2.1.w, Int.le_refl _⟩, (putS_w _ _ _).trans i338_2.2⟩ qmk1_70 ((putS_s _ _ _).trans i338_4)
                  refine j_locals (lc' := [(0, .ref b), (1, .ref (k 0)), (2, vI np), (3, .ref a3), (4, .ref a4), (5, .ref a5), (6, .ref a6), (7, .ref a7), (8, .ref a8), (9, .ref a9), (10, .ref a10), (11, .ref a11), (12, .ref a12), (13, .ref a13), (14, vI t), (15, vI x), (16, vI c), (17, vI much), (18, vI cb), (19, vI wn), (20, vI 0)]) [1, 2, 3, 4, 5, 6, 7, 8, 9, 10, 11, 12, 13, 14, 15, 16, 17, 18, 19, 20, 0] rfl ?_
                  exact hL338 _ 0 S mk hw (Nat.lt_succ_self _) (by omega) rfl ⟨hS, rfl⟩ i223_2 rfl
              · skip
                refine j_aload (pc := 305) C 4 rfl dL_law_305 ?_
                refine j_iload (pc := 307) C 20 rfl dL_law_307 ?_
                refine j_aload (pc := 309) C 13 rfl dL_law_309 ?_
                refine j_iconst (pc := 311) C dL_law_311 ?_
                refine j_iload (pc := 312) C 18 rfl dL_law_312 ?_
                refine j_imul (pc := 314) C dL_law_314 ?_
                refine j_iload (pc := 315) C 20 rfl dL_law_315 ?_
                refine j_iadd (pc := 317) C dL_law_317 ?_
                refine j_iald (pc := 318) C (Or.inl (List.mem_of_getElem? (i := 10) rfl)) rfl (by omega) (by decide) dL_law_318 ?_
                refine j_iast (pc := 319) (ws' := ([(a3, aI (Y 0) 30 who), (a4, aI (Y 0) 3 (up cu2 i (al ((3 * cb) + i)))), (a5, aI (Y 0) 7 (ms_h S)), (a6, aI (Y 0) 63 mk), (a7, aI (Y 0) 7 hw), (a8, aI (Y 0) 7 th), (a9, aI (Y 0) 63 tm), (a10, aI (Y 0) 7 tw), (a11, aL (Y 1) 1 sd), (a12, aL (Y 1) 1 ts), (a13, aI (Y 0) 12 al)] ++ W)) C 1 rfl rfl (by omega) (by decide) rfl dL_law_319 ?_
                refine j_iinc (pc := 320) (lc' := [(20, vI (i + 1)), (0, .ref b), (1, .ref (k 0)), (2, vI np), (3, .ref a3), (4, .ref a4), (5, .ref a5), (6, .ref a6), (7, .ref a7), (8, .ref a8), (9, .ref a9), (10, .ref a10), (11, .ref a11), (12, .ref a12), (13, .ref a13), (14, vI t), (15, vI x), (16, vI c), (17, vI much), (18, vI cb), (19, vI wn)]) C 20 rfl (by decide) rfl dL_law_320 ?_
                refine j_goto (pc := 323) C 299 rfl dL_law_323 ?_
                refine j_locals (lc' := [(0, .ref b), (1, .ref (k 0)), (2, vI np), (3, .ref a3), (4, .ref a4), (5, .ref a5), (6, .ref a6), (7, .ref a7), (8, .ref a8), (9, .ref a9), (10, .ref a10), (11, .ref a11), (12, .ref a12), (13, .ref a13), (14, vI t), (15, vI x), (16, vI c), (17, vI much), (18, vI cb), (19, vI wn), (20, vI (i + 1))]) [1, 2, 3, 4, 5, 6, 7, 8, 9, 10, 11, 12, 13, 14, 15, 16, 17, 18, 19, 20, 0] rfl ?_
                exact ih299 (i + 1) (up cu2 i (al ((3 * cb) + i))) (by omega) (by omega) (up_agree (f := fun j => al (3 * cb + j)) i299_1)
          refine j_locals (lc' := [(0, .ref b), (1, .ref (k 0)), (2, vI np), (3, .ref a3), (4, .ref a4), (5, .ref a5), (6, .ref a6), (7, .ref a7), (8, .ref a8), (9, .ref a9), (10, .ref a10), (11, .ref a11), (12, .ref a12), (13, .ref a13), (14, vI t), (15, vI x), (16, vI c), (17, vI much), (18, vI cb), (19, vI wn), (20, vI 0)]) [6, 7, 8, 9, 10, 11, 12, 13, 14, 15, 16, 17, 18, 19, 20, 5, 4, 3, 2, 1, 0] rfl ?_
          exact hL299 _ 0 cu (Nat.lt_succ_self _) (by omega) (fun j j0 j1 => by omega)
        refine j_if_ne (pc := 261) C 269 rfl (by omega) dL_law_261 (fun h_72p261 => ?_) (fun h_72p261 => ?_)
        · skip
          refine j_iconst (pc := 269) C dL_law_269 ?_
          exact J 5 (by omega)
        · skip
          refine j_bipush (pc := 264) (w := 60) C rfl dL_law_264 ?_
          refine j_goto (pc := 266) C 270 rfl dL_law_266 ?_
          exact J 60 (by omega)
  exact hL223 _ 0 S mk hw cu th tm tw sd ts W (Nat.lt_succ_self _) (by omega) hW hLR hsd hdef (by omega)
