theorem andI_in (a b : Int) : -2147483648 ≤ andI a b ∧ andI a b ≤ 2147483647 := by
  have h1 := Int32.le_toInt (Int32.ofInt a &&& Int32.ofInt b)
  have h2 := Int32.toInt_lt (Int32.ofInt a &&& Int32.ofInt b)
  unfold andI
  omega
set_option maxHeartbeats 4000000 in
set_option maxRecDepth 100000 in
theorem law_loop (X : jX) (D : va_G) (Y : Nat → ClassId) (k : Nat → Nat) (h : Nat) (r : Nat → Nat) (b L : Nat) (xs : Nat → Int32) (C : jC X code 4 RL wsL_law room_1 D Y []) (hSc : jSc X b L xs) (hL : L ≤ 3072) (hend : ∀ (kk nn : Nat) (ws : va_W) (lc : List (Nat × Value)), kk ≤ 600000 → nn ≤ 7302250 → jW X 4 kk nn ws lc 1176 [vI 1]) : ∀ (N : Nat) (i : Int), ((L : Int) - i).toNat < N → 0 ≤ i → i ≤ (L : Int) + 6 → lawIH X Y k h r b i := by
  intro N
  induction N with
  | zero => intro i h1 h2 h3; omega
  | succ N ih =>
    intro i hN hi0 hiL
    by_cases hlt : i ≤ (L : Int) - 6
    rotate_left
    · intro np nc pl ik S T U G v kv f mo f2 m2 z g g2 pg x y cad pad cs ps kk nn hI hkk hnn
      refine j_iload_n (pc := 18) C 3 0 rfl rfl dL_law_18 ?_
      refine j_aload_n (pc := 19) C 0 3 rfl rfl dL_law_19 ?_
      refine j_slen (pc := 20) C hSc dL_law_20 ?_
      refine j_bipush (pc := 21) (w := 6) C rfl dL_law_21 ?_
      refine j_isub (pc := 23) C dL_law_23 ?_
      refine j_icmp_gt (pc := 24) C 1175 rfl (by omega) dL_law_24 (fun hgt => ?_) (fun hgt => ?_)
      · refine j_iconst (pc := 1175) C dL_law_1175 ?_
        exact hend kk nn _ _ (by omega) (by omega)
      · exfalso; omega
    have IH : lawIH X Y k h r b (i + 6) := ih (i + 6) (by omega) (by omega) (by omega)
    intro np nc pl ik S T U G v kv f mo f2 m2 z g g2 pg x y cad pad cs ps kk nn hI hkk hnn
    refine j_iload_n (pc := 18) C 3 0 rfl rfl dL_law_18 ?_
    refine j_aload_n (pc := 19) C 0 3 rfl rfl dL_law_19 ?_
    refine j_slen (pc := 20) C hSc dL_law_20 ?_
    refine j_bipush (pc := 21) (w := 6) C rfl dL_law_21 ?_
    refine j_isub (pc := 23) C dL_law_23 ?_
    refine j_icmp_gt (pc := 24) C 1175 rfl (by omega) dL_law_24 (fun hgt => ?_) (fun hgt => ?_)
    · exfalso; omega
    refine j_aload_n (pc := 27) C 0 3 rfl rfl dL_law_27 ?_
    refine j_iload_n (pc := 28) C 3 0 rfl rfl dL_law_28 ?_
    refine j_sld (pc := 29) C hSc hL (by omega) dL_law_29 ?_
    refine j_bipush (pc := 30) (w := 31) C rfl dL_law_30 ?_
    refine j_iand (pc := 32) C dL_law_32 ?_
    have ha := andI_in (sxI xs i) 31
    rcases (show andI (sxI xs i) 31 = 0 ∨ andI (sxI xs i) 31 = 1 ∨ andI (sxI xs i) 31 = 2 ∨ andI (sxI xs i) 31 = 3 ∨ andI (sxI xs i) 31 = 4 ∨ andI (sxI xs i) 31 = 5 ∨ andI (sxI xs i) 31 = 6 ∨ andI (sxI xs i) 31 = 7 ∨ andI (sxI xs i) 31 = 8 ∨ andI (sxI xs i) 31 = 9 ∨ andI (sxI xs i) 31 = 10 ∨ andI (sxI xs i) 31 = 11 ∨ andI (sxI xs i) 31 = 12 ∨ andI (sxI xs i) 31 = 13 ∨ andI (sxI xs i) 31 = 14 ∨ andI (sxI xs i) 31 = 15 ∨ andI (sxI xs i) 31 = 16 ∨ andI (sxI xs i) 31 = 17 ∨ andI (sxI xs i) 31 = 18 ∨ andI (sxI xs i) 31 = 19 ∨ andI (sxI xs i) 31 = 20 ∨ andI (sxI xs i) 31 = 21 ∨ andI (sxI xs i) 31 = 22 ∨ andI (sxI xs i) 31 = 23 ∨ andI (sxI xs i) 31 = 24 ∨ andI (sxI xs i) 31 = 25 ∨ andI (sxI xs i) 31 = 26 ∨ andI (sxI xs i) 31 = 27 ∨ andI (sxI xs i) 31 = 28 ∨ andI (sxI xs i) 31 = 29 ∨ andI (sxI xs i) 31 = 30 ∨ (andI (sxI xs i) 31 < 0 ∨ 30 < andI (sxI xs i) 31) by omega) with hc | hc | hc | hc | hc | hc | hc | hc | hc | hc | hc | hc | hc | hc | hc | hc | hc | hc | hc | hc | hc | hc | hc | hc | hc | hc | hc | hc | hc | hc | hc | hc
    · refine j_tableC (pc := 33) C 0 172 hc (by decide) rfl rfl dL_law_33 ?_
      exact lawC_0 X D Y k h r b L xs C hSc hL i ⟨hi0, by omega⟩ IH np nc pl ik S T U G v kv f mo f2 m2 z g g2 pg x y cad pad cs ps kk nn hI hkk hnn
    · refine j_tableC (pc := 33) C 1 225 hc (by decide) rfl rfl dL_law_33 ?_
      exact lawC_1 X D Y k h r b L xs C hSc hL i ⟨hi0, by omega⟩ IH np nc pl ik S T U G v kv f mo f2 m2 z g g2 pg x y cad pad cs ps kk nn hI hkk hnn
    · refine j_tableC (pc := 33) C 2 238 hc (by decide) rfl rfl dL_law_33 ?_
      exact lawC_2 X D Y k h r b L xs C hSc hL i ⟨hi0, by omega⟩ IH np nc pl ik S T U G v kv f mo f2 m2 z g g2 pg x y cad pad cs ps kk nn hI hkk hnn
    · refine j_tableC (pc := 33) C 3 251 hc (by decide) rfl rfl dL_law_33 ?_
      exact lawC_3 X D Y k h r b L xs C hSc hL i ⟨hi0, by omega⟩ IH np nc pl ik S T U G v kv f mo f2 m2 z g g2 pg x y cad pad cs ps kk nn hI hkk hnn
    · refine j_tableC (pc := 33) C 4 264 hc (by decide) rfl rfl dL_law_33 ?_
      exact lawC_4 X D Y k h r b L xs C hSc hL i ⟨hi0, by omega⟩ IH np nc pl ik S T U G v kv f mo f2 m2 z g g2 pg x y cad pad cs ps kk nn hI hkk hnn
    · refine j_tableC (pc := 33) C 5 297 hc (by decide) rfl rfl dL_law_33 ?_
      exact lawC_5 X D Y k h r b L xs C hSc hL i ⟨hi0, by omega⟩ IH np nc pl ik S T U G v kv f mo f2 m2 z g g2 pg x y cad pad cs ps kk nn hI hkk hnn
    · refine j_tableC (pc := 33) C 6 360 hc (by decide) rfl rfl dL_law_33 ?_
      exact lawC_6 X D Y k h r b L xs C hSc hL i ⟨hi0, by omega⟩ IH np nc pl ik S T U G v kv f mo f2 m2 z g g2 pg x y cad pad cs ps kk nn hI hkk hnn
    · refine j_tableC (pc := 33) C 7 393 hc (by decide) rfl rfl dL_law_33 ?_
      exact lawC_7 X D Y k h r b L xs C hSc hL i ⟨hi0, by omega⟩ IH np nc pl ik S T U G v kv f mo f2 m2 z g g2 pg x y cad pad cs ps kk nn hI hkk hnn
    · refine j_tableC (pc := 33) C 8 426 hc (by decide) rfl rfl dL_law_33 ?_
      exact lawC_8 X D Y k h r b L xs C hSc hL i ⟨hi0, by omega⟩ IH np nc pl ik S T U G v kv f mo f2 m2 z g g2 pg x y cad pad cs ps kk nn hI hkk hnn
    · refine j_tableC (pc := 33) C 9 469 hc (by decide) rfl rfl dL_law_33 ?_
      exact lawC_9 X D Y k h r b L xs C hSc hL i ⟨hi0, by omega⟩ IH np nc pl ik S T U G v kv f mo f2 m2 z g g2 pg x y cad pad cs ps kk nn hI hkk hnn
    · refine j_tableC (pc := 33) C 10 502 hc (by decide) rfl rfl dL_law_33 ?_
      exact lawC_10 X D Y k h r b L xs C hSc hL i ⟨hi0, by omega⟩ IH np nc pl ik S T U G v kv f mo f2 m2 z g g2 pg x y cad pad cs ps kk nn hI hkk hnn
    · refine j_tableC (pc := 33) C 11 535 hc (by decide) rfl rfl dL_law_33 ?_
      exact lawC_11 X D Y k h r b L xs C hSc hL i ⟨hi0, by omega⟩ IH np nc pl ik S T U G v kv f mo f2 m2 z g g2 pg x y cad pad cs ps kk nn hI hkk hnn
    · refine j_tableC (pc := 33) C 12 558 hc (by decide) rfl rfl dL_law_33 ?_
      exact lawC_12 X D Y k h r b L xs C hSc hL i ⟨hi0, by omega⟩ IH np nc pl ik S T U G v kv f mo f2 m2 z g g2 pg x y cad pad cs ps kk nn hI hkk hnn
    · refine j_tableC (pc := 33) C 13 591 hc (by decide) rfl rfl dL_law_33 ?_
      exact lawC_13 X D Y k h r b L xs C hSc hL i ⟨hi0, by omega⟩ IH np nc pl ik S T U G v kv f mo f2 m2 z g g2 pg x y cad pad cs ps kk nn hI hkk hnn
    · refine j_tableC (pc := 33) C 14 624 hc (by decide) rfl rfl dL_law_33 ?_
      exact lawC_14 X D Y k h r b L xs C hSc hL i ⟨hi0, by omega⟩ IH np nc pl ik S T U G v kv f mo f2 m2 z g g2 pg x y cad pad cs ps kk nn hI hkk hnn
    · refine j_tableC (pc := 33) C 15 647 hc (by decide) rfl rfl dL_law_33 ?_
      exact lawC_15 X D Y k h r b L xs C hSc hL i ⟨hi0, by omega⟩ IH np nc pl ik S T U G v kv f mo f2 m2 z g g2 pg x y cad pad cs ps kk nn hI hkk hnn
    · refine j_tableC (pc := 33) C 16 680 hc (by decide) rfl rfl dL_law_33 ?_
      exact lawC_16 X D Y k h r b L xs C hSc hL i ⟨hi0, by omega⟩ IH np nc pl ik S T U G v kv f mo f2 m2 z g g2 pg x y cad pad cs ps kk nn hI hkk hnn
    · refine j_tableC (pc := 33) C 17 723 hc (by decide) rfl rfl dL_law_33 ?_
      exact lawC_17 X D Y k h r b L xs C hSc hL i ⟨hi0, by omega⟩ IH np nc pl ik S T U G v kv f mo f2 m2 z g g2 pg x y cad pad cs ps kk nn hI hkk hnn
    · refine j_tableC (pc := 33) C 18 746 hc (by decide) rfl rfl dL_law_33 ?_
      exact lawC_18 X D Y k h r b L xs C hSc hL i ⟨hi0, by omega⟩ IH np nc pl ik S T U G v kv f mo f2 m2 z g g2 pg x y cad pad cs ps kk nn hI hkk hnn
    · refine j_tableC (pc := 33) C 19 800 hc (by decide) rfl rfl dL_law_33 ?_
      exact lawC_19 X D Y k h r b L xs C hSc hL i ⟨hi0, by omega⟩ IH np nc pl ik S T U G v kv f mo f2 m2 z g g2 pg x y cad pad cs ps kk nn hI hkk hnn
    · refine j_tableC (pc := 33) C 20 844 hc (by decide) rfl rfl dL_law_33 ?_
      exact lawC_20 X D Y k h r b L xs C hSc hL i ⟨hi0, by omega⟩ IH np nc pl ik S T U G v kv f mo f2 m2 z g g2 pg x y cad pad cs ps kk nn hI hkk hnn
    · refine j_tableC (pc := 33) C 21 888 hc (by decide) rfl rfl dL_law_33 ?_
      exact lawC_21 X D Y k h r b L xs C hSc hL i ⟨hi0, by omega⟩ IH np nc pl ik S T U G v kv f mo f2 m2 z g g2 pg x y cad pad cs ps kk nn hI hkk hnn
    · refine j_tableC (pc := 33) C 22 921 hc (by decide) rfl rfl dL_law_33 ?_
      exact lawC_22 X D Y k h r b L xs C hSc hL i ⟨hi0, by omega⟩ IH np nc pl ik S T U G v kv f mo f2 m2 z g g2 pg x y cad pad cs ps kk nn hI hkk hnn
    · refine j_tableC (pc := 33) C 23 964 hc (by decide) rfl rfl dL_law_33 ?_
      exact lawC_23 X D Y k h r b L xs C hSc hL i ⟨hi0, by omega⟩ IH np nc pl ik S T U G v kv f mo f2 m2 z g g2 pg x y cad pad cs ps kk nn hI hkk hnn
    · refine j_tableC (pc := 33) C 24 997 hc (by decide) rfl rfl dL_law_33 ?_
      exact lawC_24 X D Y k h r b L xs C hSc hL i ⟨hi0, by omega⟩ IH np nc pl ik S T U G v kv f mo f2 m2 z g g2 pg x y cad pad cs ps kk nn hI hkk hnn
    · refine j_tableC (pc := 33) C 25 1040 hc (by decide) rfl rfl dL_law_33 ?_
      exact lawC_25 X D Y k h r b L xs C hSc hL i ⟨hi0, by omega⟩ IH np nc pl ik S T U G v kv f mo f2 m2 z g g2 pg x y cad pad cs ps kk nn hI hkk hnn
    · refine j_tableC (pc := 33) C 26 1083 hc (by decide) rfl rfl dL_law_33 ?_
      exact lawC_26 X D Y k h r b L xs C hSc hL i ⟨hi0, by omega⟩ IH np nc pl ik S T U G v kv f mo f2 m2 z g g2 pg x y cad pad cs ps kk nn hI hkk hnn
    · refine j_tableC (pc := 33) C 27 1106 hc (by decide) rfl rfl dL_law_33 ?_
      exact lawC_27 X D Y k h r b L xs C hSc hL i ⟨hi0, by omega⟩ IH np nc pl ik S T U G v kv f mo f2 m2 z g g2 pg x y cad pad cs ps kk nn hI hkk hnn
    · refine j_tableC (pc := 33) C 28 1119 hc (by decide) rfl rfl dL_law_33 ?_
      exact lawC_28 X D Y k h r b L xs C hSc hL i ⟨hi0, by omega⟩ IH np nc pl ik S T U G v kv f mo f2 m2 z g g2 pg x y cad pad cs ps kk nn hI hkk hnn
    · refine j_tableC (pc := 33) C 29 1132 hc (by decide) rfl rfl dL_law_33 ?_
      exact lawC_29 X D Y k h r b L xs C hSc hL i ⟨hi0, by omega⟩ IH np nc pl ik S T U G v kv f mo f2 m2 z g g2 pg x y cad pad cs ps kk nn hI hkk hnn
    · refine j_tableC (pc := 33) C 30 1155 hc (by decide) rfl rfl dL_law_33 ?_
      exact lawC_30 X D Y k h r b L xs C hSc hL i ⟨hi0, by omega⟩ IH np nc pl ik S T U G v kv f mo f2 m2 z g g2 pg x y cad pad cs ps kk nn hI hkk hnn
    · refine j_tableD (pc := 33) C 1169 (by omega) hc rfl dL_law_33 ?_
      refine j_iinc (pc := 1169) (lc' := [(3, vI (i + 6)), (2, .ref h), (1, .ref (k 0)), (0, .ref b)]) C 0 rfl (by decide) rfl dL_law_1169 ?_
      refine j_goto (pc := 1172) C 18 rfl dL_law_1172 ?_
      exact IH np nc pl ik S T U G v kv f mo f2 m2 z g g2 pg x y cad pad cs ps kk nn hI (by omega) (by omega)
theorem fL_law_X10 : ∀ w ∈ u_ws RX10 TX10 35, w ∈ wsL_law := j_words [973, 974, 975, 976, 977, 978, 979, 980, 981, 982, 983, 984, 985, 986, 987, 988, 989, 990, 991, 992, 993, 994, 995, 996, 997, 998, 999, 1000, 1001, 1002, 1003, 1004, 1005, 1006, 1007] (by decide +kernel)
theorem fL_law_X9 : ∀ w ∈ u_ws RX9 TX9 11, w ∈ wsL_law := j_words [962, 963, 964, 965, 966, 967, 968, 969, 970, 971, 972] (by decide +kernel)
theorem INV_0 : INV 0 0 0 0 MS0 MS0 GS0 (fun _ => 0) (fun _ => 0) CS0 PS0 := ⟨⟨okS_0, (by decide : (0 : Int) ≤ 9999)⟩, ⟨okS_0, (by decide : (0 : Int) ≤ 9999)⟩, ⟨rfl, rfl, rfl, rfl⟩, by decide, fun i hi => by omega, by decide, fun i hi => by omega, okPg_0, by decide, fun q => absurd q (by decide)⟩
set_option maxHeartbeats 4000000 in
set_option maxRecDepth 100000 in
theorem law_main (X : jX) (D : va_G) (Y : Nat → ClassId) (b L : Nat) (xs : Nat → Int32) (C : jC X code 4 RL wsL_law room_1 D Y []) (hSc : jSc X b L xs) (hL : L ≤ 3072) (hend : ∀ (kk nn : Nat) (ws : va_W) (lc : List (Nat × Value)), kk ≤ 600000 → nn ≤ 7302250 → jW X 4 kk nn ws lc 1176 [vI 1]) : jW X 4 0 0 [] [(0, .ref b)] 0 [] := by
  refine j_new (pc := 0) (ci := 8) C [.null, .null, vI 0, .null, vI 0, .null, .null, vI 0, .null, .null, .null] rfl fL_law_X9 tyX9_ok (List.mem_of_getElem? (i := 0) rfl) (List.mem_of_getElem? (i := 1) rfl) (List.mem_of_getElem? (i := 2) rfl) (fun j hj => by rcases (show j = 0 ∨ j = 1 ∨ j = 2 ∨ j = 3 ∨ j = 4 ∨ j = 5 ∨ j = 6 ∨ j = 7 ∨ j = 8 ∨ j = 9 ∨ j = 10 by omega) with rfl | rfl | rfl | rfl | rfl | rfl | rfl | rfl | rfl | rfl | rfl <;> rfl) (by decide) dL_law_0 (fun q_1 => ?_)
  refine j_st (ws' := [(q_1, oC 8 [.null, .null, vI 0, .null, vI 0, .null, .null, vI 0, .null, .null, .null])]) rfl rfl rfl ?_
  refine j_dup (pc := 3) C rfl dL_law_3 ?_
  refine j_callIv (pc := 4) (As := []) (na := 0) (st := [.ref q_1]) C [0] [] (wr := []) (fun l => k_init l D Y _ q_1 ) rfl rfl rfl rfl (by decide) rfl gL_law_X9_init (List.mem_of_getElem? (i := 2) rfl) (List.mem_of_getElem? (i := 7) rfl) (List.mem_of_getElem? (i := 8) rfl) rfl (by decide +kernel) (by decide) rfl rfl (Nat.le_of_ble_eq_true rfl) (by decide) dL_law_4 (fun w_3 h_4 => ?_)
  obtain ⟨k, rfl, rfl⟩ := h_4
  refine j_perm (ws' := [((k 0), oC 8 [.ref (k 1), .ref (k 2), vI 0, .ref (k 3), vI 0, .ref (k 4), .ref (k 7), vI 0, .ref (k 10), .ref (k 13), .ref (k 14)]), ((k 1), oC 3 [.ref (k 17), vI 0]), ((k 2), aQ (Y 2) 4 (fun _ => none)), ((k 3), aQ (Y 3) 6 (fun _ => none)), ((k 4), oC 2 [.ref (k 5), .ref (k 6), vI (ms_w MS0), vI (ms_l MS0), vI (ms_s MS0), vI (ms_a MS0), vI (ms_t MS0), vI (ms_p MS0)]), ((k 5), aI (Y 0) 7 (ms_h MS0)), ((k 6), aI (Y 0) 420 (ms_m MS0)), ((k 7), oC 2 [.ref (k 8), .ref (k 9), vI (ms_w MS0), vI (ms_l MS0), vI (ms_s MS0), vI (ms_a MS0), vI (ms_t MS0), vI (ms_p MS0)]), ((k 8), aI (Y 0) 7 (ms_h MS0)), ((k 9), aI (Y 0) 420 (ms_m MS0)), ((k 10), oC 2 [.ref (k 11), .ref (k 12), vI (ms_w MS0), vI (ms_l MS0), vI (ms_s MS0), vI (ms_a MS0), vI (ms_t MS0), vI (ms_p MS0)]), ((k 11), aI (Y 0) 7 (ms_h MS0)), ((k 12), aI (Y 0) 420 (ms_m MS0)), ((k 13), aI (Y 0) 7 (fun _ => 0)), ((k 14), oC 7 [.ref (k 15), .ref (k 16)]), ((k 15), aI (Y 0) 271 (fun _ => 0)), ((k 16), aI (Y 0) 271 (fun _ => 0)), ((k 17), aI (Y 0) 16 (fun _ => 0))]) [0, 1, 2, 3, 4, 5, 6, 7, 8, 9, 10, 11, 12, 13, 14, 15, 16, 17] rfl rfl ?_
  refine j_astore_n (pc := 7) (lc' := [(1, .ref (k 0)), (0, .ref b)]) C 1 rfl (by decide) rfl dL_law_7 ?_
  refine j_new (pc := 8) (ci := 9) C [.null, .null, vI 0, vI 0, vL 0, vI 0, vI 0, vI 0, vI 0, .null, .null, .null, .null, .null, vI 0, .null, .null, .null, vI 0, .null, vI 0, vL 0, .null, vL 0, .null, vI 0, vI 0, vI 0, vI 0, vI 0, .null, .null, .null, .null, vL 0] rfl fL_law_X10 tyX10_ok (List.mem_of_getElem? (i := 3) rfl) (List.mem_of_getElem? (i := 4) rfl) (List.mem_of_getElem? (i := 5) rfl) (fun j hj => by rcases (show j = 0 ∨ j = 1 ∨ j = 2 ∨ j = 3 ∨ j = 4 ∨ j = 5 ∨ j = 6 ∨ j = 7 ∨ j = 8 ∨ j = 9 ∨ j = 10 ∨ j = 11 ∨ j = 12 ∨ j = 13 ∨ j = 14 ∨ j = 15 ∨ j = 16 ∨ j = 17 ∨ j = 18 ∨ j = 19 ∨ j = 20 ∨ j = 21 ∨ j = 22 ∨ j = 23 ∨ j = 24 ∨ j = 25 ∨ j = 26 ∨ j = 27 ∨ j = 28 ∨ j = 29 ∨ j = 30 ∨ j = 31 ∨ j = 32 ∨ j = 33 ∨ j = 34 by omega) with rfl | rfl | rfl | rfl | rfl | rfl | rfl | rfl | rfl | rfl | rfl | rfl | rfl | rfl | rfl | rfl | rfl | rfl | rfl | rfl | rfl | rfl | rfl | rfl | rfl | rfl | rfl | rfl | rfl | rfl | rfl | rfl | rfl | rfl | rfl <;> rfl) (by decide) dL_law_8 (fun q_5 => ?_)
  refine j_st (ws' := [((k 0), oC 8 [.ref (k 1), .ref (k 2), vI 0, .ref (k 3), vI 0, .ref (k 4), .ref (k 7), vI 0, .ref (k 10), .ref (k 13), .ref (k 14)]), ((k 1), oC 3 [.ref (k 17), vI 0]), ((k 2), aQ (Y 2) 4 (fun _ => none)), ((k 3), aQ (Y 3) 6 (fun _ => none)), ((k 4), oC 2 [.ref (k 5), .ref (k 6), vI (ms_w MS0), vI (ms_l MS0), vI (ms_s MS0), vI (ms_a MS0), vI (ms_t MS0), vI (ms_p MS0)]), ((k 5), aI (Y 0) 7 (ms_h MS0)), ((k 6), aI (Y 0) 420 (ms_m MS0)), ((k 7), oC 2 [.ref (k 8), .ref (k 9), vI (ms_w MS0), vI (ms_l MS0), vI (ms_s MS0), vI (ms_a MS0), vI (ms_t MS0), vI (ms_p MS0)]), ((k 8), aI (Y 0) 7 (ms_h MS0)), ((k 9), aI (Y 0) 420 (ms_m MS0)), ((k 10), oC 2 [.ref (k 11), .ref (k 12), vI (ms_w MS0), vI (ms_l MS0), vI (ms_s MS0), vI (ms_a MS0), vI (ms_t MS0), vI (ms_p MS0)]), ((k 11), aI (Y 0) 7 (ms_h MS0)), ((k 12), aI (Y 0) 420 (ms_m MS0)), ((k 13), aI (Y 0) 7 (fun _ => 0)), ((k 14), oC 7 [.ref (k 15), .ref (k 16)]), ((k 15), aI (Y 0) 271 (fun _ => 0)), ((k 16), aI (Y 0) 271 (fun _ => 0)), ((k 17), aI (Y 0) 16 (fun _ => 0)), (q_5, oC 9 [.null, .null, vI 0, vI 0, vL 0, vI 0, vI 0, vI 0, vI 0, .null, .null, .null, .null, .null, vI 0, .null, .null, .null, vI 0, .null, vI 0, vL 0, .null, vL 0, .null, vI 0, vI 0, vI 0, vI 0, vI 0, .null, .null, .null, .null, vL 0])]) rfl rfl rfl ?_
  refine j_dup (pc := 11) C rfl dL_law_11 ?_
  refine j_callIv (pc := 12) (As := []) (na := 0) (st := [.ref q_5]) C [18] [0, 1, 2, 3, 4, 5, 6, 7, 8, 9, 10, 11, 12, 13, 14, 15, 16, 17] (wr := [((k 0), oC 8 [.ref (k 1), .ref (k 2), vI 0, .ref (k 3), vI 0, .ref (k 4), .ref (k 7), vI 0, .ref (k 10), .ref (k 13), .ref (k 14)]), ((k 1), oC 3 [.ref (k 17), vI 0]), ((k 2), aQ (Y 2) 4 (fun _ => none)), ((k 3), aQ (Y 3) 6 (fun _ => none)), ((k 4), oC 2 [.ref (k 5), .ref (k 6), vI (ms_w MS0), vI (ms_l MS0), vI (ms_s MS0), vI (ms_a MS0), vI (ms_t MS0), vI (ms_p MS0)]), ((k 5), aI (Y 0) 7 (ms_h MS0)), ((k 6), aI (Y 0) 420 (ms_m MS0)), ((k 7), oC 2 [.ref (k 8), .ref (k 9), vI (ms_w MS0), vI (ms_l MS0), vI (ms_s MS0), vI (ms_a MS0), vI (ms_t MS0), vI (ms_p MS0)]), ((k 8), aI (Y 0) 7 (ms_h MS0)), ((k 9), aI (Y 0) 420 (ms_m MS0)), ((k 10), oC 2 [.ref (k 11), .ref (k 12), vI (ms_w MS0), vI (ms_l MS0), vI (ms_s MS0), vI (ms_a MS0), vI (ms_t MS0), vI (ms_p MS0)]), ((k 11), aI (Y 0) 7 (ms_h MS0)), ((k 12), aI (Y 0) 420 (ms_m MS0)), ((k 13), aI (Y 0) 7 (fun _ => 0)), ((k 14), oC 7 [.ref (k 15), .ref (k 16)]), ((k 15), aI (Y 0) 271 (fun _ => 0)), ((k 16), aI (Y 0) 271 (fun _ => 0)), ((k 17), aI (Y 0) 16 (fun _ => 0))]) (fun l => m_init l D Y _ q_5 ) rfl rfl rfl rfl (by decide) rfl gL_law_X10_init (List.mem_of_getElem? (i := 5) rfl) (List.mem_of_getElem? (i := 48) rfl) (List.mem_of_getElem? (i := 49) rfl) rfl (by decide +kernel) (by decide) rfl rfl (Nat.le_of_ble_eq_true rfl) (by decide) dL_law_12 (fun w_7 h_8 => ?_)
  obtain ⟨r, rfl⟩ := h_8
  refine j_perm (ws' := [((k 0), oC 8 [.ref (k 1), .ref (k 2), vI 0, .ref (k 3), vI 0, .ref (k 4), .ref (k 7), vI 0, .ref (k 10), .ref (k 13), .ref (k 14)]), ((k 1), oC 3 [.ref (k 17), vI 0]), ((k 2), aQ (Y 2) 4 (fun _ => none)), ((k 3), aQ (Y 3) 6 (fun _ => none)), ((k 4), oC 2 [.ref (k 5), .ref (k 6), vI (ms_w MS0), vI (ms_l MS0), vI (ms_s MS0), vI (ms_a MS0), vI (ms_t MS0), vI (ms_p MS0)]), ((k 5), aI (Y 0) 7 (ms_h MS0)), ((k 6), aI (Y 0) 420 (ms_m MS0)), ((k 7), oC 2 [.ref (k 8), .ref (k 9), vI (ms_w MS0), vI (ms_l MS0), vI (ms_s MS0), vI (ms_a MS0), vI (ms_t MS0), vI (ms_p MS0)]), ((k 8), aI (Y 0) 7 (ms_h MS0)), ((k 9), aI (Y 0) 420 (ms_m MS0)), ((k 10), oC 2 [.ref (k 11), .ref (k 12), vI (ms_w MS0), vI (ms_l MS0), vI (ms_s MS0), vI (ms_a MS0), vI (ms_t MS0), vI (ms_p MS0)]), ((k 11), aI (Y 0) 7 (ms_h MS0)), ((k 12), aI (Y 0) 420 (ms_m MS0)), ((k 13), aI (Y 0) 7 (fun _ => 0)), ((k 14), oC 7 [.ref (k 15), .ref (k 16)]), ((k 15), aI (Y 0) 271 (fun _ => 0)), ((k 16), aI (Y 0) 271 (fun _ => 0)), ((k 17), aI (Y 0) 16 (fun _ => 0)), (q_5, oC 9 [.ref (r 0), .ref (r 1), vI (ms_w MS0), vI (ms_l MS0), vL (ms_s MS0), vI (ms_a MS0), vI (ms_t MS0), vI (ms_p MS0), vI (g_np GS0), .ref (r 9), .ref (r 10), .ref (r 11), .ref (r 12), .ref (r 13), vI (g_nc GS0), .ref (r 15), .ref (r 16), .ref (r 17), vI (g_pl GS0), .ref (r 19), vI (g_ik GS0), vL (g_ks GS0), .ref (r 22), vL (g_ss GS0), .ref (r 24), vI (g_fa GS0), vI (g_iw GS0), vI (g_nw GS0), vI (g_ns GS0), vI (g_ne GS0), .ref (r 30), .ref (r 31), .ref (r 32), .ref (r 33), vL (g_h GS0)]), ((r 1), aI (Y 0) 7 (ms_h MS0)), ((r 0), aI (Y 0) 420 (ms_m MS0)), ((r 9), aI (Y 0) 6 (kof PS0)), ((r 10), aI (Y 0) 6 (nof PS0)), ((r 11), aI (Y 0) 6 (wof PS0)), ((r 12), aI (Y 0) 6 (iof PS0)), ((r 13), aI (Y 0) 6 (zof PS0)), ((r 15), aI (Y 0) 4 (cwof CS0)), ((r 16), aI (Y 0) 4 (czof CS0)), ((r 17), aI (Y 0) 4 (ceof CS0)), ((r 19), aI (Y 1) 16 (fun _ => 0)), ((r 22), aI (Y 0) 432 (fun _ => 0)), ((r 24), aI (Y 0) 432 (fun _ => 0)), ((r 30), aI (Y 0) 271 (fun _ => 0)), ((r 31), aI (Y 0) 271 (fun _ => 0)), ((r 32), aI (Y 0) 271 (fun _ => 0)), ((r 33), aI (Y 0) 271 (fun _ => 0))]) [0, 1, 2, 3, 4, 5, 6, 7, 8, 9, 10, 11, 12, 13, 14, 15, 16, 17, 18, 19, 20, 21, 22, 23, 24, 25, 26, 27, 28, 29, 30, 31, 32, 33, 34, 35] rfl rfl ?_
  refine j_astore_n (pc := 15) (lc' := [(2, .ref q_5), (1, .ref (k 0)), (0, .ref b)]) C 2 rfl (by decide) rfl dL_law_15 ?_
  refine j_iconst (pc := 16) C dL_law_16 ?_
  refine j_istore_n (pc := 17) (lc' := [(3, vI 0), (2, .ref q_5), (1, .ref (k 0)), (0, .ref b)]) C 3 rfl (by decide) rfl dL_law_17 ?_
  refine j_locals (lc' := [(3, vI 0), (2, .ref q_5), (1, .ref (k 0)), (0, .ref b)]) [0, 1, 2, 3] rfl ?_
  refine j_st (ws' := [((k 0), oC 8 [.ref (k 1), .ref (k 2), vI 0, .ref (k 3), vI 0, .ref (k 4), .ref (k 7), vI 0, .ref (k 10), .ref (k 13), .ref (k 14)]), ((k 1), oC 3 [.ref (k 17), vI 0]), ((k 2), aQ (Y 2) 4 (orow 0 (fun _ => 0))), ((k 3), aQ (Y 3) 6 (orow 0 (fun _ => 0))), ((k 4), oC 2 [.ref (k 5), .ref (k 6), vI (ms_w MS0), vI (ms_l MS0), vI (ms_s MS0), vI (ms_a MS0), vI (ms_t MS0), vI (ms_p MS0)]), ((k 5), aI (Y 0) 7 (ms_h MS0)), ((k 6), aI (Y 0) 420 (ms_m MS0)), ((k 7), oC 2 [.ref (k 8), .ref (k 9), vI (ms_w MS0), vI (ms_l MS0), vI (ms_s MS0), vI (ms_a MS0), vI (ms_t MS0), vI (ms_p MS0)]), ((k 8), aI (Y 0) 7 (ms_h MS0)), ((k 9), aI (Y 0) 420 (ms_m MS0)), ((k 10), oC 2 [.ref (k 11), .ref (k 12), vI (ms_w MS0), vI (ms_l MS0), vI (ms_s MS0), vI (ms_a MS0), vI (ms_t MS0), vI (ms_p MS0)]), ((k 11), aI (Y 0) 7 (ms_h MS0)), ((k 12), aI (Y 0) 420 (ms_m MS0)), ((k 13), aI (Y 0) 7 (fun _ => 0)), ((k 14), oC 7 [.ref (k 15), .ref (k 16)]), ((k 15), aI (Y 0) 271 (fun _ => 0)), ((k 16), aI (Y 0) 271 (fun _ => 0)), ((k 17), aI (Y 0) 16 (fun _ => 0)), (q_5, oC 9 [.ref (r 0), .ref (r 1), vI (ms_w MS0), vI (ms_l MS0), vL (ms_s MS0), vI (ms_a MS0), vI (ms_t MS0), vI (ms_p MS0), vI (g_np GS0), .ref (r 9), .ref (r 10), .ref (r 11), .ref (r 12), .ref (r 13), vI (g_nc GS0), .ref (r 15), .ref (r 16), .ref (r 17), vI (g_pl GS0), .ref (r 19), vI (g_ik GS0), vL (g_ks GS0), .ref (r 22), vL (g_ss GS0), .ref (r 24), vI (g_fa GS0), vI (g_iw GS0), vI (g_nw GS0), vI (g_ns GS0), vI (g_ne GS0), .ref (r 30), .ref (r 31), .ref (r 32), .ref (r 33), vL (g_h GS0)]), ((r 1), aI (Y 0) 7 (ms_h MS0)), ((r 0), aI (Y 0) 420 (ms_m MS0)), ((r 9), aI (Y 0) 6 (kof PS0)), ((r 10), aI (Y 0) 6 (nof PS0)), ((r 11), aI (Y 0) 6 (wof PS0)), ((r 12), aI (Y 0) 6 (iof PS0)), ((r 13), aI (Y 0) 6 (zof PS0)), ((r 15), aI (Y 0) 4 (cwof CS0)), ((r 16), aI (Y 0) 4 (czof CS0)), ((r 17), aI (Y 0) 4 (ceof CS0)), ((r 19), aI (Y 1) 16 (fun _ => 0)), ((r 22), aI (Y 0) 432 (fun _ => 0)), ((r 24), aI (Y 0) 432 (fun _ => 0)), ((r 30), aI (Y 0) 271 (fun _ => 0)), ((r 31), aI (Y 0) 271 (fun _ => 0)), ((r 32), aI (Y 0) 271 (fun _ => 0)), ((r 33), aI (Y 0) 271 (fun _ => 0))]) (by rw [orow_0]) rfl rfl ?_
  exact law_loop X D Y k q_5 r b L xs C hSc hL hend (L + 1) 0 (by omega) (Int.le_refl 0) (by omega) 0 0 0 0 MS0 MS0 MS0 GS0 (fun _ => 0) (fun _ => 0) (fun _ => 0) (fun _ => 0) (fun _ => 0) (fun _ => 0) (fun _ => 0) (fun _ => 0) (fun _ => 0) (fun _ => 0) (k 15) (k 16) (fun _ => 0) (fun _ => 0) CS0 PS0 _ _ INV_0 (Nat.le_of_ble_eq_true rfl) (Nat.le_of_ble_eq_true rfl)
