theorem cnt_succ (f : Int → Int) (w : Int) {n : Int} (h : 0 ≤ n) : cntI f w (n + 1) = if f n = w then cntI f w n + 1 else cntI f w n := fo_succ _ h 0
set_option maxHeartbeats 8000000 in
set_option maxRecDepth 100000 in
theorem law_look (X : jX) (D : va_G) (Y : Nat → ClassId) (b L : Nat) (xs : Nat → Int32) (C : jC X code 23 RL wsL_law room_1 D Y []) (hSc : jSc X b L xs) (hL : L ≤ 3072) (k : Nat → Nat) (a3 a4 a5 a6 a7 a8 a9 a10 a11 a12 a13 : Nat) {np : Int} {S : MS} {pg : Int → Int} {cs : Int → CT} {ps : Int → PT} {mk hw cu th tm tw sd ts al who : Int → Int} {W : va_W} (hW : KWs Y k np 4 0 S pg cs ps W) (hLR : LR S mk hw) (hsd : sd 0 = ms_s S) (hdef : defS S = 0) (t : Int) (kk nn : Nat) (hkk : kk ≤ 1000) (hnn : nn ≤ 100000) (hcont : ∀ W' : va_W, KWs Y k np 4 0 S pg cs ps W' → jW X 23 kk nn ([(a3, aI (Y 0) 30 who), (a4, aI (Y 0) 3 cu), (a5, aI (Y 0) 7 (ms_h S)), (a6, aI (Y 0) 63 mk), (a7, aI (Y 0) 7 hw), (a8, aI (Y 0) 7 th), (a9, aI (Y 0) 63 tm), (a10, aI (Y 0) 7 tw), (a11, aL (Y 1) 1 sd), (a12, aL (Y 1) 1 ts), (a13, aI (Y 0) 12 al)] ++ W') [(0, .ref b), (1, .ref (k 0)), (2, vI np), (3, .ref a3), (4, .ref a4), (5, .ref a5), (6, .ref a6), (7, .ref a7), (8, .ref a8), (9, .ref a9), (10, .ref a10), (11, .ref a11), (12, .ref a12), (13, .ref a13), (14, vI t)] 936 []) : jW X 23 kk nn ([(a3, aI (Y 0) 30 who), (a4, aI (Y 0) 3 cu), (a5, aI (Y 0) 7 (ms_h S)), (a6, aI (Y 0) 63 mk), (a7, aI (Y 0) 7 hw), (a8, aI (Y 0) 7 th), (a9, aI (Y 0) 63 tm), (a10, aI (Y 0) 7 tw), (a11, aL (Y 1) 1 sd), (a12, aL (Y 1) 1 ts), (a13, aI (Y 0) 12 al)] ++ W) [(0, .ref b), (1, .ref (k 0)), (2, vI np), (3, .ref a3), (4, .ref a4), (5, .ref a5), (6, .ref a6), (7, .ref a7), (8, .ref a8), (9, .ref a9), (10, .ref a10), (11, .ref a11), (12, .ref a12), (13, .ref a13), (14, vI t)] 633 [] := by
  have hS := hW.1.1
  have hwk := hW.1.2
  have hw0 := hS.w
  have hnpR := hW.2.1
  refine j_iconst (pc := 633) C dL_law_633 ?_
  refine j_istore (pc := 634) (lc' := [(20, vI 0), (0, .ref b), (1, .ref (k 0)), (2, vI np), (3, .ref a3), (4, .ref a4), (5, .ref a5), (6, .ref a6), (7, .ref a7), (8, .ref a8), (9, .ref a9), (10, .ref a10), (11, .ref a11), (12, .ref a12), (13, .ref a13), (14, vI t)]) C (by decide) rfl dL_law_634 ?_
  have hL636 : ∀ (N636 : Nat) (c : Int) (W2 : va_W), ((7 - c).toNat) < N636 → (0 ≤ c ∧ c ≤ 7) → (KWs Y k np 4 0 S pg cs ps W2) → jW X 23 (kk + 0) (nn + 0) ([(a3, aI (Y 0) 30 who), (a4, aI (Y 0) 3 cu), (a5, aI (Y 0) 7 (ms_h S)), (a6, aI (Y 0) 63 mk), (a7, aI (Y 0) 7 hw), (a8, aI (Y 0) 7 th), (a9, aI (Y 0) 63 tm), (a10, aI (Y 0) 7 tw), (a11, aL (Y 1) 1 sd), (a12, aL (Y 1) 1 ts), (a13, aI (Y 0) 12 al)] ++ W2) [(0, .ref b), (1, .ref (k 0)), (2, vI np), (3, .ref a3), (4, .ref a4), (5, .ref a5), (6, .ref a6), (7, .ref a7), (8, .ref a8), (9, .ref a9), (10, .ref a10), (11, .ref a11), (12, .ref a12), (13, .ref a13), (14, vI t), (20, vI c)] 636 [] := by
    intro N636
    induction N636 with
    | zero => intro c W2 hm636 i636_0 i636_1; omega
    | succ N636 ih636 =>
      intro c W2 hm636 i636_0 i636_1
      refine j_iload (pc := 636) C 15 rfl dL_law_636 ?_
      refine j_bipush (pc := 638) (w := 7) C rfl dL_law_638 ?_
      refine j_icmp_ge (pc := 640) C 822 rfl (by omega) dL_law_640 (fun h_1p640 => ?_) (fun h_1p640 => ?_)
      · skip
        refine j_aload_n (pc := 822) C 1 1 rfl rfl dL_law_822 ?_
        refine j_iconst (pc := 823) C dL_law_823 ?_
        refine tc_count (pc := 824) (st := []) C i636_1 (by omega) gL_law_X9_count (by decide) rfl ⟨show kk + 0 + 0 ≤ 600000 by omega, show nn + 0 + 0 ≤ 7302250 by omega⟩ dL_law_824 (fun W_2 hW_3 => ?_)
        refine j_st (st' := [vI (sumI (ms_h S) 7)]) rfl rfl (congrArg (fun z => vI z :: []) (show (rCount 2 np 4 0 S) = (sumI (ms_h S) 7) from rfl)) ?_
        refine j_aload (pc := 827) C 5 rfl dL_law_827 ?_
        refine j_lawSi (pc := 829) (M0 := [(a3, aI (Y 0) 30 who), (a4, aI (Y 0) 3 cu), (a5, aI (Y 0) 7 (ms_h S)), (a6, aI (Y 0) 63 mk), (a7, aI (Y 0) 7 hw), (a8, aI (Y 0) 7 th), (a9, aI (Y 0) 63 tm), (a10, aI (Y 0) 7 tw), (a11, aL (Y 1) 1 sd), (a12, aL (Y 1) 1 ts), (a13, aI (Y 0) 12 al)]) (PL := W_2) (wc := []) (As := [.ref a5]) (na := 1) (st := [vI (sumI (ms_h S) 7)]) C [] [0, 1, 2, 3, 4, 5, 6, 7, 8, 9, 10] (wr := [(a3, aI (Y 0) 30 who), (a4, aI (Y 0) 3 cu), (a5, aI (Y 0) 7 (ms_h S)), (a6, aI (Y 0) 63 mk), (a7, aI (Y 0) 7 hw), (a8, aI (Y 0) 7 th), (a9, aI (Y 0) 63 tm), (a10, aI (Y 0) 7 tw), (a11, aL (Y 1) 1 sd), (a12, aL (Y 1) 1 ts), (a13, aI (Y 0) 12 al)]) (fun l => l_all l D Y _ a5 (ms_h S) (List.mem_append_left _ (List.mem_append_left _ (List.mem_of_getElem? (i := 2) rfl))) ) rfl rfl rfl rfl (by decide) rfl gL_law_L_all (by decide +kernel) (by decide) rfl rfl (Nat.le_of_ble_eq_true rfl) ⟨show kk + 0 + 0 ≤ 600000 by omega, show nn + 0 + 0 ≤ 7302250 by omega⟩ dL_law_829 (fun e_4 w_5 h_6 => ?_)
        obtain ⟨rfl, rfl⟩ := h_6
        refine j_permT (L' := [(a3, aI (Y 0) 30 who), (a4, aI (Y 0) 3 cu), (a5, aI (Y 0) 7 (ms_h S)), (a6, aI (Y 0) 63 mk), (a7, aI (Y 0) 7 hw), (a8, aI (Y 0) 7 th), (a9, aI (Y 0) 63 tm), (a10, aI (Y 0) 7 tw), (a11, aL (Y 1) 1 sd), (a12, aL (Y 1) 1 ts), (a13, aI (Y 0) 12 al)]) [0, 1, 2, 3, 4, 5, 6, 7, 8, 9, 10] rfl rfl ?_
        refine j_icmpSn (pc := 832) C 934 rfl dL_law_832 ?_
        refine j_aload_n (pc := 835) C 1 1 rfl rfl dL_law_835 ?_
        refine j_iconst (pc := 836) C dL_law_836 ?_
        refine tc_count (pc := 837) (st := []) C hW_3 (by omega) gL_law_X9_count (by decide) rfl ⟨show kk + 0 + 0 ≤ 600000 by omega, show nn + 0 + 0 ≤ 7302250 by omega⟩ dL_law_837 (fun W_7 hW_8 => ?_)
        refine j_st (st' := [vI (ms_w S)]) rfl rfl (congrArg (fun z => vI z :: []) (show (rCount 3 np 4 0 S) = (ms_w S) from rfl)) ?_
        refine j_aload (pc := 840) C 7 rfl dL_law_840 ?_
        refine j_iconst (pc := 842) C dL_law_842 ?_
        refine j_iald (pc := 843) C (Or.inl (List.mem_of_getElem? (i := 4) rfl)) rfl (by omega) (by decide) dL_law_843 ?_
        refine j_st (st' := [vI (ms_w S), vI (ms_w S)]) rfl rfl (congrArg (fun z => vI z :: [vI (ms_w S)]) (show hw 0 = (ms_w S) from (hLR.2.1.1))) ?_
        refine j_icmpSn (pc := 844) C 934 rfl dL_law_844 ?_
        refine j_aload_n (pc := 847) C 1 1 rfl rfl dL_law_847 ?_
        refine j_iconst (pc := 848) C dL_law_848 ?_
        refine tc_count (pc := 849) (st := []) C hW_8 (by omega) gL_law_X9_count (by decide) rfl ⟨show kk + 0 + 0 ≤ 600000 by omega, show nn + 0 + 0 ≤ 7302250 by omega⟩ dL_law_849 (fun W_9 hW_10 => ?_)
        refine j_st (st' := [vI (ms_s S)]) rfl rfl (congrArg (fun z => vI z :: []) (show (rCount 4 np 4 0 S) = (ms_s S) from rfl)) ?_
        have hss := hS.2.2.2
        refine j_i2l (pc := 852) C (by omega) dL_law_852 ?_
        refine j_aload (pc := 853) C 11 rfl dL_law_853 ?_
        refine j_iconst (pc := 855) C dL_law_855 ?_
        refine j_lald (pc := 856) C (Or.inl (List.mem_of_getElem? (i := 8) rfl)) rfl (by omega) (by decide) dL_law_856 ?_
        refine j_st (st' := [vL (ms_s S), vL (ms_s S)]) rfl rfl (congrArg (fun z => vL z :: [vL (ms_s S)]) (show sd 0 = (ms_s S) from hsd)) ?_
        refine j_lcmp (pc := 857) C (by omega) dL_law_857 ?_
        refine j_if_ne (pc := 858) C 934 rfl (by unfold cmpI; omega) dL_law_858 (fun h_11p858 => ?_) (fun h_11p858 => ?_)
        · skip
          unfold cmpI at h_11p858
          exfalso; omega
        · skip
          unfold cmpI at h_11p858
          refine j_aload_n (pc := 861) C 1 1 rfl rfl dL_law_861 ?_
          refine j_iconst (pc := 862) C dL_law_862 ?_
          refine tc_count (pc := 863) (st := []) C hW_10 (by omega) gL_law_X9_count (by decide) rfl ⟨show kk + 0 + 0 ≤ 600000 by omega, show nn + 0 + 0 ≤ 7302250 by omega⟩ dL_law_863 (fun W_12 hW_13 => ?_)
          refine j_st (st' := [vI (ms_l S)]) rfl rfl (congrArg (fun z => vI z :: []) (show (rCount 5 np 4 0 S) = (ms_l S) from rfl)) ?_
          refine j_aload (pc := 866) C 7 rfl dL_law_866 ?_
          refine j_iconst (pc := 868) C dL_law_868 ?_
          refine j_iald (pc := 869) C (Or.inl (List.mem_of_getElem? (i := 4) rfl)) rfl (by omega) (by decide) dL_law_869 ?_
          refine j_st (st' := [vI (ms_l S), vI (ms_l S)]) rfl rfl (congrArg (fun z => vI z :: [vI (ms_l S)]) (show hw 1 = (ms_l S) from (hLR.2.1.2.1))) ?_
          refine j_icmpSn (pc := 870) C 934 rfl dL_law_870 ?_
          refine j_aload_n (pc := 873) C 1 1 rfl rfl dL_law_873 ?_
          refine j_bipush (pc := 874) (w := 6) C rfl dL_law_874 ?_
          refine tc_count (pc := 876) (st := []) C hW_13 (by omega) gL_law_X9_count (by decide) rfl ⟨show kk + 0 + 0 ≤ 600000 by omega, show nn + 0 + 0 ≤ 7302250 by omega⟩ dL_law_876 (fun W_14 hW_15 => ?_)
          refine j_st (st' := [vI (ms_a S)]) rfl rfl (congrArg (fun z => vI z :: []) (show (rCount 6 np 4 0 S) = (ms_a S) from rfl)) ?_
          refine j_aload (pc := 879) C 7 rfl dL_law_879 ?_
          refine j_iconst (pc := 881) C dL_law_881 ?_
          refine j_iald (pc := 882) C (Or.inl (List.mem_of_getElem? (i := 4) rfl)) rfl (by omega) (by decide) dL_law_882 ?_
          refine j_st (st' := [vI (ms_a S), vI (ms_a S)]) rfl rfl (congrArg (fun z => vI z :: [vI (ms_a S)]) (show hw 2 = (ms_a S) from (hLR.2.1.2.2.1))) ?_
          refine j_icmpSn (pc := 883) C 934 rfl dL_law_883 ?_
          refine j_aload_n (pc := 886) C 1 1 rfl rfl dL_law_886 ?_
          refine j_bipush (pc := 887) (w := 7) C rfl dL_law_887 ?_
          refine tc_count (pc := 889) (st := []) C hW_15 (by omega) gL_law_X9_count (by decide) rfl ⟨show kk + 0 + 0 ≤ 600000 by omega, show nn + 0 + 0 ≤ 7302250 by omega⟩ dL_law_889 (fun W_16 hW_17 => ?_)
          refine j_st (st' := [vI (ms_t S)]) rfl rfl (congrArg (fun z => vI z :: []) (show (rCount 7 np 4 0 S) = (ms_t S) from rfl)) ?_
          refine j_aload (pc := 892) C 7 rfl dL_law_892 ?_
          refine j_iconst (pc := 894) C dL_law_894 ?_
          refine j_iald (pc := 895) C (Or.inl (List.mem_of_getElem? (i := 4) rfl)) rfl (by omega) (by decide) dL_law_895 ?_
          refine j_st (st' := [vI (ms_t S), vI (ms_t S)]) rfl rfl (congrArg (fun z => vI z :: [vI (ms_t S)]) (show hw 3 = (ms_t S) from (hLR.2.1.2.2.2.1))) ?_
          refine j_icmpSn (pc := 896) C 934 rfl dL_law_896 ?_
          refine j_aload_n (pc := 899) C 1 1 rfl rfl dL_law_899 ?_
          refine j_bipush (pc := 900) (w := 8) C rfl dL_law_900 ?_
          refine tc_count (pc := 902) (st := []) C hW_17 (by omega) gL_law_X9_count (by decide) rfl ⟨show kk + 0 + 0 ≤ 600000 by omega, show nn + 0 + 0 ≤ 7302250 by omega⟩ dL_law_902 (fun W_18 hW_19 => ?_)
          refine j_st (st' := [vI (ms_p S)]) rfl rfl (congrArg (fun z => vI z :: []) (show (rCount 8 np 4 0 S) = (ms_p S) from rfl)) ?_
          refine j_aload (pc := 905) C 7 rfl dL_law_905 ?_
          refine j_iconst (pc := 907) C dL_law_907 ?_
          refine j_iald (pc := 908) C (Or.inl (List.mem_of_getElem? (i := 4) rfl)) rfl (by omega) (by decide) dL_law_908 ?_
          refine j_st (st' := [vI (ms_p S), vI (ms_p S)]) rfl rfl (congrArg (fun z => vI z :: [vI (ms_p S)]) (show hw 5 = (ms_p S) from (hLR.2.1.2.2.2.2))) ?_
          refine j_icmpSn (pc := 909) C 934 rfl dL_law_909 ?_
          refine j_aload (pc := 912) C 7 rfl dL_law_912 ?_
          refine j_iconst (pc := 914) C dL_law_914 ?_
          refine j_iald (pc := 915) C (Or.inl (List.mem_of_getElem? (i := 4) rfl)) rfl (by omega) (by decide) dL_law_915 ?_
          refine j_st (st' := [vI (ms_a S)]) rfl rfl (congrArg (fun z => vI z :: []) (show hw 2 = (ms_a S) from (hLR.2.1.2.2.1))) ?_
          refine j_aload (pc := 916) C 7 rfl dL_law_916 ?_
          refine j_iconst (pc := 918) C dL_law_918 ?_
          refine j_iald (pc := 919) C (Or.inl (List.mem_of_getElem? (i := 4) rfl)) rfl (by omega) (by decide) dL_law_919 ?_
          refine j_st (st' := [vI (ms_t S), vI (ms_a S)]) rfl rfl (congrArg (fun z => vI z :: [vI (ms_a S)]) (show hw 3 = (ms_t S) from (hLR.2.1.2.2.2.1))) ?_
          refine j_isub (pc := 920) C dL_law_920 ?_
          refine j_aload (pc := 921) C 7 rfl dL_law_921 ?_
          refine j_iconst (pc := 923) C dL_law_923 ?_
          refine j_iald (pc := 924) C (Or.inl (List.mem_of_getElem? (i := 4) rfl)) rfl (by omega) (by decide) dL_law_924 ?_
          refine j_st (st' := [vI (ms_p S), vI ((ms_a S) - (ms_t S))]) rfl rfl (congrArg (fun z => vI z :: [vI ((ms_a S) - (ms_t S))]) (show hw 5 = (ms_p S) from (hLR.2.1.2.2.2.2))) ?_
          refine j_isub (pc := 925) C dL_law_925 ?_
          refine j_st (st' := [vI (sumI (ms_h S) 7)]) rfl rfl (congrArg (fun z => vI z :: []) (show (((ms_a S) - (ms_t S)) - (ms_p S)) = (sumI (ms_h S) 7) from by unfold defS at hdef; omega)) ?_
          refine j_aload (pc := 926) C 5 rfl dL_law_926 ?_
          refine j_lawSi (pc := 928) (M0 := [(a3, aI (Y 0) 30 who), (a4, aI (Y 0) 3 cu), (a5, aI (Y 0) 7 (ms_h S)), (a6, aI (Y 0) 63 mk), (a7, aI (Y 0) 7 hw), (a8, aI (Y 0) 7 th), (a9, aI (Y 0) 63 tm), (a10, aI (Y 0) 7 tw), (a11, aL (Y 1) 1 sd), (a12, aL (Y 1) 1 ts), (a13, aI (Y 0) 12 al)]) (PL := W_18) (wc := []) (As := [.ref a5]) (na := 1) (st := [vI (sumI (ms_h S) 7)]) C [] [0, 1, 2, 3, 4, 5, 6, 7, 8, 9, 10] (wr := [(a3, aI (Y 0) 30 who), (a4, aI (Y 0) 3 cu), (a5, aI (Y 0) 7 (ms_h S)), (a6, aI (Y 0) 63 mk), (a7, aI (Y 0) 7 hw), (a8, aI (Y 0) 7 th), (a9, aI (Y 0) 63 tm), (a10, aI (Y 0) 7 tw), (a11, aL (Y 1) 1 sd), (a12, aL (Y 1) 1 ts), (a13, aI (Y 0) 12 al)]) (fun l => l_all l D Y _ a5 (ms_h S) (List.mem_append_left _ (List.mem_append_left _ (List.mem_of_getElem? (i := 2) rfl))) ) rfl rfl rfl rfl (by decide) rfl gL_law_L_all (by decide +kernel) (by decide) rfl rfl (Nat.le_of_ble_eq_true rfl) ⟨show kk + 0 + 0 ≤ 600000 by omega, show nn + 0 + 0 ≤ 7302250 by omega⟩ dL_law_928 (fun e_20 w_21 h_22 => ?_)
          obtain ⟨rfl, rfl⟩ := h_22
          refine j_permT (L' := [(a3, aI (Y 0) 30 who), (a4, aI (Y 0) 3 cu), (a5, aI (Y 0) 7 (ms_h S)), (a6, aI (Y 0) 63 mk), (a7, aI (Y 0) 7 hw), (a8, aI (Y 0) 7 th), (a9, aI (Y 0) 63 tm), (a10, aI (Y 0) 7 tw), (a11, aL (Y 1) 1 sd), (a12, aL (Y 1) 1 ts), (a13, aI (Y 0) 12 al)]) [0, 1, 2, 3, 4, 5, 6, 7, 8, 9, 10] rfl rfl ?_
          refine j_icmpSe (pc := 931) C 936 rfl dL_law_931 ?_
          refine j_locals (lc' := [(0, .ref b), (1, .ref (k 0)), (2, vI np), (3, .ref a3), (4, .ref a4), (5, .ref a5), (6, .ref a6), (7, .ref a7), (8, .ref a8), (9, .ref a9), (10, .ref a10), (11, .ref a11), (12, .ref a12), (13, .ref a13), (14, vI t)]) [0, 1, 2, 3, 4, 5, 6, 7, 8, 9, 10, 11, 12, 13, 14] rfl ?_
          exact hcont _ hW_19
      · skip
        refine j_aload_n (pc := 643) C 1 1 rfl rfl dL_law_643 ?_
        have hh := hS.1 c ⟨by omega, by omega⟩
        refine j_iload (pc := 644) C 15 rfl dL_law_644 ?_
        refine tc_height (pc := 646) (st := []) C i636_1 (by omega) gL_law_X9_height (by decide) rfl ⟨show kk + 0 + 0 ≤ 600000 by omega, show nn + 0 + 0 ≤ 7302250 by omega⟩ dL_law_646 (fun W_23 hW_24 => ?_)
        refine j_st (st' := [vI (ms_h S c)]) rfl rfl (congrArg (fun z => vI z :: []) (show (rHeight c S) = ms_h S c from by unfold rHeight; rw [if_neg (by omega)])) ?_
        refine j_aload (pc := 649) C 5 rfl dL_law_649 ?_
        refine j_iload (pc := 651) C 15 rfl dL_law_651 ?_
        refine j_iald (pc := 653) C (Or.inl (List.mem_of_getElem? (i := 2) rfl)) rfl (by omega) (by decide) dL_law_653 ?_
        refine j_icmpSn (pc := 654) C 682 rfl dL_law_654 ?_
        refine j_aload (pc := 657) C 5 rfl dL_law_657 ?_
        refine j_iload (pc := 659) C 15 rfl dL_law_659 ?_
        refine j_iald (pc := 661) C (Or.inl (List.mem_of_getElem? (i := 2) rfl)) rfl (by omega) (by decide) dL_law_661 ?_
        refine j_bipush (pc := 662) (w := 60) C rfl dL_law_662 ?_
        refine j_icmp_ge (pc := 664) C 684 rfl (by omega) dL_law_664 (fun h_25p664 => ?_) (fun h_25p664 => ?_)
        · skip
          refine j_iconst (pc := 684) C dL_law_684 ?_
          refine j_istore (pc := 685) (lc' := [(21, vI 0), (0, .ref b), (1, .ref (k 0)), (2, vI np), (3, .ref a3), (4, .ref a4), (5, .ref a5), (6, .ref a6), (7, .ref a7), (8, .ref a8), (9, .ref a9), (10, .ref a10), (11, .ref a11), (12, .ref a12), (13, .ref a13), (14, vI t), (20, vI c)]) C (by decide) rfl dL_law_685 ?_
          refine j_iconst (pc := 687) C dL_law_687 ?_
          refine j_istore (pc := 688) (lc' := [(22, vI 0), (21, vI 0), (0, .ref b), (1, .ref (k 0)), (2, vI np), (3, .ref a3), (4, .ref a4), (5, .ref a5), (6, .ref a6), (7, .ref a7), (8, .ref a8), (9, .ref a9), (10, .ref a10), (11, .ref a11), (12, .ref a12), (13, .ref a13), (14, vI t), (20, vI c)]) C (by decide) rfl dL_law_688 ?_
          have hL690 : ∀ (N690 : Nat) (dd : Int) (i : Int) (W3 : va_W), ((ms_h S c - i).toNat) < N690 → (0 ≤ i ∧ i ≤ ms_h S c ∧ i ≤ 9) → (dd = cntI (fun j => mk (9 * c + j)) (ms_w S) i) → (0 ≤ dd ∧ dd ≤ i) → (KWs Y k np 4 0 S pg cs ps W3) → jW X 23 (kk + 0) (nn + 0) ([(a3, aI (Y 0) 30 who), (a4, aI (Y 0) 3 cu), (a5, aI (Y 0) 7 (ms_h S)), (a6, aI (Y 0) 63 mk), (a7, aI (Y 0) 7 hw), (a8, aI (Y 0) 7 th), (a9, aI (Y 0) 63 tm), (a10, aI (Y 0) 7 tw), (a11, aL (Y 1) 1 sd), (a12, aL (Y 1) 1 ts), (a13, aI (Y 0) 12 al)] ++ W3) [(0, .ref b), (1, .ref (k 0)), (2, vI np), (3, .ref a3), (4, .ref a4), (5, .ref a5), (6, .ref a6), (7, .ref a7), (8, .ref a8), (9, .ref a9), (10, .ref a10), (11, .ref a11), (12, .ref a12), (13, .ref a13), (14, vI t), (20, vI c), (21, vI dd), (22, vI i)] 690 [] := by
            intro N690
            induction N690 with
            | zero => intro dd i W3 hm690 i690_0 i690_1 i690_2 i690_3; omega
            | succ N690 ih690 =>
              intro dd i W3 hm690 i690_0 i690_1 i690_2 i690_3
              refine j_iload (pc := 690) C 17 rfl dL_law_690 ?_
              refine j_aload (pc := 692) C 5 rfl dL_law_692 ?_
              refine j_iload (pc := 694) C 15 rfl dL_law_694 ?_
              refine j_iald (pc := 696) C (Or.inl (List.mem_of_getElem? (i := 2) rfl)) rfl (by omega) (by decide) dL_law_696 ?_
              refine j_icmp_ge (pc := 697) C 791 rfl (by omega) dL_law_697 (fun h_26p697 => ?_) (fun h_26p697 => ?_)
              · skip
                refine j_aload (pc := 791) C 7 rfl dL_law_791 ?_
                refine j_bipush (pc := 793) (w := 6) C rfl dL_law_793 ?_
                refine j_iald (pc := 795) C (Or.inl (List.mem_of_getElem? (i := 4) rfl)) rfl (by omega) (by decide) dL_law_795 ?_
                have hf7 := hLR.2.2.1
                refine j_if_ne (pc := 796) C 816 rfl (by omega) dL_law_796 (fun h_27p796 => ?_) (fun h_27p796 => ?_)
                · skip
                  refine j_iinc (pc := 816) (lc' := [(20, vI (c + 1)), (0, .ref b), (1, .ref (k 0)), (2, vI np), (3, .ref a3), (4, .ref a4), (5, .ref a5), (6, .ref a6), (7, .ref a7), (8, .ref a8), (9, .ref a9), (10, .ref a10), (11, .ref a11), (12, .ref a12), (13, .ref a13), (14, vI t), (21, vI dd), (22, vI i)]) C 15 rfl (by decide) rfl dL_law_816 ?_
                  refine j_goto (pc := 819) C 636 rfl dL_law_819 ?_
                  refine j_locals (lc' := [(0, .ref b), (1, .ref (k 0)), (2, vI np), (3, .ref a3), (4, .ref a4), (5, .ref a5), (6, .ref a6), (7, .ref a7), (8, .ref a8), (9, .ref a9), (10, .ref a10), (11, .ref a11), (12, .ref a12), (13, .ref a13), (14, vI t), (20, vI (c + 1))]) [1, 2, 3, 4, 5, 6, 7, 8, 9, 10, 11, 12, 13, 14, 15, 0] rfl ?_
                  exact ih636 (c + 1) W3 (by omega) (by omega) i690_3
                · skip
                  refine j_aload_n (pc := 799) C 1 1 rfl rfl dL_law_799 ?_
                  refine j_iload (pc := 800) C 15 rfl dL_law_800 ?_
                  refine j_aload (pc := 802) C 7 rfl dL_law_802 ?_
                  refine j_iconst (pc := 804) C dL_law_804 ?_
                  refine j_iald (pc := 805) C (Or.inl (List.mem_of_getElem? (i := 4) rfl)) rfl (by omega) (by decide) dL_law_805 ?_
                  refine j_st (st' := [vI (ms_w S), vI c, .ref (k 0)]) rfl rfl (congrArg (fun z => vI z :: [vI c, .ref (k 0)]) (show hw 0 = (ms_w S) from (hLR.2.1.1))) ?_
                  refine tc_dated (pc := 806) (st := []) C i690_3 (by omega) (by omega) gL_law_X9_dated (by decide) rfl ⟨show kk + 0 + 0 ≤ 600000 by omega, show nn + 0 + 0 ≤ 7302250 by omega⟩ dL_law_806 (fun W_28 hW_29 => ?_)
                  refine j_st (st' := [vI dd]) rfl rfl (congrArg (fun z => vI z :: []) (show (rDated c (ms_w S) S) = dd from by have hz := hLR.2.2.2 (by omega) c (by omega) (by omega); unfold rDated; rw [if_neg (by omega), if_neg (by omega), cnt_mark hS ⟨by omega, by omega⟩, i690_1, show i = ms_h S c by omega]; exact cnt_congr (by omega) (fun j j0 j1 => (hz.2 j j0 j1).symm))) ?_
                  refine j_iload (pc := 809) C 16 rfl dL_law_809 ?_
                  refine j_icmpSe (pc := 811) C 816 rfl dL_law_811 ?_
                  refine j_iinc (pc := 816) (lc' := [(20, vI (c + 1)), (0, .ref b), (1, .ref (k 0)), (2, vI np), (3, .ref a3), (4, .ref a4), (5, .ref a5), (6, .ref a6), (7, .ref a7), (8, .ref a8), (9, .ref a9), (10, .ref a10), (11, .ref a11), (12, .ref a12), (13, .ref a13), (14, vI t), (21, vI dd), (22, vI i)]) C 15 rfl (by decide) rfl dL_law_816 ?_
                  refine j_goto (pc := 819) C 636 rfl dL_law_819 ?_
                  refine j_locals (lc' := [(0, .ref b), (1, .ref (k 0)), (2, vI np), (3, .ref a3), (4, .ref a4), (5, .ref a5), (6, .ref a6), (7, .ref a7), (8, .ref a8), (9, .ref a9), (10, .ref a10), (11, .ref a11), (12, .ref a12), (13, .ref a13), (14, vI t), (20, vI (c + 1))]) [1, 2, 3, 4, 5, 6, 7, 8, 9, 10, 11, 12, 13, 14, 15, 0] rfl ?_
                  exact ih636 (c + 1) W_28 (by omega) (by omega) hW_29
              · skip
                refine j_iload (pc := 700) C 17 rfl dL_law_700 ?_
                refine j_bipush (pc := 702) (w := 9) C rfl dL_law_702 ?_
                refine j_icmp_ge (pc := 704) C 791 rfl (by omega) dL_law_704 (fun h_30p704 => ?_) (fun h_30p704 => ?_)
                · skip
                  refine j_aload (pc := 791) C 7 rfl dL_law_791 ?_
                  refine j_bipush (pc := 793) (w := 6) C rfl dL_law_793 ?_
                  refine j_iald (pc := 795) C (Or.inl (List.mem_of_getElem? (i := 4) rfl)) rfl (by omega) (by decide) dL_law_795 ?_
                  have hf7 := hLR.2.2.1
                  refine j_if_ne (pc := 796) C 816 rfl (by omega) dL_law_796 (fun h_31p796 => ?_) (fun h_31p796 => ?_)
                  · skip
                    refine j_iinc (pc := 816) (lc' := [(20, vI (c + 1)), (0, .ref b), (1, .ref (k 0)), (2, vI np), (3, .ref a3), (4, .ref a4), (5, .ref a5), (6, .ref a6), (7, .ref a7), (8, .ref a8), (9, .ref a9), (10, .ref a10), (11, .ref a11), (12, .ref a12), (13, .ref a13), (14, vI t), (21, vI dd), (22, vI i)]) C 15 rfl (by decide) rfl dL_law_816 ?_
                    refine j_goto (pc := 819) C 636 rfl dL_law_819 ?_
                    refine j_locals (lc' := [(0, .ref b), (1, .ref (k 0)), (2, vI np), (3, .ref a3), (4, .ref a4), (5, .ref a5), (6, .ref a6), (7, .ref a7), (8, .ref a8), (9, .ref a9), (10, .ref a10), (11, .ref a11), (12, .ref a12), (13, .ref a13), (14, vI t), (20, vI (c + 1))]) [1, 2, 3, 4, 5, 6, 7, 8, 9, 10, 11, 12, 13, 14, 15, 0] rfl ?_
                    exact ih636 (c + 1) W3 (by omega) (by omega) i690_3
                  · skip
                    refine j_aload_n (pc := 799) C 1 1 rfl rfl dL_law_799 ?_
                    refine j_iload (pc := 800) C 15 rfl dL_law_800 ?_
                    refine j_aload (pc := 802) C 7 rfl dL_law_802 ?_
                    refine j_iconst (pc := 804) C dL_law_804 ?_
                    refine j_iald (pc := 805) C (Or.inl (List.mem_of_getElem? (i := 4) rfl)) rfl (by omega) (by decide) dL_law_805 ?_
                    refine j_st (st' := [vI (ms_w S), vI c, .ref (k 0)]) rfl rfl (congrArg (fun z => vI z :: [vI c, .ref (k 0)]) (show hw 0 = (ms_w S) from (hLR.2.1.1))) ?_
                    refine tc_dated (pc := 806) (st := []) C i690_3 (by omega) (by omega) gL_law_X9_dated (by decide) rfl ⟨show kk + 0 + 0 ≤ 600000 by omega, show nn + 0 + 0 ≤ 7302250 by omega⟩ dL_law_806 (fun W_32 hW_33 => ?_)
                    refine j_st (st' := [vI dd]) rfl rfl (congrArg (fun z => vI z :: []) (show (rDated c (ms_w S) S) = dd from by have hz := hLR.2.2.2 (by omega) c (by omega) (by omega); unfold rDated; rw [if_neg (by omega), if_neg (by omega), cnt_mark hS ⟨by omega, by omega⟩, i690_1, show i = ms_h S c by omega]; exact cnt_congr (by omega) (fun j j0 j1 => (hz.2 j j0 j1).symm))) ?_
                    refine j_iload (pc := 809) C 16 rfl dL_law_809 ?_
                    refine j_icmpSe (pc := 811) C 816 rfl dL_law_811 ?_
                    refine j_iinc (pc := 816) (lc' := [(20, vI (c + 1)), (0, .ref b), (1, .ref (k 0)), (2, vI np), (3, .ref a3), (4, .ref a4), (5, .ref a5), (6, .ref a6), (7, .ref a7), (8, .ref a8), (9, .ref a9), (10, .ref a10), (11, .ref a11), (12, .ref a12), (13, .ref a13), (14, vI t), (21, vI dd), (22, vI i)]) C 15 rfl (by decide) rfl dL_law_816 ?_
                    refine j_goto (pc := 819) C 636 rfl dL_law_819 ?_
                    refine j_locals (lc' := [(0, .ref b), (1, .ref (k 0)), (2, vI np), (3, .ref a3), (4, .ref a4), (5, .ref a5), (6, .ref a6), (7, .ref a7), (8, .ref a8), (9, .ref a9), (10, .ref a10), (11, .ref a11), (12, .ref a12), (13, .ref a13), (14, vI t), (20, vI (c + 1))]) [1, 2, 3, 4, 5, 6, 7, 8, 9, 10, 11, 12, 13, 14, 15, 0] rfl ?_
                    exact ih636 (c + 1) W_32 (by omega) (by omega) hW_33
                · skip
                  refine j_iload (pc := 707) C 16 rfl dL_law_707 ?_
                  refine j_aload (pc := 709) C 6 rfl dL_law_709 ?_
                  refine j_bipush (pc := 711) (w := 9) C rfl dL_law_711 ?_
                  refine j_iload (pc := 713) C 15 rfl dL_law_713 ?_
                  refine j_imul (pc := 715) C dL_law_715 ?_
                  refine j_iload (pc := 716) C 17 rfl dL_law_716 ?_
                  refine j_iadd (pc := 718) C dL_law_718 ?_
                  refine j_iald (pc := 719) C (Or.inl (List.mem_of_getElem? (i := 3) rfl)) rfl (by omega) (by decide) dL_law_719 ?_
                  have hm := hLR.1 (9 * c + i)
                  refine j_aload (pc := 720) C 7 rfl dL_law_720 ?_
                  refine j_iconst (pc := 722) C dL_law_722 ?_
                  refine j_iald (pc := 723) C (Or.inl (List.mem_of_getElem? (i := 4) rfl)) rfl (by omega) (by decide) dL_law_723 ?_
                  refine j_st (st' := [vI (ms_w S), vI (mk ((9 * c) + i)), vI dd]) rfl rfl (congrArg (fun z => vI z :: [vI (mk ((9 * c) + i)), vI dd]) (show hw 0 = (ms_w S) from (hLR.2.1.1))) ?_
                  refine j_icmp_ne (pc := 724) C 731 rfl (by omega) dL_law_724 (fun h_34p724 => ?_) (fun h_34p724 => ?_)
                  · skip
                    refine j_iconst (pc := 731) C dL_law_731 ?_
                    refine j_iadd (pc := 732) C dL_law_732 ?_
                    refine j_istore (pc := 733) (lc' := [(21, vI (dd + 0)), (0, .ref b), (1, .ref (k 0)), (2, vI np), (3, .ref a3), (4, .ref a4), (5, .ref a5), (6, .ref a6), (7, .ref a7), (8, .ref a8), (9, .ref a9), (10, .ref a10), (11, .ref a11), (12, .ref a12), (13, .ref a13), (14, vI t), (20, vI c), (22, vI i)]) C (by decide) rfl dL_law_733 ?_
                    refine j_aload (pc := 735) C 6 rfl dL_law_735 ?_
                    refine j_iload (pc := 737) C 16 rfl dL_law_737 ?_
                    refine j_iald (pc := 739) C (Or.inl (List.mem_of_getElem? (i := 2) rfl)) rfl (by omega) (by decide) dL_law_739 ?_
                    refine j_bipush (pc := 740) (w := 10) C rfl dL_law_740 ?_
                    refine j_icmp_ge (pc := 742) C 785 rfl (by omega) dL_law_742 (fun h_35p742 => ?_) (fun h_35p742 => ?_)
                    · skip
                      refine j_iinc (pc := 785) (lc' := [(22, vI (i + 1)), (21, vI (dd + 0)), (0, .ref b), (1, .ref (k 0)), (2, vI np), (3, .ref a3), (4, .ref a4), (5, .ref a5), (6, .ref a6), (7, .ref a7), (8, .ref a8), (9, .ref a9), (10, .ref a10), (11, .ref a11), (12, .ref a12), (13, .ref a13), (14, vI t), (20, vI c)]) C 17 rfl (by decide) rfl dL_law_785 ?_
                      refine j_goto (pc := 788) C 690 rfl dL_law_788 ?_
                      refine j_locals (lc' := [(0, .ref b), (1, .ref (k 0)), (2, vI np), (3, .ref a3), (4, .ref a4), (5, .ref a5), (6, .ref a6), (7, .ref a7), (8, .ref a8), (9, .ref a9), (10, .ref a10), (11, .ref a11), (12, .ref a12), (13, .ref a13), (14, vI t), (20, vI c), (21, vI (dd + 0)), (22, vI (i + 1))]) [2, 3, 4, 5, 6, 7, 8, 9, 10, 11, 12, 13, 14, 15, 16, 17, 1, 0] rfl ?_
                      exact ih690 (dd + 0) (i + 1) W3 (by omega) (by omega) (by rw [cnt_succ _ _ (by omega), ← i690_1]; first | (rw [if_pos (by (try dsimp only); omega)]; done) | (rw [if_neg (by (try dsimp only); omega)]; omega)) (by omega) i690_3
                    · skip
                      refine j_aload (pc := 745) C 8 rfl dL_law_745 ?_
                      refine j_bipush (pc := 747) (w := 6) C rfl dL_law_747 ?_
                      refine j_iald (pc := 749) C (Or.inl (List.mem_of_getElem? (i := 4) rfl)) rfl (by omega) (by decide) dL_law_749 ?_
                      have hf6 := hLR.2.2.1
                      refine j_if_ne (pc := 750) C 785 rfl (by omega) dL_law_750 (fun h_36p750 => ?_) (fun h_36p750 => ?_)
                      · skip
                        refine j_iinc (pc := 785) (lc' := [(22, vI (i + 1)), (21, vI (dd + 0)), (0, .ref b), (1, .ref (k 0)), (2, vI np), (3, .ref a3), (4, .ref a4), (5, .ref a5), (6, .ref a6), (7, .ref a7), (8, .ref a8), (9, .ref a9), (10, .ref a10), (11, .ref a11), (12, .ref a12), (13, .ref a13), (14, vI t), (20, vI c)]) C 17 rfl (by decide) rfl dL_law_785 ?_
                        refine j_goto (pc := 788) C 690 rfl dL_law_788 ?_
                        refine j_locals (lc' := [(0, .ref b), (1, .ref (k 0)), (2, vI np), (3, .ref a3), (4, .ref a4), (5, .ref a5), (6, .ref a6), (7, .ref a7), (8, .ref a8), (9, .ref a9), (10, .ref a10), (11, .ref a11), (12, .ref a12), (13, .ref a13), (14, vI t), (20, vI c), (21, vI (dd + 0)), (22, vI (i + 1))]) [2, 3, 4, 5, 6, 7, 8, 9, 10, 11, 12, 13, 14, 15, 16, 17, 1, 0] rfl ?_
                        exact ih690 (dd + 0) (i + 1) W3 (by omega) (by omega) (by rw [cnt_succ _ _ (by omega), ← i690_1]; first | (rw [if_pos (by (try dsimp only); omega)]; done) | (rw [if_neg (by (try dsimp only); omega)]; omega)) (by omega) i690_3
                      · skip
                        refine j_aload_n (pc := 753) C 1 2 rfl rfl dL_law_753 ?_
                        refine j_iload (pc := 754) C 16 rfl dL_law_754 ?_
                        refine j_aload (pc := 756) C 6 rfl dL_law_756 ?_
                        refine j_iload (pc := 758) C 16 rfl dL_law_758 ?_
                        refine j_iald (pc := 760) C (Or.inl (List.mem_of_getElem? (i := 2) rfl)) rfl (by omega) (by decide) dL_law_760 ?_
                        refine j_iconst (pc := 761) C dL_law_761 ?_
                        refine j_isub (pc := 762) C dL_law_762 ?_
                        refine j_iload (pc := 763) C 17 rfl dL_law_763 ?_
                        refine j_isub (pc := 765) C dL_law_765 ?_
                        refine tc_mark (pc := 766) (st := []) C i690_3 (by omega) (by omega) gL_law_X9_mark (by decide) rfl ⟨show kk + 0 + 0 ≤ 600000 by omega, show nn + 0 + 0 ≤ 7302250 by omega⟩ dL_law_766 (fun W_37 hW_38 => ?_)
                        refine j_st (st' := [vI (mk ((9 * c) + i))]) rfl rfl (congrArg (fun z => vI z :: []) (show (rMark c ((ms_h S c - 1) - i) S) = mk ((9 * c) + i) from by unfold rMark; rw [if_neg (by omega), if_neg (by omega)]; unfold markS; rw [if_pos (by omega), (hLR.2.2.2 (by omega) c (by omega) (by omega)).2 i (by omega) (by omega)]; congr 1; omega)) ?_
                        refine j_aload (pc := 769) C 7 rfl dL_law_769 ?_
                        refine j_bipush (pc := 771) (w := 9) C rfl dL_law_771 ?_
                        refine j_iload (pc := 773) C 16 rfl dL_law_773 ?_
                        refine j_imul (pc := 775) C dL_law_775 ?_
                        refine j_iload (pc := 776) C 17 rfl dL_law_776 ?_
                        refine j_iadd (pc := 778) C dL_law_778 ?_
                        refine j_iald (pc := 779) C (Or.inl (List.mem_of_getElem? (i := 3) rfl)) rfl (by omega) (by decide) dL_law_779 ?_
                        refine j_icmpSe (pc := 780) C 785 rfl dL_law_780 ?_
                        refine j_iinc (pc := 785) (lc' := [(22, vI (i + 1)), (21, vI (dd + 0)), (0, .ref b), (1, .ref (k 0)), (2, vI np), (3, .ref a3), (4, .ref a4), (5, .ref a5), (6, .ref a6), (7, .ref a7), (8, .ref a8), (9, .ref a9), (10, .ref a10), (11, .ref a11), (12, .ref a12), (13, .ref a13), (14, vI t), (20, vI c)]) C 17 rfl (by decide) rfl dL_law_785 ?_
                        refine j_goto (pc := 788) C 690 rfl dL_law_788 ?_
                        refine j_locals (lc' := [(0, .ref b), (1, .ref (k 0)), (2, vI np), (3, .ref a3), (4, .ref a4), (5, .ref a5), (6, .ref a6), (7, .ref a7), (8, .ref a8), (9, .ref a9), (10, .ref a10), (11, .ref a11), (12, .ref a12), (13, .ref a13), (14, vI t), (20, vI c), (21, vI (dd + 0)), (22, vI (i + 1))]) [2, 3, 4, 5, 6, 7, 8, 9, 10, 11, 12, 13, 14, 15, 16, 17, 1, 0] rfl ?_
                        exact ih690 (dd + 0) (i + 1) W_37 (by omega) (by omega) (by rw [cnt_succ _ _ (by omega), ← i690_1]; first | (rw [if_pos (by (try dsimp only); omega)]; done) | (rw [if_neg (by (try dsimp only); omega)]; omega)) (by omega) hW_38
                  · skip
                    refine j_iconst (pc := 727) C dL_law_727 ?_
                    refine j_goto (pc := 728) C 732 rfl dL_law_728 ?_
                    refine j_iadd (pc := 732) C dL_law_732 ?_
                    refine j_istore (pc := 733) (lc' := [(21, vI (dd + 1)), (0, .ref b), (1, .ref (k 0)), (2, vI np), (3, .ref a3), (4, .ref a4), (5, .ref a5), (6, .ref a6), (7, .ref a7), (8, .ref a8), (9, .ref a9), (10, .ref a10), (11, .ref a11), (12, .ref a12), (13, .ref a13), (14, vI t), (20, vI c), (22, vI i)]) C (by decide) rfl dL_law_733 ?_
                    refine j_aload (pc := 735) C 6 rfl dL_law_735 ?_
                    refine j_iload (pc := 737) C 16 rfl dL_law_737 ?_
                    refine j_iald (pc := 739) C (Or.inl (List.mem_of_getElem? (i := 2) rfl)) rfl (by omega) (by decide) dL_law_739 ?_
                    refine j_bipush (pc := 740) (w := 10) C rfl dL_law_740 ?_
                    refine j_icmp_ge (pc := 742) C 785 rfl (by omega) dL_law_742 (fun h_39p742 => ?_) (fun h_39p742 => ?_)
                    · skip
                      refine j_iinc (pc := 785) (lc' := [(22, vI (i + 1)), (21, vI (dd + 1)), (0, .ref b), (1, .ref (k 0)), (2, vI np), (3, .ref a3), (4, .ref a4), (5, .ref a5), (6, .ref a6), (7, .ref a7), (8, .ref a8), (9, .ref a9), (10, .ref a10), (11, .ref a11), (12, .ref a12), (13, .ref a13), (14, vI t), (20, vI c)]) C 17 rfl (by decide) rfl dL_law_785 ?_
                      refine j_goto (pc := 788) C 690 rfl dL_law_788 ?_
                      refine j_locals (lc' := [(0, .ref b), (1, .ref (k 0)), (2, vI np), (3, .ref a3), (4, .ref a4), (5, .ref a5), (6, .ref a6), (7, .ref a7), (8, .ref a8), (9, .ref a9), (10, .ref a10), (11, .ref a11), (12, .ref a12), (13, .ref a13), (14, vI t), (20, vI c), (21, vI (dd + 1)), (22, vI (i + 1))]) [2, 3, 4, 5, 6, 7, 8, 9, 10, 11, 12, 13, 14, 15, 16, 17, 1, 0] rfl ?_
                      exact ih690 (dd + 1) (i + 1) W3 (by omega) (by omega) (by rw [cnt_succ _ _ (by omega), ← i690_1]; first | (rw [if_pos (by (try dsimp only); omega)]; done) | (rw [if_neg (by (try dsimp only); omega)]; omega)) (by omega) i690_3
                    · skip
                      refine j_aload (pc := 745) C 8 rfl dL_law_745 ?_
                      refine j_bipush (pc := 747) (w := 6) C rfl dL_law_747 ?_
                      refine j_iald (pc := 749) C (Or.inl (List.mem_of_getElem? (i := 4) rfl)) rfl (by omega) (by decide) dL_law_749 ?_
                      have hf6 := hLR.2.2.1
                      refine j_if_ne (pc := 750) C 785 rfl (by omega) dL_law_750 (fun h_40p750 => ?_) (fun h_40p750 => ?_)
                      · skip
                        refine j_iinc (pc := 785) (lc' := [(22, vI (i + 1)), (21, vI (dd + 1)), (0, .ref b), (1, .ref (k 0)), (2, vI np), (3, .ref a3), (4, .ref a4), (5, .ref a5), (6, .ref a6), (7, .ref a7), (8, .ref a8), (9, .ref a9), (10, .ref a10), (11, .ref a11), (12, .ref a12), (13, .ref a13), (14, vI t), (20, vI c)]) C 17 rfl (by decide) rfl dL_law_785 ?_
                        refine j_goto (pc := 788) C 690 rfl dL_law_788 ?_
                        refine j_locals (lc' := [(0, .ref b), (1, .ref (k 0)), (2, vI np), (3, .ref a3), (4, .ref a4), (5, .ref a5), (6, .ref a6), (7, .ref a7), (8, .ref a8), (9, .ref a9), (10, .ref a10), (11, .ref a11), (12, .ref a12), (13, .ref a13), (14, vI t), (20, vI c), (21, vI (dd + 1)), (22, vI (i + 1))]) [2, 3, 4, 5, 6, 7, 8, 9, 10, 11, 12, 13, 14, 15, 16, 17, 1, 0] rfl ?_
                        exact ih690 (dd + 1) (i + 1) W3 (by omega) (by omega) (by rw [cnt_succ _ _ (by omega), ← i690_1]; first | (rw [if_pos (by (try dsimp only); omega)]; done) | (rw [if_neg (by (try dsimp only); omega)]; omega)) (by omega) i690_3
                      · skip
                        refine j_aload_n (pc := 753) C 1 2 rfl rfl dL_law_753 ?_
                        refine j_iload (pc := 754) C 16 rfl dL_law_754 ?_
                        refine j_aload (pc := 756) C 6 rfl dL_law_756 ?_
                        refine j_iload (pc := 758) C 16 rfl dL_law_758 ?_
                        refine j_iald (pc := 760) C (Or.inl (List.mem_of_getElem? (i := 2) rfl)) rfl (by omega) (by decide) dL_law_760 ?_
                        refine j_iconst (pc := 761) C dL_law_761 ?_
                        refine j_isub (pc := 762) C dL_law_762 ?_
                        refine j_iload (pc := 763) C 17 rfl dL_law_763 ?_
                        refine j_isub (pc := 765) C dL_law_765 ?_
                        refine tc_mark (pc := 766) (st := []) C i690_3 (by omega) (by omega) gL_law_X9_mark (by decide) rfl ⟨show kk + 0 + 0 ≤ 600000 by omega, show nn + 0 + 0 ≤ 7302250 by omega⟩ dL_law_766 (fun W_41 hW_42 => ?_)
                        refine j_st (st' := [vI (mk ((9 * c) + i))]) rfl rfl (congrArg (fun z => vI z :: []) (show (rMark c ((ms_h S c - 1) - i) S) = mk ((9 * c) + i) from by unfold rMark; rw [if_neg (by omega), if_neg (by omega)]; unfold markS; rw [if_pos (by omega), (hLR.2.2.2 (by omega) c (by omega) (by omega)).2 i (by omega) (by omega)]; congr 1; omega)) ?_
                        refine j_aload (pc := 769) C 7 rfl dL_law_769 ?_
                        refine j_bipush (pc := 771) (w := 9) C rfl dL_law_771 ?_
                        refine j_iload (pc := 773) C 16 rfl dL_law_773 ?_
                        refine j_imul (pc := 775) C dL_law_775 ?_
                        refine j_iload (pc := 776) C 17 rfl dL_law_776 ?_
                        refine j_iadd (pc := 778) C dL_law_778 ?_
                        refine j_iald (pc := 779) C (Or.inl (List.mem_of_getElem? (i := 3) rfl)) rfl (by omega) (by decide) dL_law_779 ?_
                        refine j_icmpSe (pc := 780) C 785 rfl dL_law_780 ?_
                        refine j_iinc (pc := 785) (lc' := [(22, vI (i + 1)), (21, vI (dd + 1)), (0, .ref b), (1, .ref (k 0)), (2, vI np), (3, .ref a3), (4, .ref a4), (5, .ref a5), (6, .ref a6), (7, .ref a7), (8, .ref a8), (9, .ref a9), (10, .ref a10), (11, .ref a11), (12, .ref a12), (13, .ref a13), (14, vI t), (20, vI c)]) C 17 rfl (by decide) rfl dL_law_785 ?_
                        refine j_goto (pc := 788) C 690 rfl dL_law_788 ?_
                        refine j_locals (lc' := [(0, .ref b), (1, .ref (k 0)), (2, vI np), (3, .ref a3), (4, .ref a4), (5, .ref a5), (6, .ref a6), (7, .ref a7), (8, .ref a8), (9, .ref a9), (10, .ref a10), (11, .ref a11), (12, .ref a12), (13, .ref a13), (14, vI t), (20, vI c), (21, vI (dd + 1)), (22, vI (i + 1))]) [2, 3, 4, 5, 6, 7, 8, 9, 10, 11, 12, 13, 14, 15, 16, 17, 1, 0] rfl ?_
                        exact ih690 (dd + 1) (i + 1) W_41 (by omega) (by omega) (by rw [cnt_succ _ _ (by omega), ← i690_1]; first | (rw [if_pos (by (try dsimp only); omega)]; done) | (rw [if_neg (by (try dsimp only); omega)]; omega)) (by omega) hW_42
          refine j_locals (lc' := [(0, .ref b), (1, .ref (k 0)), (2, vI np), (3, .ref a3), (4, .ref a4), (5, .ref a5), (6, .ref a6), (7, .ref a7), (8, .ref a8), (9, .ref a9), (10, .ref a10), (11, .ref a11), (12, .ref a12), (13, .ref a13), (14, vI t), (20, vI c), (21, vI 0), (22, vI 0)]) [2, 3, 4, 5, 6, 7, 8, 9, 10, 11, 12, 13, 14, 15, 16, 17, 1, 0] rfl ?_
          exact hL690 _ 0 0 W_23 (Nat.lt_succ_self _) (by omega) rfl (by omega) hW_24
        · skip
          refine j_aload_n (pc := 667) C 1 1 rfl rfl dL_law_667 ?_
          refine j_iload (pc := 668) C 15 rfl dL_law_668 ?_
          refine j_aload (pc := 670) C 5 rfl dL_law_670 ?_
          refine j_iload (pc := 672) C 15 rfl dL_law_672 ?_
          refine j_iald (pc := 674) C (Or.inl (List.mem_of_getElem? (i := 2) rfl)) rfl (by omega) (by decide) dL_law_674 ?_
          refine tc_mark (pc := 675) (st := []) C hW_24 (by omega) (by omega) gL_law_X9_mark (by decide) rfl ⟨show kk + 0 + 0 ≤ 600000 by omega, show nn + 0 + 0 ≤ 7302250 by omega⟩ dL_law_675 (fun W_43 hW_44 => ?_)
          refine j_st (st' := [vI (-1)]) rfl rfl (congrArg (fun z => vI z :: []) (show (rMark c (ms_h S c) S) = (-1) from by unfold rMark; rw [if_neg (by omega), if_neg (by omega)]; unfold markS; rw [if_neg (by omega)])) ?_
          refine j_iconst (pc := 678) C dL_law_678 ?_
          refine j_icmp_eq (pc := 679) C 684 rfl (by omega) dL_law_679 (fun _ => ?_) (fun h_45 => absurd h_45 (by decide))
          refine j_iconst (pc := 684) C dL_law_684 ?_
          refine j_istore (pc := 685) (lc' := [(21, vI 0), (0, .ref b), (1, .ref (k 0)), (2, vI np), (3, .ref a3), (4, .ref a4), (5, .ref a5), (6, .ref a6), (7, .ref a7), (8, .ref a8), (9, .ref a9), (10, .ref a10), (11, .ref a11), (12, .ref a12), (13, .ref a13), (14, vI t), (20, vI c)]) C (by decide) rfl dL_law_685 ?_
          refine j_iconst (pc := 687) C dL_law_687 ?_
          refine j_istore (pc := 688) (lc' := [(22, vI 0), (21, vI 0), (0, .ref b), (1, .ref (k 0)), (2, vI np), (3, .ref a3), (4, .ref a4), (5, .ref a5), (6, .ref a6), (7, .ref a7), (8, .ref a8), (9, .ref a9), (10, .ref a10), (11, .ref a11), (12, .ref a12), (13, .ref a13), (14, vI t), (20, vI c)]) C (by decide) rfl dL_law_688 ?_
          have hL690 : ∀ (N690 : Nat) (dd : Int) (i : Int) (W3 : va_W), ((ms_h S c - i).toNat) < N690 → (0 ≤ i ∧ i ≤ ms_h S c ∧ i ≤ 9) → (dd = cntI (fun j => mk (9 * c + j)) (ms_w S) i) → (0 ≤ dd ∧ dd ≤ i) → (KWs Y k np 4 0 S pg cs ps W3) → jW X 23 (kk + 0) (nn + 0) ([(a3, aI (Y 0) 30 who), (a4, aI (Y 0) 3 cu), (a5, aI (Y 0) 7 (ms_h S)), (a6, aI (Y 0) 63 mk), (a7, aI (Y 0) 7 hw), (a8, aI (Y 0) 7 th), (a9, aI (Y 0) 63 tm), (a10, aI (Y 0) 7 tw), (a11, aL (Y 1) 1 sd), (a12, aL (Y 1) 1 ts), (a13, aI (Y 0) 12 al)] ++ W3) [(0, .ref b), (1, .ref (k 0)), (2, vI np), (3, .ref a3), (4, .ref a4), (5, .ref a5), (6, .ref a6), (7, .ref a7), (8, .ref a8), (9, .ref a9), (10, .ref a10), (11, .ref a11), (12, .ref a12), (13, .ref a13), (14, vI t), (20, vI c), (21, vI dd), (22, vI i)] 690 [] := by
            intro N690
            induction N690 with
            | zero => intro dd i W3 hm690 i690_0 i690_1 i690_2 i690_3; omega
            | succ N690 ih690 =>
              intro dd i W3 hm690 i690_0 i690_1 i690_2 i690_3
              refine j_iload (pc := 690) C 17 rfl dL_law_690 ?_
              refine j_aload (pc := 692) C 5 rfl dL_law_692 ?_
              refine j_iload (pc := 694) C 15 rfl dL_law_694 ?_
              refine j_iald (pc := 696) C (Or.inl (List.mem_of_getElem? (i := 2) rfl)) rfl (by omega) (by decide) dL_law_696 ?_
              refine j_icmp_ge (pc := 697) C 791 rfl (by omega) dL_law_697 (fun h_46p697 => ?_) (fun h_46p697 => ?_)
              · skip
                refine j_aload (pc := 791) C 7 rfl dL_law_791 ?_
                refine j_bipush (pc := 793) (w := 6) C rfl dL_law_793 ?_
                refine j_iald (pc := 795) C (Or.inl (List.mem_of_getElem? (i := 4) rfl)) rfl (by omega) (by decide) dL_law_795 ?_
                have hf7 := hLR.2.2.1
                refine j_if_ne (pc := 796) C 816 rfl (by omega) dL_law_796 (fun h_47p796 => ?_) (fun h_47p796 => ?_)
                · skip
                  refine j_iinc (pc := 816) (lc' := [(20, vI (c + 1)), (0, .ref b), (1, .ref (k 0)), (2, vI np), (3, .ref a3), (4, .ref a4), (5, .ref a5), (6, .ref a6), (7, .ref a7), (8, .ref a8), (9, .ref a9), (10, .ref a10), (11, .ref a11), (12, .ref a12), (13, .ref a13), (14, vI t), (21, vI dd), (22, vI i)]) C 15 rfl (by decide) rfl dL_law_816 ?_
                  refine j_goto (pc := 819) C 636 rfl dL_law_819 ?_
                  refine j_locals (lc' := [(0, .ref b), (1, .ref (k 0)), (2, vI np), (3, .ref a3), (4, .ref a4), (5, .ref a5), (6, .ref a6), (7, .ref a7), (8, .ref a8), (9, .ref a9), (10, .ref a10), (11, .ref a11), (12, .ref a12), (13, .ref a13), (14, vI t), (20, vI (c + 1))]) [1, 2, 3, 4, 5, 6, 7, 8, 9, 10, 11, 12, 13, 14, 15, 0] rfl ?_
                  exact ih636 (c + 1) W3 (by omega) (by omega) i690_3
                · skip
                  refine j_aload_n (pc := 799) C 1 1 rfl rfl dL_law_799 ?_
                  refine j_iload (pc := 800) C 15 rfl dL_law_800 ?_
                  refine j_aload (pc := 802) C 7 rfl dL_law_802 ?_
                  refine j_iconst (pc := 804) C dL_law_804 ?_
                  refine j_iald (pc := 805) C (Or.inl (List.mem_of_getElem? (i := 4) rfl)) rfl (by omega) (by decide) dL_law_805 ?_
                  refine j_st (st' := [vI (ms_w S), vI c, .ref (k 0)]) rfl rfl (congrArg (fun z => vI z :: [vI c, .ref (k 0)]) (show hw 0 = (ms_w S) from (hLR.2.1.1))) ?_
                  refine tc_dated (pc := 806) (st := []) C i690_3 (by omega) (by omega) gL_law_X9_dated (by decide) rfl ⟨show kk + 0 + 0 ≤ 600000 by omega, show nn + 0 + 0 ≤ 7302250 by omega⟩ dL_law_806 (fun W_48 hW_49 => ?_)
                  refine j_st (st' := [vI dd]) rfl rfl (congrArg (fun z => vI z :: []) (show (rDated c (ms_w S) S) = dd from by have hz := hLR.2.2.2 (by omega) c (by omega) (by omega); unfold rDated; rw [if_neg (by omega), if_neg (by omega), cnt_mark hS ⟨by omega, by omega⟩, i690_1, show i = ms_h S c by omega]; exact cnt_congr (by omega) (fun j j0 j1 => (hz.2 j j0 j1).symm))) ?_
                  refine j_iload (pc := 809) C 16 rfl dL_law_809 ?_
                  refine j_icmpSe (pc := 811) C 816 rfl dL_law_811 ?_
                  refine j_iinc (pc := 816) (lc' := [(20, vI (c + 1)), (0, .ref b), (1, .ref (k 0)), (2, vI np), (3, .ref a3), (4, .ref a4), (5, .ref a5), (6, .ref a6), (7, .ref a7), (8, .ref a8), (9, .ref a9), (10, .ref a10), (11, .ref a11), (12, .ref a12), (13, .ref a13), (14, vI t), (21, vI dd), (22, vI i)]) C 15 rfl (by decide) rfl dL_law_816 ?_
                  refine j_goto (pc := 819) C 636 rfl dL_law_819 ?_
                  refine j_locals (lc' := [(0, .ref b), (1, .ref (k 0)), (2, vI np), (3, .ref a3), (4, .ref a4), (5, .ref a5), (6, .ref a6), (7, .ref a7), (8, .ref a8), (9, .ref a9), (10, .ref a10), (11, .ref a11), (12, .ref a12), (13, .ref a13), (14, vI t), (20, vI (c + 1))]) [1, 2, 3, 4, 5, 6, 7, 8, 9, 10, 11, 12, 13, 14, 15, 0] rfl ?_
                  exact ih636 (c + 1) W_48 (by omega) (by omega) hW_49
              · skip
                refine j_iload (pc := 700) C 17 rfl dL_law_700 ?_
                refine j_bipush (pc := 702) (w := 9) C rfl dL_law_702 ?_
                refine j_icmp_ge (pc := 704) C 791 rfl (by omega) dL_law_704 (fun h_50p704 => ?_) (fun h_50p704 => ?_)
                · skip
                  refine j_aload (pc := 791) C 7 rfl dL_law_791 ?_
                  refine j_bipush (pc := 793) (w := 6) C rfl dL_law_793 ?_
                  refine j_iald (pc := 795) C (Or.inl (List.mem_of_getElem? (i := 4) rfl)) rfl (by omega) (by decide) dL_law_795 ?_
                  have hf7 := hLR.2.2.1
                  refine j_if_ne (pc := 796) C 816 rfl (by omega) dL_law_796 (fun h_51p796 => ?_) (fun h_51p796 => ?_)
                  · skip
                    refine j_iinc (pc := 816) (lc' := [(20, vI (c + 1)), (0, .ref b), (1, .ref (k 0)), (2, vI np), (3, .ref a3), (4, .ref a4), (5, .ref a5), (6, .ref a6), (7, .ref a7), (8, .ref a8), (9, .ref a9), (10, .ref a10), (11, .ref a11), (12, .ref a12), (13, .ref a13), (14, vI t), (21, vI dd), (22, vI i)]) C 15 rfl (by decide) rfl dL_law_816 ?_
                    refine j_goto (pc := 819) C 636 rfl dL_law_819 ?_
                    refine j_locals (lc' := [(0, .ref b), (1, .ref (k 0)), (2, vI np), (3, .ref a3), (4, .ref a4), (5, .ref a5), (6, .ref a6), (7, .ref a7), (8, .ref a8), (9, .ref a9), (10, .ref a10), (11, .ref a11), (12, .ref a12), (13, .ref a13), (14, vI t), (20, vI (c + 1))]) [1, 2, 3, 4, 5, 6, 7, 8, 9, 10, 11, 12, 13, 14, 15, 0] rfl ?_
                    exact ih636 (c + 1) W3 (by omega) (by omega) i690_3
                  · skip
                    refine j_aload_n (pc := 799) C 1 1 rfl rfl dL_law_799 ?_
                    refine j_iload (pc := 800) C 15 rfl dL_law_800 ?_
                    refine j_aload (pc := 802) C 7 rfl dL_law_802 ?_
                    refine j_iconst (pc := 804) C dL_law_804 ?_
                    refine j_iald (pc := 805) C (Or.inl (List.mem_of_getElem? (i := 4) rfl)) rfl (by omega) (by decide) dL_law_805 ?_
                    refine j_st (st' := [vI (ms_w S), vI c, .ref (k 0)]) rfl rfl (congrArg (fun z => vI z :: [vI c, .ref (k 0)]) (show hw 0 = (ms_w S) from (hLR.2.1.1))) ?_
                    refine tc_dated (pc := 806) (st := []) C i690_3 (by omega) (by omega) gL_law_X9_dated (by decide) rfl ⟨show kk + 0 + 0 ≤ 600000 by omega, show nn + 0 + 0 ≤ 7302250 by omega⟩ dL_law_806 (fun W_52 hW_53 => ?_)
                    refine j_st (st' := [vI dd]) rfl rfl (congrArg (fun z => vI z :: []) (show (rDated c (ms_w S) S) = dd from by have hz := hLR.2.2.2 (by omega) c (by omega) (by omega); unfold rDated; rw [if_neg (by omega), if_neg (by omega), cnt_mark hS ⟨by omega, by omega⟩, i690_1, show i = ms_h S c by omega]; exact cnt_congr (by omega) (fun j j0 j1 => (hz.2 j j0 j1).symm))) ?_
                    refine j_iload (pc := 809) C 16 rfl dL_law_809 ?_
                    refine j_icmpSe (pc := 811) C 816 rfl dL_law_811 ?_
                    refine j_iinc (pc := 816) (lc' := [(20, vI (c + 1)), (0, .ref b), (1, .ref (k 0)), (2, vI np), (3, .ref a3), (4, .ref a4), (5, .ref a5), (6, .ref a6), (7, .ref a7), (8, .ref a8), (9, .ref a9), (10, .ref a10), (11, .ref a11), (12, .ref a12), (13, .ref a13), (14, vI t), (21, vI dd), (22, vI i)]) C 15 rfl (by decide) rfl dL_law_816 ?_
                    refine j_goto (pc := 819) C 636 rfl dL_law_819 ?_
                    refine j_locals (lc' := [(0, .ref b), (1, .ref (k 0)), (2, vI np), (3, .ref a3), (4, .ref a4), (5, .ref a5), (6, .ref a6), (7, .ref a7), (8, .ref a8), (9, .ref a9), (10, .ref a10), (11, .ref a11), (12, .ref a12), (13, .ref a13), (14, vI t), (20, vI (c + 1))]) [1, 2, 3, 4, 5, 6, 7, 8, 9, 10, 11, 12, 13, 14, 15, 0] rfl ?_
                    exact ih636 (c + 1) W_52 (by omega) (by omega) hW_53
                · skip
                  refine j_iload (pc := 707) C 16 rfl dL_law_707 ?_
                  refine j_aload (pc := 709) C 6 rfl dL_law_709 ?_
                  refine j_bipush (pc := 711) (w := 9) C rfl dL_law_711 ?_
                  refine j_iload (pc := 713) C 15 rfl dL_law_713 ?_
                  refine j_imul (pc := 715) C dL_law_715 ?_
                  refine j_iload (pc := 716) C 17 rfl dL_law_716 ?_
                  refine j_iadd (pc := 718) C dL_law_718 ?_
                  refine j_iald (pc := 719) C (Or.inl (List.mem_of_getElem? (i := 3) rfl)) rfl (by omega) (by decide) dL_law_719 ?_
                  have hm := hLR.1 (9 * c + i)
                  refine j_aload (pc := 720) C 7 rfl dL_law_720 ?_
                  refine j_iconst (pc := 722) C dL_law_722 ?_
                  refine j_iald (pc := 723) C (Or.inl (List.mem_of_getElem? (i := 4) rfl)) rfl (by omega) (by decide) dL_law_723 ?_
                  refine j_st (st' := [vI (ms_w S), vI (mk ((9 * c) + i)), vI dd]) rfl rfl (congrArg (fun z => vI z :: [vI (mk ((9 * c) + i)), vI dd]) (show hw 0 = (ms_w S) from (hLR.2.1.1))) ?_
                  refine j_icmp_ne (pc := 724) C 731 rfl (by omega) dL_law_724 (fun h_54p724 => ?_) (fun h_54p724 => ?_)
                  · skip
                    refine j_iconst (pc := 731) C dL_law_731 ?_
                    refine j_iadd (pc := 732) C dL_law_732 ?_
                    refine j_istore (pc := 733) (lc' := [(21, vI (dd + 0)), (0, .ref b), (1, .ref (k 0)), (2, vI np), (3, .ref a3), (4, .ref a4), (5, .ref a5), (6, .ref a6), (7, .ref a7), (8, .ref a8), (9, .ref a9), (10, .ref a10), (11, .ref a11), (12, .ref a12), (13, .ref a13), (14, vI t), (20, vI c), (22, vI i)]) C (by decide) rfl dL_law_733 ?_
                    refine j_aload (pc := 735) C 6 rfl dL_law_735 ?_
                    refine j_iload (pc := 737) C 16 rfl dL_law_737 ?_
                    refine j_iald (pc := 739) C (Or.inl (List.mem_of_getElem? (i := 2) rfl)) rfl (by omega) (by decide) dL_law_739 ?_
                    refine j_bipush (pc := 740) (w := 10) C rfl dL_law_740 ?_
                    refine j_icmp_ge (pc := 742) C 785 rfl (by omega) dL_law_742 (fun h_55p742 => ?_) (fun h_55p742 => ?_)
                    · skip
                      refine j_iinc (pc := 785) (lc' := [(22, vI (i + 1)), (21, vI (dd + 0)), (0, .ref b), (1, .ref (k 0)), (2, vI np), (3, .ref a3), (4, .ref a4), (5, .ref a5), (6, .ref a6), (7, .ref a7), (8, .ref a8), (9, .ref a9), (10, .ref a10), (11, .ref a11), (12, .ref a12), (13, .ref a13), (14, vI t), (20, vI c)]) C 17 rfl (by decide) rfl dL_law_785 ?_
                      refine j_goto (pc := 788) C 690 rfl dL_law_788 ?_
                      refine j_locals (lc' := [(0, .ref b), (1, .ref (k 0)), (2, vI np), (3, .ref a3), (4, .ref a4), (5, .ref a5), (6, .ref a6), (7, .ref a7), (8, .ref a8), (9, .ref a9), (10, .ref a10), (11, .ref a11), (12, .ref a12), (13, .ref a13), (14, vI t), (20, vI c), (21, vI (dd + 0)), (22, vI (i + 1))]) [2, 3, 4, 5, 6, 7, 8, 9, 10, 11, 12, 13, 14, 15, 16, 17, 1, 0] rfl ?_
                      exact ih690 (dd + 0) (i + 1) W3 (by omega) (by omega) (by rw [cnt_succ _ _ (by omega), ← i690_1]; first | (rw [if_pos (by (try dsimp only); omega)]; done) | (rw [if_neg (by (try dsimp only); omega)]; omega)) (by omega) i690_3
                    · skip
                      refine j_aload (pc := 745) C 8 rfl dL_law_745 ?_
                      refine j_bipush (pc := 747) (w := 6) C rfl dL_law_747 ?_
                      refine j_iald (pc := 749) C (Or.inl (List.mem_of_getElem? (i := 4) rfl)) rfl (by omega) (by decide) dL_law_749 ?_
                      have hf6 := hLR.2.2.1
                      refine j_if_ne (pc := 750) C 785 rfl (by omega) dL_law_750 (fun h_56p750 => ?_) (fun h_56p750 => ?_)
                      · skip
                        refine j_iinc (pc := 785) (lc' := [(22, vI (i + 1)), (21, vI (dd + 0)), (0, .ref b), (1, .ref (k 0)), (2, vI np), (3, .ref a3), (4, .ref a4), (5, .ref a5), (6, .ref a6), (7, .ref a7), (8, .ref a8), (9, .ref a9), (10, .ref a10), (11, .ref a11), (12, .ref a12), (13, .ref a13), (14, vI t), (20, vI c)]) C 17 rfl (by decide) rfl dL_law_785 ?_
                        refine j_goto (pc := 788) C 690 rfl dL_law_788 ?_
                        refine j_locals (lc' := [(0, .ref b), (1, .ref (k 0)), (2, vI np), (3, .ref a3), (4, .ref a4), (5, .ref a5), (6, .ref a6), (7, .ref a7), (8, .ref a8), (9, .ref a9), (10, .ref a10), (11, .ref a11), (12, .ref a12), (13, .ref a13), (14, vI t), (20, vI c), (21, vI (dd + 0)), (22, vI (i + 1))]) [2, 3, 4, 5, 6, 7, 8, 9, 10, 11, 12, 13, 14, 15, 16, 17, 1, 0] rfl ?_
                        exact ih690 (dd + 0) (i + 1) W3 (by omega) (by omega) (by rw [cnt_succ _ _ (by omega), ← i690_1]; first | (rw [if_pos (by (try dsimp only); omega)]; done) | (rw [if_neg (by (try dsimp only); omega)]; omega)) (by omega) i690_3
                      · skip
                        refine j_aload_n (pc := 753) C 1 2 rfl rfl dL_law_753 ?_
                        refine j_iload (pc := 754) C 16 rfl dL_law_754 ?_
                        refine j_aload (pc := 756) C 6 rfl dL_law_756 ?_
                        refine j_iload (pc := 758) C 16 rfl dL_law_758 ?_
                        refine j_iald (pc := 760) C (Or.inl (List.mem_of_getElem? (i := 2) rfl)) rfl (by omega) (by decide) dL_law_760 ?_
                        refine j_iconst (pc := 761) C dL_law_761 ?_
                        refine j_isub (pc := 762) C dL_law_762 ?_
                        refine j_iload (pc := 763) C 17 rfl dL_law_763 ?_
                        refine j_isub (pc := 765) C dL_law_765 ?_
                        refine tc_mark (pc := 766) (st := []) C i690_3 (by omega) (by omega) gL_law_X9_mark (by decide) rfl ⟨show kk + 0 + 0 ≤ 600000 by omega, show nn + 0 + 0 ≤ 7302250 by omega⟩ dL_law_766 (fun W_57 hW_58 => ?_)
                        refine j_st (st' := [vI (mk ((9 * c) + i))]) rfl rfl (congrArg (fun z => vI z :: []) (show (rMark c ((ms_h S c - 1) - i) S) = mk ((9 * c) + i) from by unfold rMark; rw [if_neg (by omega), if_neg (by omega)]; unfold markS; rw [if_pos (by omega), (hLR.2.2.2 (by omega) c (by omega) (by omega)).2 i (by omega) (by omega)]; congr 1; omega)) ?_
                        refine j_aload (pc := 769) C 7 rfl dL_law_769 ?_
                        refine j_bipush (pc := 771) (w := 9) C rfl dL_law_771 ?_
                        refine j_iload (pc := 773) C 16 rfl dL_law_773 ?_
                        refine j_imul (pc := 775) C dL_law_775 ?_
                        refine j_iload (pc := 776) C 17 rfl dL_law_776 ?_
                        refine j_iadd (pc := 778) C dL_law_778 ?_
                        refine j_iald (pc := 779) C (Or.inl (List.mem_of_getElem? (i := 3) rfl)) rfl (by omega) (by decide) dL_law_779 ?_
                        refine j_icmpSe (pc := 780) C 785 rfl dL_law_780 ?_
                        refine j_iinc (pc := 785) (lc' := [(22, vI (i + 1)), (21, vI (dd + 0)), (0, .ref b), (1, .ref (k 0)), (2, vI np), (3, .ref a3), (4, .ref a4), (5, .ref a5), (6, .ref a6), (7, .ref a7), (8, .ref a8), (9, .ref a9), (10, .ref a10), (11, .ref a11), (12, .ref a12), (13, .ref a13), (14, vI t), (20, vI c)]) C 17 rfl (by decide) rfl dL_law_785 ?_
                        refine j_goto (pc := 788) C 690 rfl dL_law_788 ?_
                        refine j_locals (lc' := [(0, .ref b), (1, .ref (k 0)), (2, vI np), (3, .ref a3), (4, .ref a4), (5, .ref a5), (6, .ref a6), (7, .ref a7), (8, .ref a8), (9, .ref a9), (10, .ref a10), (11, .ref a11), (12, .ref a12), (13, .ref a13), (14, vI t), (20, vI c), (21, vI (dd + 0)), (22, vI (i + 1))]) [2, 3, 4, 5, 6, 7, 8, 9, 10, 11, 12, 13, 14, 15, 16, 17, 1, 0] rfl ?_
                        exact ih690 (dd + 0) (i + 1) W_57 (by omega) (by omega) (by rw [cnt_succ _ _ (by omega), ← i690_1]; first | (rw [if_pos (by (try dsimp only); omega)]; done) | (rw [if_neg (by (try dsimp only); omega)]; omega)) (by omega) hW_58
                  · skip
                    refine j_iconst (pc := 727) C dL_law_727 ?_
                    refine j_goto (pc := 728) C 732 rfl dL_law_728 ?_
                    refine j_iadd (pc := 732) C dL_law_732 ?_
                    refine j_istore (pc := 733) (lc' := [(21, vI (dd + 1)), (0, .ref b), (1, .ref (k 0)), (2, vI np), (3, .ref a3), (4, .ref a4), (5, .ref a5), (6, .ref a6), (7, .ref a7), (8, .ref a8), (9, .ref a9), (10, .ref a10), (11, .ref a11), (12, .ref a12), (13, .ref a13), (14, vI t), (20, vI c), (22, vI i)]) C (by decide) rfl dL_law_733 ?_
                    refine j_aload (pc := 735) C 6 rfl dL_law_735 ?_
                    refine j_iload (pc := 737) C 16 rfl dL_law_737 ?_
                    refine j_iald (pc := 739) C (Or.inl (List.mem_of_getElem? (i := 2) rfl)) rfl (by omega) (by decide) dL_law_739 ?_
                    refine j_bipush (pc := 740) (w := 10) C rfl dL_law_740 ?_
                    refine j_icmp_ge (pc := 742) C 785 rfl (by omega) dL_law_742 (fun h_59p742 => ?_) (fun h_59p742 => ?_)
                    · skip
                      refine j_iinc (pc := 785) (lc' := [(22, vI (i + 1)), (21, vI (dd + 1)), (0, .ref b), (1, .ref (k 0)), (2, vI np), (3, .ref a3), (4, .ref a4), (5, .ref a5), (6, .ref a6), (7, .ref a7), (8, .ref a8), (9, .ref a9), (10, .ref a10), (11, .ref a11), (12, .ref a12), (13, .ref a13), (14, vI t), (20, vI c)]) C 17 rfl (by decide) rfl dL_law_785 ?_
                      refine j_goto (pc := 788) C 690 rfl dL_law_788 ?_
                      refine j_locals (lc' := [(0, .ref b), (1, .ref (k 0)), (2, vI np), (3, .ref a3), (4, .ref a4), (5, .ref a5), (6, .ref a6), (7, .ref a7), (8, .ref a8), (9, .ref a9), (10, .ref a10), (11, .ref a11), (12, .ref a12), (13, .ref a13), (14, vI t), (20, vI c), (21, vI (dd + 1)), (22, vI (i + 1))]) [2, 3, 4, 5, 6, 7, 8, 9, 10, 11, 12, 13, 14, 15, 16, 17, 1, 0] rfl ?_
                      exact ih690 (dd + 1) (i + 1) W3 (by omega) (by omega) (by rw [cnt_succ _ _ (by omega), ← i690_1]; first | (rw [if_pos (by (try dsimp only); omega)]; done) | (rw [if_neg (by (try dsimp only); omega)]; omega)) (by omega) i690_3
                    · skip
                      refine j_aload (pc := 745) C 8 rfl dL_law_745 ?_
                      refine j_bipush (pc := 747) (w := 6) C rfl dL_law_747 ?_
                      refine j_iald (pc := 749) C (Or.inl (List.mem_of_getElem? (i := 4) rfl)) rfl (by omega) (by decide) dL_law_749 ?_
                      have hf6 := hLR.2.2.1
                      refine j_if_ne (pc := 750) C 785 rfl (by omega) dL_law_750 (fun h_60p750 => ?_) (fun h_60p750 => ?_)
                      · skip
                        refine j_iinc (pc := 785) (lc' := [(22, vI (i + 1)), (21, vI (dd + 1)), (0, .ref b), (1, .ref (k 0)), (2, vI np), (3, .ref a3), (4, .ref a4), (5, .ref a5), (6, .ref a6), (7, .ref a7), (8, .ref a8), (9, .ref a9), (10, .ref a10), (11, .ref a11), (12, .ref a12), (13, .ref a13), (14, vI t), (20, vI c)]) C 17 rfl (by decide) rfl dL_law_785 ?_
                        refine j_goto (pc := 788) C 690 rfl dL_law_788 ?_
                        refine j_locals (lc' := [(0, .ref b), (1, .ref (k 0)), (2, vI np), (3, .ref a3), (4, .ref a4), (5, .ref a5), (6, .ref a6), (7, .ref a7), (8, .ref a8), (9, .ref a9), (10, .ref a10), (11, .ref a11), (12, .ref a12), (13, .ref a13), (14, vI t), (20, vI c), (21, vI (dd + 1)), (22, vI (i + 1))]) [2, 3, 4, 5, 6, 7, 8, 9, 10, 11, 12, 13, 14, 15, 16, 17, 1, 0] rfl ?_
                        exact ih690 (dd + 1) (i + 1) W3 (by omega) (by omega) (by rw [cnt_succ _ _ (by omega), ← i690_1]; first | (rw [if_pos (by (try dsimp only); omega)]; done) | (rw [if_neg (by (try dsimp only); omega)]; omega)) (by omega) i690_3
                      · skip
                        refine j_aload_n (pc := 753) C 1 2 rfl rfl dL_law_753 ?_
                        refine j_iload (pc := 754) C 16 rfl dL_law_754 ?_
                        refine j_aload (pc := 756) C 6 rfl dL_law_756 ?_
                        refine j_iload (pc := 758) C 16 rfl dL_law_758 ?_
                        refine j_iald (pc := 760) C (Or.inl (List.mem_of_getElem? (i := 2) rfl)) rfl (by omega) (by decide) dL_law_760 ?_
                        refine j_iconst (pc := 761) C dL_law_761 ?_
                        refine j_isub (pc := 762) C dL_law_762 ?_
                        refine j_iload (pc := 763) C 17 rfl dL_law_763 ?_
                        refine j_isub (pc := 765) C dL_law_765 ?_
                        refine tc_mark (pc := 766) (st := []) C i690_3 (by omega) (by omega) gL_law_X9_mark (by decide) rfl ⟨show kk + 0 + 0 ≤ 600000 by omega, show nn + 0 + 0 ≤ 7302250 by omega⟩ dL_law_766 (fun W_61 hW_62 => ?_)
                        refine j_st (st' := [vI (mk ((9 * c) + i))]) rfl rfl (congrArg (fun z => vI z :: []) (show (rMark c ((ms_h S c - 1) - i) S) = mk ((9 * c) + i) from by unfold rMark; rw [if_neg (by omega), if_neg (by omega)]; unfold markS; rw [if_pos (by omega), (hLR.2.2.2 (by omega) c (by omega) (by omega)).2 i (by omega) (by omega)]; congr 1; omega)) ?_
                        refine j_aload (pc := 769) C 7 rfl dL_law_769 ?_
                        refine j_bipush (pc := 771) (w := 9) C rfl dL_law_771 ?_
                        refine j_iload (pc := 773) C 16 rfl dL_law_773 ?_
                        refine j_imul (pc := 775) C dL_law_775 ?_
                        refine j_iload (pc := 776) C 17 rfl dL_law_776 ?_
                        refine j_iadd (pc := 778) C dL_law_778 ?_
                        refine j_iald (pc := 779) C (Or.inl (List.mem_of_getElem? (i := 3) rfl)) rfl (by omega) (by decide) dL_law_779 ?_
                        refine j_icmpSe (pc := 780) C 785 rfl dL_law_780 ?_
                        refine j_iinc (pc := 785) (lc' := [(22, vI (i + 1)), (21, vI (dd + 1)), (0, .ref b), (1, .ref (k 0)), (2, vI np), (3, .ref a3), (4, .ref a4), (5, .ref a5), (6, .ref a6), (7, .ref a7), (8, .ref a8), (9, .ref a9), (10, .ref a10), (11, .ref a11), (12, .ref a12), (13, .ref a13), (14, vI t), (20, vI c)]) C 17 rfl (by decide) rfl dL_law_785 ?_
                        refine j_goto (pc := 788) C 690 rfl dL_law_788 ?_
                        refine j_locals (lc' := [(0, .ref b), (1, .ref (k 0)), (2, vI np), (3, .ref a3), (4, .ref a4), (5, .ref a5), (6, .ref a6), (7, .ref a7), (8, .ref a8), (9, .ref a9), (10, .ref a10), (11, .ref a11), (12, .ref a12), (13, .ref a13), (14, vI t), (20, vI c), (21, vI (dd + 1)), (22, vI (i + 1))]) [2, 3, 4, 5, 6, 7, 8, 9, 10, 11, 12, 13, 14, 15, 16, 17, 1, 0] rfl ?_
                        exact ih690 (dd + 1) (i + 1) W_61 (by omega) (by omega) (by rw [cnt_succ _ _ (by omega), ← i690_1]; first | (rw [if_pos (by (try dsimp only); omega)]; done) | (rw [if_neg (by (try dsimp only); omega)]; omega)) (by omega) hW_62
          refine j_locals (lc' := [(0, .ref b), (1, .ref (k 0)), (2, vI np), (3, .ref a3), (4, .ref a4), (5, .ref a5), (6, .ref a6), (7, .ref a7), (8, .ref a8), (9, .ref a9), (10, .ref a10), (11, .ref a11), (12, .ref a12), (13, .ref a13), (14, vI t), (20, vI c), (21, vI 0), (22, vI 0)]) [2, 3, 4, 5, 6, 7, 8, 9, 10, 11, 12, 13, 14, 15, 16, 17, 1, 0] rfl ?_
          exact hL690 _ 0 0 W_43 (Nat.lt_succ_self _) (by omega) rfl (by omega) hW_44
  refine j_locals (lc' := [(0, .ref b), (1, .ref (k 0)), (2, vI np), (3, .ref a3), (4, .ref a4), (5, .ref a5), (6, .ref a6), (7, .ref a7), (8, .ref a8), (9, .ref a9), (10, .ref a10), (11, .ref a11), (12, .ref a12), (13, .ref a13), (14, vI t), (20, vI 0)]) [1, 2, 3, 4, 5, 6, 7, 8, 9, 10, 11, 12, 13, 14, 15, 0] rfl ?_
  exact hL636 _ 0 W (Nat.lt_succ_self _) (by omega) hW
