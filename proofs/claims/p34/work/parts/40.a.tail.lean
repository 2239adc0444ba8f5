set_option maxHeartbeats 8000000 in
set_option maxRecDepth 100000 in
theorem law_tail (X : jX) (D : va_G) (Y : Nat → ClassId) (b L : Nat) (xs : Nat → Int32) (C : jC X code 23 RL wsL_law room_1 D Y []) (hSc : jSc X b L xs) (hL : L ≤ 3072) (k : Nat → Nat) (a3 a4 a5 a6 a7 a8 a9 a10 a11 a12 a13 : Nat) {np : Int} {S : MS} {pg : Int → Int} {cs : Int → CT} {ps : Int → PT} {mk hw cu th tm tw sd ts al who : Int → Int} {W : va_W} (hW : KWs Y k np 4 0 S pg cs ps W) {t : Int} (kk nn : Nat) (hkk : kk ≤ 1000) (hnn : nn ≤ 100000) (hend : ∀ (kk nn : Nat) (ws : va_W) (lc : List (Nat × Value)), kk ≤ 600000 → nn ≤ 7302250 → jW X 23 kk nn ws lc 1181 [vI 1]) : jW X 23 kk nn ([(a3, aI (Y 0) 30 who), (a4, aI (Y 0) 3 cu), (a5, aI (Y 0) 7 (ms_h S)), (a6, aI (Y 0) 63 mk), (a7, aI (Y 0) 7 hw), (a8, aI (Y 0) 7 th), (a9, aI (Y 0) 63 tm), (a10, aI (Y 0) 7 tw), (a11, aL (Y 1) 1 sd), (a12, aL (Y 1) 1 ts), (a13, aI (Y 0) 12 al)] ++ W) [(0, .ref b), (1, .ref (k 0)), (2, vI np), (3, .ref a3), (4, .ref a4), (5, .ref a5), (6, .ref a6), (7, .ref a7), (8, .ref a8), (9, .ref a9), (10, .ref a10), (11, .ref a11), (12, .ref a12), (13, .ref a13), (14, vI t)] 942 [] := by
  refine j_aload_n (pc := 942) C 1 1 rfl rfl dL_law_942 ?_
  refine j_bipush (pc := 943) (w := 7) C rfl dL_law_943 ?_
  refine j_iconst (pc := 945) C dL_law_945 ?_
  refine tc_lay (pc := 946) (st := []) C hW (by omega) (by omega) gL_law_X9_lay (by decide) rfl ⟨show kk + 0 + 0 ≤ 600000 by omega, show nn + 0 + 0 ≤ 7302250 by omega⟩ dL_law_946 (fun W_1 hW_2 => ?_)
  rw [show (sLay 7 1 S) = S from by unfold sLay; first | (rw [if_pos (by decide)]; done) | (rw [if_neg (by decide), if_pos (by decide)]; done)] at hW_2
  refine j_st (st' := [vI (-101)]) rfl rfl (congrArg (fun z => vI z :: []) (show (rLay 7 1 S) = (-101) from by unfold rLay; first | (rw [if_pos (by decide)]; done) | (rw [if_neg (by decide), if_pos (by decide)]; done))) ?_
  refine j_bipush (pc := 949) (w := (-101)) C rfl dL_law_949 ?_
  refine j_icmp_ne (pc := 951) C 1180 rfl (by omega) dL_law_951 (fun h_3 => absurd h_3 (by decide)) (fun _ => ?_)
  refine j_aload_n (pc := 954) C 1 1 rfl rfl dL_law_954 ?_
  refine j_iconst (pc := 955) C dL_law_955 ?_
  refine j_iconst (pc := 956) C dL_law_956 ?_
  refine tc_lay (pc := 957) (st := []) C hW_2 (by omega) (by omega) gL_law_X9_lay (by decide) rfl ⟨show kk + 0 + 0 ≤ 600000 by omega, show nn + 0 + 0 ≤ 7302250 by omega⟩ dL_law_957 (fun W_4 hW_5 => ?_)
  rw [show (sLay 0 0 S) = S from by unfold sLay; first | (rw [if_pos (by decide)]; done) | (rw [if_neg (by decide), if_pos (by decide)]; done)] at hW_5
  refine j_st (st' := [vI (-102)]) rfl rfl (congrArg (fun z => vI z :: []) (show (rLay 0 0 S) = (-102) from by unfold rLay; first | (rw [if_pos (by decide)]; done) | (rw [if_neg (by decide), if_pos (by decide)]; done))) ?_
  refine j_bipush (pc := 960) (w := (-102)) C rfl dL_law_960 ?_
  refine j_icmp_ne (pc := 962) C 1180 rfl (by omega) dL_law_962 (fun h_6 => absurd h_6 (by decide)) (fun _ => ?_)
  refine j_aload_n (pc := 965) C 1 1 rfl rfl dL_law_965 ?_
  refine j_iconst (pc := 966) C dL_law_966 ?_
  refine j_bipush (pc := 967) (w := 61) C rfl dL_law_967 ?_
  refine tc_lay (pc := 969) (st := []) C hW_5 (by omega) (by omega) gL_law_X9_lay (by decide) rfl ⟨show kk + 0 + 0 ≤ 600000 by omega, show nn + 0 + 0 ≤ 7302250 by omega⟩ dL_law_969 (fun W_7 hW_8 => ?_)
  rw [show (sLay 0 61 S) = S from by unfold sLay; first | (rw [if_pos (by decide)]; done) | (rw [if_neg (by decide), if_pos (by decide)]; done)] at hW_8
  refine j_st (st' := [vI (-102)]) rfl rfl (congrArg (fun z => vI z :: []) (show (rLay 0 61 S) = (-102) from by unfold rLay; first | (rw [if_pos (by decide)]; done) | (rw [if_neg (by decide), if_pos (by decide)]; done))) ?_
  refine j_bipush (pc := 972) (w := (-102)) C rfl dL_law_972 ?_
  refine j_icmp_ne (pc := 974) C 1180 rfl (by omega) dL_law_974 (fun h_9 => absurd h_9 (by decide)) (fun _ => ?_)
  refine j_aload_n (pc := 977) C 1 1 rfl rfl dL_law_977 ?_
  refine j_iconst (pc := 978) C dL_law_978 ?_
  refine j_iconst (pc := 979) C dL_law_979 ?_
  refine tc_take (pc := 980) (st := []) C hW_8 (by omega) (by omega) gL_law_X9_take (by decide) rfl ⟨show kk + 0 + 0 ≤ 600000 by omega, show nn + 0 + 0 ≤ 7302250 by omega⟩ dL_law_980 (fun W_10 hW_11 => ?_)
  rw [show (sTake (-1) 1 S) = S from by unfold sTake; first | (rw [if_pos (by decide)]; done) | (rw [if_neg (by decide), if_pos (by decide)]; done)] at hW_11
  refine j_st (st' := [vI (-101)]) rfl rfl (congrArg (fun z => vI z :: []) (show (rTake (-1) 1 S) = (-101) from by unfold rTake; first | (rw [if_pos (by decide)]; done) | (rw [if_neg (by decide), if_pos (by decide)]; done))) ?_
  refine j_bipush (pc := 983) (w := (-101)) C rfl dL_law_983 ?_
  refine j_icmp_ne (pc := 985) C 1180 rfl (by omega) dL_law_985 (fun h_12 => absurd h_12 (by decide)) (fun _ => ?_)
  refine j_aload_n (pc := 988) C 1 1 rfl rfl dL_law_988 ?_
  refine j_iconst (pc := 989) C dL_law_989 ?_
  refine j_bipush (pc := 990) (w := 61) C rfl dL_law_990 ?_
  refine tc_take (pc := 992) (st := []) C hW_11 (by omega) (by omega) gL_law_X9_take (by decide) rfl ⟨show kk + 0 + 0 ≤ 600000 by omega, show nn + 0 + 0 ≤ 7302250 by omega⟩ dL_law_992 (fun W_13 hW_14 => ?_)
  rw [show (sTake 0 61 S) = S from by unfold sTake; first | (rw [if_pos (by decide)]; done) | (rw [if_neg (by decide), if_pos (by decide)]; done)] at hW_14
  refine j_st (st' := [vI (-102)]) rfl rfl (congrArg (fun z => vI z :: []) (show (rTake 0 61 S) = (-102) from by unfold rTake; first | (rw [if_pos (by decide)]; done) | (rw [if_neg (by decide), if_pos (by decide)]; done))) ?_
  refine j_bipush (pc := 995) (w := (-102)) C rfl dL_law_995 ?_
  refine j_icmp_ne (pc := 997) C 1180 rfl (by omega) dL_law_997 (fun h_15 => absurd h_15 (by decide)) (fun _ => ?_)
  refine j_aload_n (pc := 1000) C 1 1 rfl rfl dL_law_1000 ?_
  refine j_bipush (pc := 1001) (w := 7) C rfl dL_law_1001 ?_
  refine tc_height (pc := 1003) (st := []) C hW_14 (by omega) gL_law_X9_height (by decide) rfl ⟨show kk + 0 + 0 ≤ 600000 by omega, show nn + 0 + 0 ≤ 7302250 by omega⟩ dL_law_1003 (fun W_16 hW_17 => ?_)
  refine j_st (st' := [vI (-101)]) rfl rfl (congrArg (fun z => vI z :: []) (show (rHeight 7 S) = (-101) from by unfold rHeight; first | (rw [if_pos (by decide)]; done) | (rw [if_neg (by decide), if_pos (by decide)]; done))) ?_
  refine j_bipush (pc := 1006) (w := (-101)) C rfl dL_law_1006 ?_
  refine j_icmp_ne (pc := 1008) C 1180 rfl (by omega) dL_law_1008 (fun h_18 => absurd h_18 (by decide)) (fun _ => ?_)
  refine j_aload_n (pc := 1011) C 1 1 rfl rfl dL_law_1011 ?_
  refine j_bipush (pc := 1012) (w := 7) C rfl dL_law_1012 ?_
  refine j_iconst (pc := 1014) C dL_law_1014 ?_
  refine tc_mark (pc := 1015) (st := []) C hW_17 (by omega) (by omega) gL_law_X9_mark (by decide) rfl ⟨show kk + 0 + 0 ≤ 600000 by omega, show nn + 0 + 0 ≤ 7302250 by omega⟩ dL_law_1015 (fun W_19 hW_20 => ?_)
  refine j_st (st' := [vI (-101)]) rfl rfl (congrArg (fun z => vI z :: []) (show (rMark 7 0 S) = (-101) from by unfold rMark; first | (rw [if_pos (by decide)]; done) | (rw [if_neg (by decide), if_pos (by decide)]; done))) ?_
  refine j_bipush (pc := 1018) (w := (-101)) C rfl dL_law_1018 ?_
  refine j_icmp_ne (pc := 1020) C 1180 rfl (by omega) dL_law_1020 (fun h_21 => absurd h_21 (by decide)) (fun _ => ?_)
  refine j_aload_n (pc := 1023) C 1 1 rfl rfl dL_law_1023 ?_
  refine j_iconst (pc := 1024) C dL_law_1024 ?_
  refine j_bipush (pc := 1025) (w := 60) C rfl dL_law_1025 ?_
  refine tc_mark (pc := 1027) (st := []) C hW_20 (by omega) (by omega) gL_law_X9_mark (by decide) rfl ⟨show kk + 0 + 0 ≤ 600000 by omega, show nn + 0 + 0 ≤ 7302250 by omega⟩ dL_law_1027 (fun W_22 hW_23 => ?_)
  refine j_st (st' := [vI (-102)]) rfl rfl (congrArg (fun z => vI z :: []) (show (rMark 0 60 S) = (-102) from by unfold rMark; first | (rw [if_pos (by decide)]; done) | (rw [if_neg (by decide), if_pos (by decide)]; done))) ?_
  refine j_bipush (pc := 1030) (w := (-102)) C rfl dL_law_1030 ?_
  refine j_icmp_ne (pc := 1032) C 1180 rfl (by omega) dL_law_1032 (fun h_24 => absurd h_24 (by decide)) (fun _ => ?_)
  refine j_aload_n (pc := 1035) C 1 1 rfl rfl dL_law_1035 ?_
  refine j_iconst (pc := 1036) C dL_law_1036 ?_
  refine j_iconst (pc := 1037) C dL_law_1037 ?_
  refine tc_mark (pc := 1038) (st := []) C hW_23 (by omega) (by omega) gL_law_X9_mark (by decide) rfl ⟨show kk + 0 + 0 ≤ 600000 by omega, show nn + 0 + 0 ≤ 7302250 by omega⟩ dL_law_1038 (fun W_25 hW_26 => ?_)
  refine j_st (st' := [vI (-102)]) rfl rfl (congrArg (fun z => vI z :: []) (show (rMark 0 (-1) S) = (-102) from by unfold rMark; first | (rw [if_pos (by decide)]; done) | (rw [if_neg (by decide), if_pos (by decide)]; done))) ?_
  refine j_bipush (pc := 1041) (w := (-102)) C rfl dL_law_1041 ?_
  refine j_icmp_ne (pc := 1043) C 1180 rfl (by omega) dL_law_1043 (fun h_27 => absurd h_27 (by decide)) (fun _ => ?_)
  refine j_aload_n (pc := 1046) C 1 1 rfl rfl dL_law_1046 ?_
  refine j_bipush (pc := 1047) (w := 7) C rfl dL_law_1047 ?_
  refine j_iconst (pc := 1049) C dL_law_1049 ?_
  refine tc_dated (pc := 1050) (st := []) C hW_26 (by omega) (by omega) gL_law_X9_dated (by decide) rfl ⟨show kk + 0 + 0 ≤ 600000 by omega, show nn + 0 + 0 ≤ 7302250 by omega⟩ dL_law_1050 (fun W_28 hW_29 => ?_)
  refine j_st (st' := [vI (-101)]) rfl rfl (congrArg (fun z => vI z :: []) (show (rDated 7 0 S) = (-101) from by unfold rDated; first | (rw [if_pos (by decide)]; done) | (rw [if_neg (by decide), if_pos (by decide)]; done))) ?_
  refine j_bipush (pc := 1053) (w := (-101)) C rfl dL_law_1053 ?_
  refine j_icmp_ne (pc := 1055) C 1180 rfl (by omega) dL_law_1055 (fun h_30 => absurd h_30 (by decide)) (fun _ => ?_)
  refine j_aload_n (pc := 1058) C 1 1 rfl rfl dL_law_1058 ?_
  refine j_iconst (pc := 1059) C dL_law_1059 ?_
  refine j_iconst (pc := 1060) C dL_law_1060 ?_
  refine tc_dated (pc := 1061) (st := []) C hW_29 (by omega) (by omega) gL_law_X9_dated (by decide) rfl ⟨show kk + 0 + 0 ≤ 600000 by omega, show nn + 0 + 0 ≤ 7302250 by omega⟩ dL_law_1061 (fun W_31 hW_32 => ?_)
  refine j_st (st' := [vI (-102)]) rfl rfl (congrArg (fun z => vI z :: []) (show (rDated 0 (-1) S) = (-102) from by unfold rDated; first | (rw [if_pos (by decide)]; done) | (rw [if_neg (by decide), if_pos (by decide)]; done))) ?_
  refine j_bipush (pc := 1064) (w := (-102)) C rfl dL_law_1064 ?_
  refine j_icmp_ne (pc := 1066) C 1180 rfl (by omega) dL_law_1066 (fun h_33 => absurd h_33 (by decide)) (fun _ => ?_)
  refine j_aload_n (pc := 1069) C 1 1 rfl rfl dL_law_1069 ?_
  refine j_iconst (pc := 1070) C dL_law_1070 ?_
  refine j_sipush (pc := 1071) (w := 10000) C rfl dL_law_1071 ?_
  refine tc_dated (pc := 1074) (st := []) C hW_32 (by omega) (by omega) gL_law_X9_dated (by decide) rfl ⟨show kk + 0 + 0 ≤ 600000 by omega, show nn + 0 + 0 ≤ 7302250 by omega⟩ dL_law_1074 (fun W_34 hW_35 => ?_)
  refine j_st (st' := [vI (-102)]) rfl rfl (congrArg (fun z => vI z :: []) (show (rDated 0 10000 S) = (-102) from by unfold rDated; first | (rw [if_pos (by decide)]; done) | (rw [if_neg (by decide), if_pos (by decide)]; done))) ?_
  refine j_bipush (pc := 1077) (w := (-102)) C rfl dL_law_1077 ?_
  refine j_icmp_ne (pc := 1079) C 1180 rfl (by omega) dL_law_1079 (fun h_36 => absurd h_36 (by decide)) (fun _ => ?_)
  refine j_aload_n (pc := 1082) C 1 1 rfl rfl dL_law_1082 ?_
  refine j_iconst (pc := 1083) C dL_law_1083 ?_
  refine tc_seed (pc := 1084) (st := []) C hW_35 (by omega) gL_law_X9_seed (by decide) rfl ⟨show kk + 0 + 0 ≤ 600000 by omega, show nn + 0 + 0 ≤ 7302250 by omega⟩ dL_law_1084 (fun W_37 hW_38 => ?_)
  rw [show (sSeed (-1) S) = S from by unfold sSeed; first | (rw [if_pos (by decide)]; done) | (rw [if_neg (by decide), if_pos (by decide)]; done)] at hW_38
  refine j_st (st' := [vI (-102)]) rfl rfl (congrArg (fun z => vI z :: []) (show (rSeed (-1) S) = (-102) from by unfold rSeed; first | (rw [if_pos (by decide)]; done) | (rw [if_neg (by decide), if_pos (by decide)]; done))) ?_
  refine j_bipush (pc := 1087) (w := (-102)) C rfl dL_law_1087 ?_
  refine j_icmp_ne (pc := 1089) C 1180 rfl (by omega) dL_law_1089 (fun h_39 => absurd h_39 (by decide)) (fun _ => ?_)
  refine j_aload_n (pc := 1092) C 1 1 rfl rfl dL_law_1092 ?_
  refine j_iconst (pc := 1093) C dL_law_1093 ?_
  refine j_iconst (pc := 1094) C dL_law_1094 ?_
  refine tc_weeks (pc := 1095) (st := []) C hW_38 (by omega) (by omega) gL_law_X9_weeks (by decide) rfl ⟨show kk + 0 + 0 ≤ 600000 by omega, show nn + 0 + 0 ≤ 7302250 by omega⟩ dL_law_1095 (fun W_40 hW_41 => ?_)
  rw [show (sWeeks 4 1 4 cs np ps S) = S from by unfold sWeeks; first | (rw [if_pos (by decide)]; done) | (rw [if_neg (by decide), if_pos (by decide)]; done)] at hW_41
  refine j_st (st' := [vI (-101)]) rfl rfl (congrArg (fun z => vI z :: []) (show (rWeeks 4 1 4 cs np ps S) = (-101) from by unfold rWeeks; first | (rw [if_pos (by decide)]; done) | (rw [if_neg (by decide), if_pos (by decide)]; done))) ?_
  refine j_bipush (pc := 1098) (w := (-101)) C rfl dL_law_1098 ?_
  refine j_icmp_ne (pc := 1100) C 1180 rfl (by omega) dL_law_1100 (fun h_42 => absurd h_42 (by decide)) (fun _ => ?_)
  refine j_aload_n (pc := 1103) C 1 1 rfl rfl dL_law_1103 ?_
  refine j_iconst (pc := 1104) C dL_law_1104 ?_
  refine j_iconst (pc := 1105) C dL_law_1105 ?_
  refine tc_weeks (pc := 1106) (st := []) C hW_41 (by omega) (by omega) gL_law_X9_weeks (by decide) rfl ⟨show kk + 0 + 0 ≤ 600000 by omega, show nn + 0 + 0 ≤ 7302250 by omega⟩ dL_law_1106 (fun W_43 hW_44 => ?_)
  rw [show (sWeeks 0 0 4 cs np ps S) = S from by unfold sWeeks; first | (rw [if_pos (by decide)]; done) | (rw [if_neg (by decide), if_pos (by decide)]; done)] at hW_44
  refine j_st (st' := [vI (-102)]) rfl rfl (congrArg (fun z => vI z :: []) (show (rWeeks 0 0 4 cs np ps S) = (-102) from by unfold rWeeks; first | (rw [if_pos (by decide)]; done) | (rw [if_neg (by decide), if_pos (by decide)]; done))) ?_
  refine j_bipush (pc := 1109) (w := (-102)) C rfl dL_law_1109 ?_
  refine j_icmp_ne (pc := 1111) C 1180 rfl (by omega) dL_law_1111 (fun h_45 => absurd h_45 (by decide)) (fun _ => ?_)
  refine j_aload_n (pc := 1114) C 1 1 rfl rfl dL_law_1114 ?_
  refine j_iconst (pc := 1115) C dL_law_1115 ?_
  refine j_bipush (pc := 1116) (w := 61) C rfl dL_law_1116 ?_
  refine tc_weeks (pc := 1118) (st := []) C hW_44 (by omega) (by omega) gL_law_X9_weeks (by decide) rfl ⟨show kk + 0 + 0 ≤ 600000 by omega, show nn + 0 + 0 ≤ 7302250 by omega⟩ dL_law_1118 (fun W_46 hW_47 => ?_)
  rw [show (sWeeks 0 61 4 cs np ps S) = S from by unfold sWeeks; first | (rw [if_pos (by decide)]; done) | (rw [if_neg (by decide), if_pos (by decide)]; done)] at hW_47
  refine j_st (st' := [vI (-102)]) rfl rfl (congrArg (fun z => vI z :: []) (show (rWeeks 0 61 4 cs np ps S) = (-102) from by unfold rWeeks; first | (rw [if_pos (by decide)]; done) | (rw [if_neg (by decide), if_pos (by decide)]; done))) ?_
  refine j_bipush (pc := 1121) (w := (-102)) C rfl dL_law_1121 ?_
  refine j_icmp_ne (pc := 1123) C 1180 rfl (by omega) dL_law_1123 (fun h_48 => absurd h_48 (by decide)) (fun _ => ?_)
  refine j_aload_n (pc := 1126) C 1 1 rfl rfl dL_law_1126 ?_
  refine j_iconst (pc := 1127) C dL_law_1127 ?_
  refine j_iconst (pc := 1128) C dL_law_1128 ?_
  refine j_iconst (pc := 1129) C dL_law_1129 ?_
  refine tc_would (pc := 1130) (st := []) C hW_47 (by omega) (by omega) (by omega) gL_law_X9_would (by decide) rfl ⟨show kk + 0 + 0 ≤ 600000 by omega, show nn + 0 + 0 ≤ 7302250 by omega⟩ dL_law_1130 (fun W_49 hW_50 => ?_)
  refine j_st (st' := [vI (-101)]) rfl rfl (congrArg (fun z => vI z :: []) (show (rWould 4 0 1 4 cs np ps S) = (-101) from by unfold rWould; first | (rw [if_pos (by decide)]; done) | (rw [if_neg (by decide), if_pos (by decide)]; done))) ?_
  refine j_bipush (pc := 1133) (w := (-101)) C rfl dL_law_1133 ?_
  refine j_icmp_ne (pc := 1135) C 1180 rfl (by omega) dL_law_1135 (fun h_51 => absurd h_51 (by decide)) (fun _ => ?_)
  refine j_aload_n (pc := 1138) C 1 1 rfl rfl dL_law_1138 ?_
  refine j_iconst (pc := 1139) C dL_law_1139 ?_
  refine j_bipush (pc := 1140) (w := 7) C rfl dL_law_1140 ?_
  refine j_iconst (pc := 1142) C dL_law_1142 ?_
  refine tc_would (pc := 1143) (st := []) C hW_50 (by omega) (by omega) (by omega) gL_law_X9_would (by decide) rfl ⟨show kk + 0 + 0 ≤ 600000 by omega, show nn + 0 + 0 ≤ 7302250 by omega⟩ dL_law_1143 (fun W_52 hW_53 => ?_)
  refine j_st (st' := [vI (-101)]) rfl rfl (congrArg (fun z => vI z :: []) (show (rWould 0 7 1 4 cs np ps S) = (-101) from by unfold rWould; first | (rw [if_pos (by decide)]; done) | (rw [if_neg (by decide), if_pos (by decide)]; done))) ?_
  refine j_bipush (pc := 1146) (w := (-101)) C rfl dL_law_1146 ?_
  refine j_icmp_ne (pc := 1148) C 1180 rfl (by omega) dL_law_1148 (fun h_54 => absurd h_54 (by decide)) (fun _ => ?_)
  refine j_aload_n (pc := 1151) C 1 1 rfl rfl dL_law_1151 ?_
  refine j_iconst (pc := 1152) C dL_law_1152 ?_
  refine j_iconst (pc := 1153) C dL_law_1153 ?_
  refine j_bipush (pc := 1154) (w := 61) C rfl dL_law_1154 ?_
  refine tc_would (pc := 1156) (st := []) C hW_53 (by omega) (by omega) (by omega) gL_law_X9_would (by decide) rfl ⟨show kk + 0 + 0 ≤ 600000 by omega, show nn + 0 + 0 ≤ 7302250 by omega⟩ dL_law_1156 (fun W_55 hW_56 => ?_)
  refine j_st (st' := [vI (-102)]) rfl rfl (congrArg (fun z => vI z :: []) (show (rWould 0 0 61 4 cs np ps S) = (-102) from by unfold rWould; first | (rw [if_pos (by decide)]; done) | (rw [if_neg (by decide), if_pos (by decide)]; done))) ?_
  refine j_bipush (pc := 1159) (w := (-102)) C rfl dL_law_1159 ?_
  refine j_icmp_ne (pc := 1161) C 1180 rfl (by omega) dL_law_1161 (fun h_57 => absurd h_57 (by decide)) (fun _ => ?_)
  refine j_aload_n (pc := 1164) C 1 1 rfl rfl dL_law_1164 ?_
  refine j_iconst (pc := 1165) C dL_law_1165 ?_
  refine j_iconst (pc := 1166) C dL_law_1166 ?_
  refine j_iconst (pc := 1167) C dL_law_1167 ?_
  refine tc_would (pc := 1168) (st := []) C hW_56 (by omega) (by omega) (by omega) gL_law_X9_would (by decide) rfl ⟨show kk + 0 + 0 ≤ 600000 by omega, show nn + 0 + 0 ≤ 7302250 by omega⟩ dL_law_1168 (fun W_58 hW_59 => ?_)
  refine j_st (st' := [vI (-102)]) rfl rfl (congrArg (fun z => vI z :: []) (show (rWould 0 0 (-1) 4 cs np ps S) = (-102) from by unfold rWould; first | (rw [if_pos (by decide)]; done) | (rw [if_neg (by decide), if_pos (by decide)]; done))) ?_
  refine j_bipush (pc := 1171) (w := (-102)) C rfl dL_law_1171 ?_
  refine j_icmp_ne (pc := 1173) C 1180 rfl (by omega) dL_law_1173 (fun h_60 => absurd h_60 (by decide)) (fun _ => ?_)
  refine j_iconst (pc := 1176) C dL_law_1176 ?_
  refine j_goto (pc := 1177) C 1181 rfl dL_law_1177 ?_
  exact hend _ _ _ _ (by omega) (by omega)
