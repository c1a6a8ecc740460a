/-! the law's cases -/
set_option maxHeartbeats 1500000 in
set_option maxRecDepth 100000 in
theorem law_opn {p : Program} {l : Launch} {e : Env} {s : State} {m : MethodId} {below : List Frame} {meth : Method} {c : Code} {A : Nat → Prop} {G : gG} {b : Nat} {L : Nat} {xs : Nat → Int32} {ox oc owd ot oo om oe op ob ocs ods oq oy : Nat} {kk ks kv kw r : Nat → Nat} (hC0 : LC p l s m c A G b L xs) {j : Nat} (hj : 9 * j + 9 ≤ L) (ih : LAp p l e s m below meth c A G b ox oc owd ot oo om oe op ob ocs ods oq oy kk ks kv kw r 23 (j + 1)) : LAp p l e s m below meth c A G b ox oc owd ot oo om oe op ob ocs ods oq oy kk ks kv kw r 1019 j := by
  intro oh ol dp sh sl g e0 f0 mk c0 h0 l0 nq f dec q sz ch cl fs fv fw T fo th fi se w0 w1 w2 ff gg mm ins sb per ph pl ss sv sw mk2 hp hh hl9 H locs ls hdp1 hdp hR1 hR2 hR3 hR4 hP hD hS hl
  obtain ⟨hx, hb, hml, hown, hts, hG, hA, hX, hbl, hbA, hl0, hLN⟩ := hC0
  have hcf : 60 + 4 * j + 4 ≤ room_1.cells ∧ 20000 + 20 * j + 20 ≤ room_1.slots := ⟨by show _ ≤ 601024; omega, by show _ ≤ 7293034; omega⟩
  have hp2 := p2_le hdp
  have hp1 := Nat.two_pow_pos dp
  have hl : lv_has ls 8 [(0, .ref b), (1, .ref ox), (2, .ref oy), (3, .ref oq), (4, .int (nI (9 * j)))] := hl
  obtain ⟨y1, hy1⟩ : ∃ y, xs (9 * j + 1) = y := ⟨_, rfl⟩
  obtain ⟨y2, hy2⟩ : ∃ y, xs (9 * j + 2) = y := ⟨_, rfl⟩
  obtain ⟨y3, hy3⟩ : ∃ y, xs (9 * j + 3) = y := ⟨_, rfl⟩
  obtain ⟨y4, hy4⟩ : ∃ y, xs (9 * j + 4) = y := ⟨_, rfl⟩
  obtain ⟨y5, hy5⟩ : ∃ y, xs (9 * j + 5) = y := ⟨_, rfl⟩
  obtain ⟨y6, hy6⟩ : ∃ y, xs (9 * j + 6) = y := ⟨_, rfl⟩
  obtain ⟨y7, hy7⟩ : ∃ y, xs (9 * j + 7) = y := ⟨_, rfl⟩
  obtain ⟨y8, hy8⟩ : ∃ y, xs (9 * j + 8) = y := ⟨_, rfl⟩
  rcases Bool.eq_false_or_eq_true (jIn (2 ^ dp) y1) with hd | hd
  · obtain ⟨dd, hdd, rfl⟩ := jIn_t (by omega) hd
    have hd256 : dd < 256 := by omega
    rcases Bool.eq_false_or_eq_true (jIn 4 y2) with hc | hc
    · obtain ⟨c4, hc4, rfl⟩ := jIn_t (by decide) hc
      rcases ho : dec dd with _ | od
      · have hp9 := hR3.2.1 dd hd256 ho c4 hc4
        have hP : va_P G.1 vwCl ([aJ G oq 1 fo, oC ox 7 [.ref oc, .ref ot, .ref oo, .ref oe, .ref op, .ref ocs, .ref ods, .long oh, .long ol], oC ot 6 [.int (nI dp), .long sh, .long sl], oC oc 1 [.ref owd, .long e0, .long f0], aI G owd 44 g, oC oo 2 [.ref om], aZ G om 512 mk, oC oe 4 [.long c0, .long h0, .long l0], oC op 5 [.ref ob, .int (nI nq)], aI G ob 229 f, aH G ocs 4 (fun j => some (kk j)), aQ G ods 256 dec, moC oy r th fi se (nI dp) sh sl (nI nq) oh ol w0 w1 w2, aI G (r 0) 256 ckS, aI G (r 1) 256 ckU, aI G (r 2) 176 (bN ff), aI G (r 3) 16 (bN gg), aI G (r 4) 16 (bN mm), aZ G (r 5) 256 ins, aZ G (r 6) 1024 sb, aI G (r 7) 4 per, aJ G (r 8) 4 ph, aJ G (r 9) 4 pl, aI G (r 10) 4 ss, aI G (r 11) 1024 sv, aI G (r 12) 1024 sw, aZ G (r 13) 512 mk2, aI G (r 14) 229 f, aI G (r 15) 1024 hp, aJ G (r 16) 1024 hh, aJ G (r 17) 1024 hl9] ++ (chA (chB G kk ks kv kw q sz ch cl fs fv fw) ++ decW G T)) H := hP
        have hD : va_D A ([aJ G oq 1 fo, oC ox 7 [.ref oc, .ref ot, .ref oo, .ref oe, .ref op, .ref ocs, .ref ods, .long oh, .long ol], oC ot 6 [.int (nI dp), .long sh, .long sl], oC oc 1 [.ref owd, .long e0, .long f0], aI G owd 44 g, oC oo 2 [.ref om], aZ G om 512 mk, oC oe 4 [.long c0, .long h0, .long l0], oC op 5 [.ref ob, .int (nI nq)], aI G ob 229 f, aH G ocs 4 (fun j => some (kk j)), aQ G ods 256 dec, moC oy r th fi se (nI dp) sh sl (nI nq) oh ol w0 w1 w2, aI G (r 0) 256 ckS, aI G (r 1) 256 ckU, aI G (r 2) 176 (bN ff), aI G (r 3) 16 (bN gg), aI G (r 4) 16 (bN mm), aZ G (r 5) 256 ins, aZ G (r 6) 1024 sb, aI G (r 7) 4 per, aJ G (r 8) 4 ph, aJ G (r 9) 4 pl, aI G (r 10) 4 ss, aI G (r 11) 1024 sv, aI G (r 12) 1024 sw, aZ G (r 13) 512 mk2, aI G (r 14) 229 f, aI G (r 15) 1024 hp, aJ G (r 16) 1024 hh, aJ G (r 17) 1024 hl9] ++ (chA (chB G kk ks kv kw q sz ch cl fs fv fw) ++ decW G T)) := hD
        generalize htl : (chA (chB G kk ks kv kw q sz ch cl fs fv fw) ++ decW G T) = tl at hP hD
        refine lv_aload_n hx hb dLa_law_1019 rfl (lv_at hl 1 rfl) ?_
        refine lv_aload_n hx hb dLa_law_1020 rfl (lv_at hl 0 rfl) ?_
        refine lv_iload hx hb dLa_law_1021 (lv_at hl 4 rfl) ?_
        refine lv_iconst (v := nI 1) hx hb dLa_law_1023 (by decide) ?_
        refine lv_iadd hx hb dLa_law_1024 ?_
        refine ck_sld hx hb hX hbl hbA hS (9 * j + 1) (nI_add _ _) (by omega) (by omega) hy1 dLa_law_1025 ?_
        refine lv_aload_n hx hb dLa_law_1026 rfl (lv_at hl 0 rfl) ?_
        refine lv_iload hx hb dLa_law_1027 (lv_at hl 4 rfl) ?_
        refine lv_iconst (v := nI 2) hx hb dLa_law_1029 (by decide) ?_
        refine lv_iadd hx hb dLa_law_1030 ?_
        refine ck_sld hx hb hX hbl hbA hS (9 * j + 2) (nI_add _ _) (by omega) (by omega) hy2 dLa_law_1031 ?_
        refine lv_aload_n hx hb dLa_law_1032 rfl (lv_at hl 0 rfl) ?_
        refine lv_iload hx hb dLa_law_1033 (lv_at hl 4 rfl) ?_
        refine lv_iconst (v := nI 3) hx hb dLa_law_1035 (by decide) ?_
        refine lv_iadd hx hb dLa_law_1036 ?_
        refine ck_sld hx hb hX hbl hbA hS (9 * j + 3) (nI_add _ _) (by omega) (by omega) hy3 dLa_law_1037 ?_
        refine lv_i2l (v := y3.toInt64) hx hb dLa_law_1038 rfl ?_
        refine lv_bipush (v := nI 32) hx hb dLa_law_1039 (by decide) ?_
        refine lv_lshl (v := lsh y3.toInt64 (nI 32)) hx hb dLa_law_1041 rfl ?_
        refine lv_aload_n hx hb dLa_law_1042 rfl (lv_at hl 0 rfl) ?_
        refine lv_iload hx hb dLa_law_1043 (lv_at hl 4 rfl) ?_
        refine lv_iconst (v := nI 4) hx hb dLa_law_1045 (by decide) ?_
        refine lv_iadd hx hb dLa_law_1046 ?_
        refine ck_sld hx hb hX hbl hbA hS (9 * j + 4) (nI_add _ _) (by omega) (by omega) hy4 dLa_law_1047 ?_
        refine lv_i2l (v := y4.toInt64) hx hb dLa_law_1048 rfl ?_
        refine lv_ldc2 (v := lN 4294967295) hx hb hown (hts _ kkLa_80) dLa_law_1049 ?_
        refine lv_land hx hb dLa_law_1052 ?_
        refine lv_lor hx hb dLa_law_1053 ?_
        refine ck_rl (y := jLL y3 y4) rfl ?_
        refine lv_aload_n hx hb dLa_law_1054 rfl (lv_at hl 0 rfl) ?_
        refine lv_iload hx hb dLa_law_1055 (lv_at hl 4 rfl) ?_
        refine lv_iconst (v := nI 5) hx hb dLa_law_1057 (by decide) ?_
        refine lv_iadd hx hb dLa_law_1058 ?_
        refine ck_sld hx hb hX hbl hbA hS (9 * j + 5) (nI_add _ _) (by omega) (by omega) hy5 dLa_law_1059 ?_
        refine lv_i2l (v := y5.toInt64) hx hb dLa_law_1060 rfl ?_
        refine lv_bipush (v := nI 32) hx hb dLa_law_1061 (by decide) ?_
        refine lv_lshl (v := lsh y5.toInt64 (nI 32)) hx hb dLa_law_1063 rfl ?_
        refine lv_aload_n hx hb dLa_law_1064 rfl (lv_at hl 0 rfl) ?_
        refine lv_iload hx hb dLa_law_1065 (lv_at hl 4 rfl) ?_
        refine lv_bipush (v := nI 6) hx hb dLa_law_1067 (by decide) ?_
        refine lv_iadd hx hb dLa_law_1069 ?_
        refine ck_sld hx hb hX hbl hbA hS (9 * j + 6) (nI_add _ _) (by omega) (by omega) hy6 dLa_law_1070 ?_
        refine lv_i2l (v := y6.toInt64) hx hb dLa_law_1071 rfl ?_
        refine lv_ldc2 (v := lN 4294967295) hx hb hown (hts _ kkLa_80) dLa_law_1072 ?_
        refine lv_land hx hb dLa_law_1075 ?_
        refine lv_lor hx hb dLa_law_1076 ?_
        refine ck_rl (y := jLL y5 y6) rfl ?_
        refine lv_aload_n hx hb dLa_law_1077 rfl (lv_at hl 0 rfl) ?_
        refine lv_iload hx hb dLa_law_1078 (lv_at hl 4 rfl) ?_
        refine lv_bipush (v := nI 7) hx hb dLa_law_1080 (by decide) ?_
        refine lv_iadd hx hb dLa_law_1082 ?_
        refine ck_sld hx hb hX hbl hbA hS (9 * j + 7) (nI_add _ _) (by omega) (by omega) hy7 dLa_law_1083 ?_
        refine lv_i2l (v := y7.toInt64) hx hb dLa_law_1084 rfl ?_
        refine lv_bipush (v := nI 32) hx hb dLa_law_1085 (by decide) ?_
        refine lv_lshl (v := lsh y7.toInt64 (nI 32)) hx hb dLa_law_1087 rfl ?_
        refine lv_aload_n hx hb dLa_law_1088 rfl (lv_at hl 0 rfl) ?_
        refine lv_iload hx hb dLa_law_1089 (lv_at hl 4 rfl) ?_
        refine lv_bipush (v := nI 8) hx hb dLa_law_1091 (by decide) ?_
        refine lv_iadd hx hb dLa_law_1093 ?_
        refine ck_sld hx hb hX hbl hbA hS (9 * j + 8) (nI_add _ _) (by omega) (by omega) hy8 dLa_law_1094 ?_
        refine lv_i2l (v := y8.toInt64) hx hb dLa_law_1095 rfl ?_
        refine lv_ldc2 (v := lN 4294967295) hx hb hown (hts _ kkLa_80) dLa_law_1096 ?_
        refine lv_land hx hb dLa_law_1099 ?_
        refine lv_lor hx hb dLa_law_1100 ?_
        refine ck_rl (y := jLL y7 y8) rfl ?_
        refine clLa_125 (As := [.ref ox, .int (nI dd), .int (nI c4), .long (jLL y3 y4), .long (jLL y5 y6), .long (jLL y7 y8)]) (rest := []) hx hb hml hown hts (w_La_open_ISE (wi := [oC ox 7 [.ref oc, .ref ot, .ref oo, .ref oe, .ref op, .ref ocs, .ref ods, .long oh, .long ol], oC ot 6 [.int (nI dp), .long sh, .long sl], aQ G ods 256 dec]) l G ox (nI dd) (nI c4) (jLL y3 y4) (jLL y5 y6) (jLL y7 y8) (x_CK_open3 l hl0 G ox oc ot oo oe op ocs ods oh ol dp hdp sh sl dec dd hdd c4 hc4 ho (jLL y3 y4) (jLL y5 y6) (jLL y7 y8)) 0 rfl [0, 1, 2] rfl rfl rfl) hG hA hP hD hS [1, 2, 11] rfl rfl (fun _ => rfl) rfl hl.1 rfl (Nat.le_of_ble_eq_true rfl) ⟨Nat.le_of_ble_eq_true rfl, Nat.le_of_ble_eq_true rfl⟩ ⟨Nat.le_trans (Nat.add_le_add_left (Nat.le_of_ble_eq_true rfl) _) hcf.1, Nat.le_trans (Nat.add_le_add_left (Nat.le_of_ble_eq_true rfl) _) hcf.2⟩ dLa_law_1101 (fun _ H locs _ hP hD hS => ?_)
        have hP : va_P G.1 vwCl ([aJ G oq 1 fo, oC ox 7 [.ref oc, .ref ot, .ref oo, .ref oe, .ref op, .ref ocs, .ref ods, .long oh, .long ol], oC ot 6 [.int (nI dp), .long sh, .long sl], oC oc 1 [.ref owd, .long e0, .long f0], aI G owd 44 g, oC oo 2 [.ref om], aZ G om 512 mk, oC oe 4 [.long c0, .long h0, .long l0], oC op 5 [.ref ob, .int (nI nq)], aI G ob 229 f, aH G ocs 4 (fun j => some (kk j)), aQ G ods 256 dec, moC oy r th fi se (nI dp) sh sl (nI nq) oh ol w0 w1 w2, aI G (r 0) 256 ckS, aI G (r 1) 256 ckU, aI G (r 2) 176 (bN ff), aI G (r 3) 16 (bN gg), aI G (r 4) 16 (bN mm), aZ G (r 5) 256 ins, aZ G (r 6) 1024 sb, aI G (r 7) 4 per, aJ G (r 8) 4 ph, aJ G (r 9) 4 pl, aI G (r 10) 4 ss, aI G (r 11) 1024 sv, aI G (r 12) 1024 sw, aZ G (r 13) 512 mk2, aI G (r 14) 229 f, aI G (r 15) 1024 hp, aJ G (r 16) 1024 hh, aJ G (r 17) 1024 hl9] ++ tl) H := hP
        have hD : va_D A ([aJ G oq 1 fo, oC ox 7 [.ref oc, .ref ot, .ref oo, .ref oe, .ref op, .ref ocs, .ref ods, .long oh, .long ol], oC ot 6 [.int (nI dp), .long sh, .long sl], oC oc 1 [.ref owd, .long e0, .long f0], aI G owd 44 g, oC oo 2 [.ref om], aZ G om 512 mk, oC oe 4 [.long c0, .long h0, .long l0], oC op 5 [.ref ob, .int (nI nq)], aI G ob 229 f, aH G ocs 4 (fun j => some (kk j)), aQ G ods 256 dec, moC oy r th fi se (nI dp) sh sl (nI nq) oh ol w0 w1 w2, aI G (r 0) 256 ckS, aI G (r 1) 256 ckU, aI G (r 2) 176 (bN ff), aI G (r 3) 16 (bN gg), aI G (r 4) 16 (bN mm), aZ G (r 5) 256 ins, aZ G (r 6) 1024 sb, aI G (r 7) 4 per, aJ G (r 8) 4 ph, aJ G (r 9) 4 pl, aI G (r 10) 4 ss, aI G (r 11) 1024 sv, aI G (r 12) 1024 sw, aZ G (r 13) 512 mk2, aI G (r 14) 229 f, aI G (r 15) 1024 hp, aJ G (r 16) 1024 hh, aJ G (r 17) 1024 hl9] ++ tl) := hD
        refine W.widen (k := 60 + 4 * j + 4) (n := 20000 + 20 * j + 20) (Nat.add_le_add_left (Nat.le_of_ble_eq_true rfl) _) (Nat.add_le_add_left (Nat.le_of_ble_eq_true rfl) _) ?_
        refine W.eq (g2 := F0 m 1104 ls [.int (nI 2)]) rfl ?_
        refine lv_istore (lv' := [(5, .int (nI 2)), (0, .ref b), (1, .ref ox), (2, .ref oy), (3, .ref oq), (4, .int (nI (9 * j)))]) hx hb dLa_law_1104 hl (by decide) rfl (fun ls hl => ?_)
        refine lv_aload_n hx hb dLa_law_1106 rfl (lv_at hl 3 rfl) ?_
        refine lv_aload_n hx hb dLa_law_1107 rfl (lv_at hl 1 rfl) ?_
        refine lv_iload hx hb dLa_law_1108 (lv_at hl 5 rfl) ?_
        refine lv_iconst (v := nI 1) hx hb dLa_law_1110 (by decide) ?_
        refine lv_iadd hx hb dLa_law_1111 ?_
        refine ck_sld hx hb hX hbl hbA hS (9 * j + 1) (nI_add _ _) (by omega) (by omega) hy1 dLa_law_1112 ?_
        refine lv_aload_n hx hb dLa_law_1113 rfl (lv_at hl 1 rfl) ?_
        refine lv_iload hx hb dLa_law_1114 (lv_at hl 5 rfl) ?_
        refine lv_iconst (v := nI 2) hx hb dLa_law_1116 (by decide) ?_
        refine lv_iadd hx hb dLa_law_1117 ?_
        refine ck_sld hx hb hX hbl hbA hS (9 * j + 2) (nI_add _ _) (by omega) (by omega) hy2 dLa_law_1118 ?_
        refine lv_aload_n hx hb dLa_law_1119 rfl (lv_at hl 1 rfl) ?_
        refine lv_iload hx hb dLa_law_1120 (lv_at hl 5 rfl) ?_
        refine lv_iconst (v := nI 3) hx hb dLa_law_1122 (by decide) ?_
        refine lv_iadd hx hb dLa_law_1123 ?_
        refine ck_sld hx hb hX hbl hbA hS (9 * j + 3) (nI_add _ _) (by omega) (by omega) hy3 dLa_law_1124 ?_
        refine lv_i2l (v := y3.toInt64) hx hb dLa_law_1125 rfl ?_
        refine lv_bipush (v := nI 32) hx hb dLa_law_1126 (by decide) ?_
        refine lv_lshl (v := lsh y3.toInt64 (nI 32)) hx hb dLa_law_1128 rfl ?_
        refine lv_aload_n hx hb dLa_law_1129 rfl (lv_at hl 1 rfl) ?_
        refine lv_iload hx hb dLa_law_1130 (lv_at hl 5 rfl) ?_
        refine lv_iconst (v := nI 4) hx hb dLa_law_1132 (by decide) ?_
        refine lv_iadd hx hb dLa_law_1133 ?_
        refine ck_sld hx hb hX hbl hbA hS (9 * j + 4) (nI_add _ _) (by omega) (by omega) hy4 dLa_law_1134 ?_
        refine lv_i2l (v := y4.toInt64) hx hb dLa_law_1135 rfl ?_
        refine lv_ldc2 (v := lN 4294967295) hx hb hown (hts _ kkLa_80) dLa_law_1136 ?_
        refine lv_land hx hb dLa_law_1139 ?_
        refine lv_lor hx hb dLa_law_1140 ?_
        refine ck_rl (y := jLL y3 y4) rfl ?_
        refine lv_aload_n hx hb dLa_law_1141 rfl (lv_at hl 1 rfl) ?_
        refine lv_iload hx hb dLa_law_1142 (lv_at hl 5 rfl) ?_
        refine lv_iconst (v := nI 5) hx hb dLa_law_1144 (by decide) ?_
        refine lv_iadd hx hb dLa_law_1145 ?_
        refine ck_sld hx hb hX hbl hbA hS (9 * j + 5) (nI_add _ _) (by omega) (by omega) hy5 dLa_law_1146 ?_
        refine lv_i2l (v := y5.toInt64) hx hb dLa_law_1147 rfl ?_
        refine lv_bipush (v := nI 32) hx hb dLa_law_1148 (by decide) ?_
        refine lv_lshl (v := lsh y5.toInt64 (nI 32)) hx hb dLa_law_1150 rfl ?_
        refine lv_aload_n hx hb dLa_law_1151 rfl (lv_at hl 1 rfl) ?_
        refine lv_iload hx hb dLa_law_1152 (lv_at hl 5 rfl) ?_
        refine lv_bipush (v := nI 6) hx hb dLa_law_1154 (by decide) ?_
        refine lv_iadd hx hb dLa_law_1156 ?_
        refine ck_sld hx hb hX hbl hbA hS (9 * j + 6) (nI_add _ _) (by omega) (by omega) hy6 dLa_law_1157 ?_
        refine lv_i2l (v := y6.toInt64) hx hb dLa_law_1158 rfl ?_
        refine lv_ldc2 (v := lN 4294967295) hx hb hown (hts _ kkLa_80) dLa_law_1159 ?_
        refine lv_land hx hb dLa_law_1162 ?_
        refine lv_lor hx hb dLa_law_1163 ?_
        refine ck_rl (y := jLL y5 y6) rfl ?_
        refine lv_aload_n hx hb dLa_law_1164 rfl (lv_at hl 1 rfl) ?_
        refine lv_iload hx hb dLa_law_1165 (lv_at hl 5 rfl) ?_
        refine lv_bipush (v := nI 7) hx hb dLa_law_1167 (by decide) ?_
        refine lv_iadd hx hb dLa_law_1169 ?_
        refine ck_sld hx hb hX hbl hbA hS (9 * j + 7) (nI_add _ _) (by omega) (by omega) hy7 dLa_law_1170 ?_
        refine lv_i2l (v := y7.toInt64) hx hb dLa_law_1171 rfl ?_
        refine lv_bipush (v := nI 32) hx hb dLa_law_1172 (by decide) ?_
        refine lv_lshl (v := lsh y7.toInt64 (nI 32)) hx hb dLa_law_1174 rfl ?_
        refine lv_aload_n hx hb dLa_law_1175 rfl (lv_at hl 1 rfl) ?_
        refine lv_iload hx hb dLa_law_1176 (lv_at hl 5 rfl) ?_
        refine lv_bipush (v := nI 8) hx hb dLa_law_1178 (by decide) ?_
        refine lv_iadd hx hb dLa_law_1180 ?_
        refine ck_sld hx hb hX hbl hbA hS (9 * j + 8) (nI_add _ _) (by omega) (by omega) hy8 dLa_law_1181 ?_
        refine lv_i2l (v := y8.toInt64) hx hb dLa_law_1182 rfl ?_
        refine lv_ldc2 (v := lN 4294967295) hx hb hown (hts _ kkLa_80) dLa_law_1183 ?_
        refine lv_land hx hb dLa_law_1186 ?_
        refine lv_lor hx hb dLa_law_1187 ?_
        refine ck_rl (y := jLL y7 y8) rfl ?_
        refine clLa_128 (As := [.int (nI dd), .int (nI c4), .long (jLL y3 y4), .long (jLL y5 y6), .long (jLL y7 y8)]) (rest := []) hx hb hml hown hts (k_Mo_open_e2 l G oy r th fi se dp hdp sh sl (nI nq) oh ol w0 w1 w2 dd hdd c4 hc4 hp (by rw [hp9]; decide) (jLL y3 y4) (jLL y5 y6) (jLL y7 y8)) hG hA hP hD hS 12 rfl [12, 28] rfl rfl (fun _ => rfl) rfl hl.1 rfl (Nat.le_of_ble_eq_true rfl) ⟨Nat.le_of_ble_eq_true rfl, Nat.le_of_ble_eq_true rfl⟩ ⟨hcf.1, hcf.2⟩ dLa_law_1188 (fun _ H locs _ hP hD hS => ?_)
        have hP : va_P G.1 vwCl ([aJ G oq 1 fo, oC ox 7 [.ref oc, .ref ot, .ref oo, .ref oe, .ref op, .ref ocs, .ref ods, .long oh, .long ol], oC ot 6 [.int (nI dp), .long sh, .long sl], oC oc 1 [.ref owd, .long e0, .long f0], aI G owd 44 g, oC oo 2 [.ref om], aZ G om 512 mk, oC oe 4 [.long c0, .long h0, .long l0], oC op 5 [.ref ob, .int (nI nq)], aI G ob 229 f, aH G ocs 4 (fun j => some (kk j)), aQ G ods 256 dec, moC oy r (nI 2) fi se (nI dp) sh sl (nI nq) oh ol w0 w1 w2, aI G (r 0) 256 ckS, aI G (r 1) 256 ckU, aI G (r 2) 176 (bN ff), aI G (r 3) 16 (bN gg), aI G (r 4) 16 (bN mm), aZ G (r 5) 256 ins, aZ G (r 6) 1024 sb, aI G (r 7) 4 per, aJ G (r 8) 4 ph, aJ G (r 9) 4 pl, aI G (r 10) 4 ss, aI G (r 11) 1024 sv, aI G (r 12) 1024 sw, aZ G (r 13) 512 mk2, aI G (r 14) 229 f, aI G (r 15) 1024 hp, aJ G (r 16) 1024 hh, aJ G (r 17) 1024 hl9] ++ tl) H := hP
        have hD : va_D A ([aJ G oq 1 fo, oC ox 7 [.ref oc, .ref ot, .ref oo, .ref oe, .ref op, .ref ocs, .ref ods, .long oh, .long ol], oC ot 6 [.int (nI dp), .long sh, .long sl], oC oc 1 [.ref owd, .long e0, .long f0], aI G owd 44 g, oC oo 2 [.ref om], aZ G om 512 mk, oC oe 4 [.long c0, .long h0, .long l0], oC op 5 [.ref ob, .int (nI nq)], aI G ob 229 f, aH G ocs 4 (fun j => some (kk j)), aQ G ods 256 dec, moC oy r (nI 2) fi se (nI dp) sh sl (nI nq) oh ol w0 w1 w2, aI G (r 0) 256 ckS, aI G (r 1) 256 ckU, aI G (r 2) 176 (bN ff), aI G (r 3) 16 (bN gg), aI G (r 4) 16 (bN mm), aZ G (r 5) 256 ins, aZ G (r 6) 1024 sb, aI G (r 7) 4 per, aJ G (r 8) 4 ph, aJ G (r 9) 4 pl, aI G (r 10) 4 ss, aI G (r 11) 1024 sv, aI G (r 12) 1024 sw, aZ G (r 13) 512 mk2, aI G (r 14) 229 f, aI G (r 15) 1024 hp, aJ G (r 16) 1024 hh, aJ G (r 17) 1024 hl9] ++ tl) := hD
        refine W.cs (cells' := 60 + 4 * j + 4) (slots' := 20000 + 20 * j + 20) rfl rfl ?_
        refine W.eq (g2 := F0 m 1191 ls []) rfl ?_
        refine lv_aload_n hx hb dLa_law_1191 rfl (lv_at hl 3 rfl) ?_
        refine clLa_88 (As := []) (rest := []) hx hb hml hown hts (k_Mo_thrown l G oy r (nI 2) fi se (nI dp) sh sl (nI nq) oh ol w0 w1 w2) hG hA hP hD hS 12 rfl [12] rfl rfl (fun _ => rfl) rfl hl.1 rfl (Nat.le_of_ble_eq_true rfl) ⟨Nat.le_of_ble_eq_true rfl, Nat.le_of_ble_eq_true rfl⟩ ⟨hcf.1, hcf.2⟩ dLa_law_1192 (fun _ H locs _ hP hD hS => ?_)
        have hP : va_P G.1 vwCl ([aJ G oq 1 fo, oC ox 7 [.ref oc, .ref ot, .ref oo, .ref oe, .ref op, .ref ocs, .ref ods, .long oh, .long ol], oC ot 6 [.int (nI dp), .long sh, .long sl], oC oc 1 [.ref owd, .long e0, .long f0], aI G owd 44 g, oC oo 2 [.ref om], aZ G om 512 mk, oC oe 4 [.long c0, .long h0, .long l0], oC op 5 [.ref ob, .int (nI nq)], aI G ob 229 f, aH G ocs 4 (fun j => some (kk j)), aQ G ods 256 dec, moC oy r (nI 2) fi se (nI dp) sh sl (nI nq) oh ol w0 w1 w2, aI G (r 0) 256 ckS, aI G (r 1) 256 ckU, aI G (r 2) 176 (bN ff), aI G (r 3) 16 (bN gg), aI G (r 4) 16 (bN mm), aZ G (r 5) 256 ins, aZ G (r 6) 1024 sb, aI G (r 7) 4 per, aJ G (r 8) 4 ph, aJ G (r 9) 4 pl, aI G (r 10) 4 ss, aI G (r 11) 1024 sv, aI G (r 12) 1024 sw, aZ G (r 13) 512 mk2, aI G (r 14) 229 f, aI G (r 15) 1024 hp, aJ G (r 16) 1024 hh, aJ G (r 17) 1024 hl9] ++ tl) H := hP
        have hD : va_D A ([aJ G oq 1 fo, oC ox 7 [.ref oc, .ref ot, .ref oo, .ref oe, .ref op, .ref ocs, .ref ods, .long oh, .long ol], oC ot 6 [.int (nI dp), .long sh, .long sl], oC oc 1 [.ref owd, .long e0, .long f0], aI G owd 44 g, oC oo 2 [.ref om], aZ G om 512 mk, oC oe 4 [.long c0, .long h0, .long l0], oC op 5 [.ref ob, .int (nI nq)], aI G ob 229 f, aH G ocs 4 (fun j => some (kk j)), aQ G ods 256 dec, moC oy r (nI 2) fi se (nI dp) sh sl (nI nq) oh ol w0 w1 w2, aI G (r 0) 256 ckS, aI G (r 1) 256 ckU, aI G (r 2) 176 (bN ff), aI G (r 3) 16 (bN gg), aI G (r 4) 16 (bN mm), aZ G (r 5) 256 ins, aZ G (r 6) 1024 sb, aI G (r 7) 4 per, aJ G (r 8) 4 ph, aJ G (r 9) 4 pl, aI G (r 10) 4 ss, aI G (r 11) 1024 sv, aI G (r 12) 1024 sw, aZ G (r 13) 512 mk2, aI G (r 14) 229 f, aI G (r 15) 1024 hp, aJ G (r 16) 1024 hh, aJ G (r 17) 1024 hl9] ++ tl) := hD
        refine W.cs (cells' := 60 + 4 * j + 4) (slots' := 20000 + 20 * j + 20) rfl rfl ?_
        refine W.eq (g2 := F0 m 1195 ls [.int (nI 2)]) rfl ?_
        refine lv_iload hx hb dLa_law_1195 (lv_at hl 0 rfl) ?_
        refine lv_icmp_eq (tgt := 1202) hx hb dLa_law_1197 rfl (fun _ => ?_) (fun h => absurd (rfl) h)
        refine lv_goto (tgt := 1641) hx hb dLa_law_1202 rfl ?_
        refine lv_iinc (v := nI (9 * (j + 1))) (lv' := [(4, .int (nI (9 * (j + 1)))), (5, .int (nI 2)), (0, .ref b), (1, .ref ox), (2, .ref oy), (3, .ref oq)]) hx hb dLa_law_1641 hl (k := 5) rfl (nI_add (9 * j) 9) (by decide) rfl (fun ls hl => ?_)
        refine lv_goto (tgt := 23) hx hb dLa_law_1644 rfl ?_
        refine W.cs (cells' := 60 + 4 * (j + 1)) (slots' := 20000 + 20 * (j + 1)) (by omega) (by omega) ?_
        subst htl
        exact ih oh ol dp sh sl g e0 f0 mk c0 h0 l0 nq f dec q sz ch cl fs fv fw T fo (nI 2) fi se w0 w1 w2 ff gg mm ins sb per ph pl ss sv sw mk2 hp hh hl9 _ _ _ hdp1 hdp hR1 hR2 hR3 hR4 hP hD hS (lv_sub hl [2, 3, 4, 5, 0] rfl)
      · obtain ⟨dq, dh, dl, pf, hf, lf, T', hT⟩ := deR_sel hR3 hd256 ho
        have hR3 := deR_perm hT hR3
        obtain ⟨_, _, hpf⟩ := hR3.2.2.2.1 _ List.mem_cons_self
        dsimp only at hpf
        obtain ⟨hz1, hz2⟩ := hpf c4 hc4
        rcases hz2 with hz3 | ⟨hz3, hz4, hz5⟩
        · have hP := P_perm (pmD [aJ G oq 1 fo, oC ox 7 [.ref oc, .ref ot, .ref oo, .ref oe, .ref op, .ref ocs, .ref ods, .long oh, .long ol], oC ot 6 [.int (nI dp), .long sh, .long sl], oC oc 1 [.ref owd, .long e0, .long f0], aI G owd 44 g, oC oo 2 [.ref om], aZ G om 512 mk, oC oe 4 [.long c0, .long h0, .long l0], oC op 5 [.ref ob, .int (nI nq)], aI G ob 229 f, aH G ocs 4 (fun j => some (kk j)), aQ G ods 256 dec, moC oy r th fi se (nI dp) sh sl (nI nq) oh ol w0 w1 w2, aI G (r 0) 256 ckS, aI G (r 1) 256 ckU, aI G (r 2) 176 (bN ff), aI G (r 3) 16 (bN gg), aI G (r 4) 16 (bN mm), aZ G (r 5) 256 ins, aZ G (r 6) 1024 sb, aI G (r 7) 4 per, aJ G (r 8) 4 ph, aJ G (r 9) 4 pl, aI G (r 10) 4 ss, aI G (r 11) 1024 sv, aI G (r 12) 1024 sw, aZ G (r 13) 512 mk2, aI G (r 14) 229 f, aI G (r 15) 1024 hp, aJ G (r 16) 1024 hh, aJ G (r 17) 1024 hl9] G (chA (chB G kk ks kv kw q sz ch cl fs fv fw)) hT) hP
          have hD := D_perm (pmD [aJ G oq 1 fo, oC ox 7 [.ref oc, .ref ot, .ref oo, .ref oe, .ref op, .ref ocs, .ref ods, .long oh, .long ol], oC ot 6 [.int (nI dp), .long sh, .long sl], oC oc 1 [.ref owd, .long e0, .long f0], aI G owd 44 g, oC oo 2 [.ref om], aZ G om 512 mk, oC oe 4 [.long c0, .long h0, .long l0], oC op 5 [.ref ob, .int (nI nq)], aI G ob 229 f, aH G ocs 4 (fun j => some (kk j)), aQ G ods 256 dec, moC oy r th fi se (nI dp) sh sl (nI nq) oh ol w0 w1 w2, aI G (r 0) 256 ckS, aI G (r 1) 256 ckU, aI G (r 2) 176 (bN ff), aI G (r 3) 16 (bN gg), aI G (r 4) 16 (bN mm), aZ G (r 5) 256 ins, aZ G (r 6) 1024 sb, aI G (r 7) 4 per, aJ G (r 8) 4 ph, aJ G (r 9) 4 pl, aI G (r 10) 4 ss, aI G (r 11) 1024 sv, aI G (r 12) 1024 sw, aZ G (r 13) 512 mk2, aI G (r 14) 229 f, aI G (r 15) 1024 hp, aJ G (r 16) 1024 hh, aJ G (r 17) 1024 hl9] G (chA (chB G kk ks kv kw q sz ch cl fs fv fw)) hT) hD
          have hP : va_P G.1 vwCl ([aJ G oq 1 fo, oC ox 7 [.ref oc, .ref ot, .ref oo, .ref oe, .ref op, .ref ocs, .ref ods, .long oh, .long ol], oC ot 6 [.int (nI dp), .long sh, .long sl], oC oc 1 [.ref owd, .long e0, .long f0], aI G owd 44 g, oC oo 2 [.ref om], aZ G om 512 mk, oC oe 4 [.long c0, .long h0, .long l0], oC op 5 [.ref ob, .int (nI nq)], aI G ob 229 f, aH G ocs 4 (fun j => some (kk j)), aQ G ods 256 dec, moC oy r th fi se (nI dp) sh sl (nI nq) oh ol w0 w1 w2, aI G (r 0) 256 ckS, aI G (r 1) 256 ckU, aI G (r 2) 176 (bN ff), aI G (r 3) 16 (bN gg), aI G (r 4) 16 (bN mm), aZ G (r 5) 256 ins, aZ G (r 6) 1024 sb, aI G (r 7) 4 per, aJ G (r 8) 4 ph, aJ G (r 9) 4 pl, aI G (r 10) 4 ss, aI G (r 11) 1024 sv, aI G (r 12) 1024 sw, aZ G (r 13) 512 mk2, aI G (r 14) 229 f, aI G (r 15) 1024 hp, aJ G (r 16) 1024 hh, aJ G (r 17) 1024 hl9, oC od 3 [.ref dq, .ref dh, .ref dl], aI G dq 4 pf, aJ G dh 4 hf, aJ G dl 4 lf] ++ (chA (chB G kk ks kv kw q sz ch cl fs fv fw) ++ decW G T')) H := hP
          have hD : va_D A ([aJ G oq 1 fo, oC ox 7 [.ref oc, .ref ot, .ref oo, .ref oe, .ref op, .ref ocs, .ref ods, .long oh, .long ol], oC ot 6 [.int (nI dp), .long sh, .long sl], oC oc 1 [.ref owd, .long e0, .long f0], aI G owd 44 g, oC oo 2 [.ref om], aZ G om 512 mk, oC oe 4 [.long c0, .long h0, .long l0], oC op 5 [.ref ob, .int (nI nq)], aI G ob 229 f, aH G ocs 4 (fun j => some (kk j)), aQ G ods 256 dec, moC oy r th fi se (nI dp) sh sl (nI nq) oh ol w0 w1 w2, aI G (r 0) 256 ckS, aI G (r 1) 256 ckU, aI G (r 2) 176 (bN ff), aI G (r 3) 16 (bN gg), aI G (r 4) 16 (bN mm), aZ G (r 5) 256 ins, aZ G (r 6) 1024 sb, aI G (r 7) 4 per, aJ G (r 8) 4 ph, aJ G (r 9) 4 pl, aI G (r 10) 4 ss, aI G (r 11) 1024 sv, aI G (r 12) 1024 sw, aZ G (r 13) 512 mk2, aI G (r 14) 229 f, aI G (r 15) 1024 hp, aJ G (r 16) 1024 hh, aJ G (r 17) 1024 hl9, oC od 3 [.ref dq, .ref dh, .ref dl], aI G dq 4 pf, aJ G dh 4 hf, aJ G dl 4 lf] ++ (chA (chB G kk ks kv kw q sz ch cl fs fv fw) ++ decW G T')) := hD
          generalize htl : (chA (chB G kk ks kv kw q sz ch cl fs fv fw) ++ decW G T') = tl at hP hD
          refine lv_aload_n hx hb dLa_law_1019 rfl (lv_at hl 1 rfl) ?_
          refine lv_aload_n hx hb dLa_law_1020 rfl (lv_at hl 0 rfl) ?_
          refine lv_iload hx hb dLa_law_1021 (lv_at hl 4 rfl) ?_
          refine lv_iconst (v := nI 1) hx hb dLa_law_1023 (by decide) ?_
          refine lv_iadd hx hb dLa_law_1024 ?_
          refine ck_sld hx hb hX hbl hbA hS (9 * j + 1) (nI_add _ _) (by omega) (by omega) hy1 dLa_law_1025 ?_
          refine lv_aload_n hx hb dLa_law_1026 rfl (lv_at hl 0 rfl) ?_
          refine lv_iload hx hb dLa_law_1027 (lv_at hl 4 rfl) ?_
          refine lv_iconst (v := nI 2) hx hb dLa_law_1029 (by decide) ?_
          refine lv_iadd hx hb dLa_law_1030 ?_
          refine ck_sld hx hb hX hbl hbA hS (9 * j + 2) (nI_add _ _) (by omega) (by omega) hy2 dLa_law_1031 ?_
          refine lv_aload_n hx hb dLa_law_1032 rfl (lv_at hl 0 rfl) ?_
          refine lv_iload hx hb dLa_law_1033 (lv_at hl 4 rfl) ?_
          refine lv_iconst (v := nI 3) hx hb dLa_law_1035 (by decide) ?_
          refine lv_iadd hx hb dLa_law_1036 ?_
          refine ck_sld hx hb hX hbl hbA hS (9 * j + 3) (nI_add _ _) (by omega) (by omega) hy3 dLa_law_1037 ?_
          refine lv_i2l (v := y3.toInt64) hx hb dLa_law_1038 rfl ?_
          refine lv_bipush (v := nI 32) hx hb dLa_law_1039 (by decide) ?_
          refine lv_lshl (v := lsh y3.toInt64 (nI 32)) hx hb dLa_law_1041 rfl ?_
          refine lv_aload_n hx hb dLa_law_1042 rfl (lv_at hl 0 rfl) ?_
          refine lv_iload hx hb dLa_law_1043 (lv_at hl 4 rfl) ?_
          refine lv_iconst (v := nI 4) hx hb dLa_law_1045 (by decide) ?_
          refine lv_iadd hx hb dLa_law_1046 ?_
          refine ck_sld hx hb hX hbl hbA hS (9 * j + 4) (nI_add _ _) (by omega) (by omega) hy4 dLa_law_1047 ?_
          refine lv_i2l (v := y4.toInt64) hx hb dLa_law_1048 rfl ?_
          refine lv_ldc2 (v := lN 4294967295) hx hb hown (hts _ kkLa_80) dLa_law_1049 ?_
          refine lv_land hx hb dLa_law_1052 ?_
          refine lv_lor hx hb dLa_law_1053 ?_
          refine ck_rl (y := jLL y3 y4) rfl ?_
          refine lv_aload_n hx hb dLa_law_1054 rfl (lv_at hl 0 rfl) ?_
          refine lv_iload hx hb dLa_law_1055 (lv_at hl 4 rfl) ?_
          refine lv_iconst (v := nI 5) hx hb dLa_law_1057 (by decide) ?_
          refine lv_iadd hx hb dLa_law_1058 ?_
          refine ck_sld hx hb hX hbl hbA hS (9 * j + 5) (nI_add _ _) (by omega) (by omega) hy5 dLa_law_1059 ?_
          refine lv_i2l (v := y5.toInt64) hx hb dLa_law_1060 rfl ?_
          refine lv_bipush (v := nI 32) hx hb dLa_law_1061 (by decide) ?_
          refine lv_lshl (v := lsh y5.toInt64 (nI 32)) hx hb dLa_law_1063 rfl ?_
          refine lv_aload_n hx hb dLa_law_1064 rfl (lv_at hl 0 rfl) ?_
          refine lv_iload hx hb dLa_law_1065 (lv_at hl 4 rfl) ?_
          refine lv_bipush (v := nI 6) hx hb dLa_law_1067 (by decide) ?_
          refine lv_iadd hx hb dLa_law_1069 ?_
          refine ck_sld hx hb hX hbl hbA hS (9 * j + 6) (nI_add _ _) (by omega) (by omega) hy6 dLa_law_1070 ?_
          refine lv_i2l (v := y6.toInt64) hx hb dLa_law_1071 rfl ?_
          refine lv_ldc2 (v := lN 4294967295) hx hb hown (hts _ kkLa_80) dLa_law_1072 ?_
          refine lv_land hx hb dLa_law_1075 ?_
          refine lv_lor hx hb dLa_law_1076 ?_
          refine ck_rl (y := jLL y5 y6) rfl ?_
          refine lv_aload_n hx hb dLa_law_1077 rfl (lv_at hl 0 rfl) ?_
          refine lv_iload hx hb dLa_law_1078 (lv_at hl 4 rfl) ?_
          refine lv_bipush (v := nI 7) hx hb dLa_law_1080 (by decide) ?_
          refine lv_iadd hx hb dLa_law_1082 ?_
          refine ck_sld hx hb hX hbl hbA hS (9 * j + 7) (nI_add _ _) (by omega) (by omega) hy7 dLa_law_1083 ?_
          refine lv_i2l (v := y7.toInt64) hx hb dLa_law_1084 rfl ?_
          refine lv_bipush (v := nI 32) hx hb dLa_law_1085 (by decide) ?_
          refine lv_lshl (v := lsh y7.toInt64 (nI 32)) hx hb dLa_law_1087 rfl ?_
          refine lv_aload_n hx hb dLa_law_1088 rfl (lv_at hl 0 rfl) ?_
          refine lv_iload hx hb dLa_law_1089 (lv_at hl 4 rfl) ?_
          refine lv_bipush (v := nI 8) hx hb dLa_law_1091 (by decide) ?_
          refine lv_iadd hx hb dLa_law_1093 ?_
          refine ck_sld hx hb hX hbl hbA hS (9 * j + 8) (nI_add _ _) (by omega) (by omega) hy8 dLa_law_1094 ?_
          refine lv_i2l (v := y8.toInt64) hx hb dLa_law_1095 rfl ?_
          refine lv_ldc2 (v := lN 4294967295) hx hb hown (hts _ kkLa_80) dLa_law_1096 ?_
          refine lv_land hx hb dLa_law_1099 ?_
          refine lv_lor hx hb dLa_law_1100 ?_
          refine ck_rl (y := jLL y7 y8) rfl ?_
          refine clLa_125 (As := [.ref ox, .int (nI dd), .int (nI c4), .long (jLL y3 y4), .long (jLL y5 y6), .long (jLL y7 y8)]) (rest := []) hx hb hml hown hts (w_La_open_ISE (wi := [oC ox 7 [.ref oc, .ref ot, .ref oo, .ref oe, .ref op, .ref ocs, .ref ods, .long oh, .long ol], oC ot 6 [.int (nI dp), .long sh, .long sl], aQ G ods 256 dec, oC od 3 [.ref dq, .ref dh, .ref dl], aI G dq 4 pf]) l G ox (nI dd) (nI c4) (jLL y3 y4) (jLL y5 y6) (jLL y7 y8) (x_CK_open4 l hl0 G ox oc ot oo oe op ocs ods oh ol dp hdp sh sl dec dd hdd c4 od dq dh dl hc4 ho pf (hz1.trans hz3) (jLL y3 y4) (jLL y5 y6) (jLL y7 y8)) 0 rfl [0, 1, 2, 3, 4] rfl rfl rfl) hG hA hP hD hS [1, 2, 11, 31, 32] rfl rfl (fun _ => rfl) rfl hl.1 rfl (Nat.le_of_ble_eq_true rfl) ⟨Nat.le_of_ble_eq_true rfl, Nat.le_of_ble_eq_true rfl⟩ ⟨Nat.le_trans (Nat.add_le_add_left (Nat.le_of_ble_eq_true rfl) _) hcf.1, Nat.le_trans (Nat.add_le_add_left (Nat.le_of_ble_eq_true rfl) _) hcf.2⟩ dLa_law_1101 (fun _ H locs _ hP hD hS => ?_)
          have hP : va_P G.1 vwCl ([aJ G oq 1 fo, oC ox 7 [.ref oc, .ref ot, .ref oo, .ref oe, .ref op, .ref ocs, .ref ods, .long oh, .long ol], oC ot 6 [.int (nI dp), .long sh, .long sl], oC oc 1 [.ref owd, .long e0, .long f0], aI G owd 44 g, oC oo 2 [.ref om], aZ G om 512 mk, oC oe 4 [.long c0, .long h0, .long l0], oC op 5 [.ref ob, .int (nI nq)], aI G ob 229 f, aH G ocs 4 (fun j => some (kk j)), aQ G ods 256 dec, moC oy r th fi se (nI dp) sh sl (nI nq) oh ol w0 w1 w2, aI G (r 0) 256 ckS, aI G (r 1) 256 ckU, aI G (r 2) 176 (bN ff), aI G (r 3) 16 (bN gg), aI G (r 4) 16 (bN mm), aZ G (r 5) 256 ins, aZ G (r 6) 1024 sb, aI G (r 7) 4 per, aJ G (r 8) 4 ph, aJ G (r 9) 4 pl, aI G (r 10) 4 ss, aI G (r 11) 1024 sv, aI G (r 12) 1024 sw, aZ G (r 13) 512 mk2, aI G (r 14) 229 f, aI G (r 15) 1024 hp, aJ G (r 16) 1024 hh, aJ G (r 17) 1024 hl9, oC od 3 [.ref dq, .ref dh, .ref dl], aI G dq 4 pf, aJ G dh 4 hf, aJ G dl 4 lf] ++ tl) H := hP
          have hD : va_D A ([aJ G oq 1 fo, oC ox 7 [.ref oc, .ref ot, .ref oo, .ref oe, .ref op, .ref ocs, .ref ods, .long oh, .long ol], oC ot 6 [.int (nI dp), .long sh, .long sl], oC oc 1 [.ref owd, .long e0, .long f0], aI G owd 44 g, oC oo 2 [.ref om], aZ G om 512 mk, oC oe 4 [.long c0, .long h0, .long l0], oC op 5 [.ref ob, .int (nI nq)], aI G ob 229 f, aH G ocs 4 (fun j => some (kk j)), aQ G ods 256 dec, moC oy r th fi se (nI dp) sh sl (nI nq) oh ol w0 w1 w2, aI G (r 0) 256 ckS, aI G (r 1) 256 ckU, aI G (r 2) 176 (bN ff), aI G (r 3) 16 (bN gg), aI G (r 4) 16 (bN mm), aZ G (r 5) 256 ins, aZ G (r 6) 1024 sb, aI G (r 7) 4 per, aJ G (r 8) 4 ph, aJ G (r 9) 4 pl, aI G (r 10) 4 ss, aI G (r 11) 1024 sv, aI G (r 12) 1024 sw, aZ G (r 13) 512 mk2, aI G (r 14) 229 f, aI G (r 15) 1024 hp, aJ G (r 16) 1024 hh, aJ G (r 17) 1024 hl9, oC od 3 [.ref dq, .ref dh, .ref dl], aI G dq 4 pf, aJ G dh 4 hf, aJ G dl 4 lf] ++ tl) := hD
          refine W.widen (k := 60 + 4 * j + 4) (n := 20000 + 20 * j + 20) (Nat.add_le_add_left (Nat.le_of_ble_eq_true rfl) _) (Nat.add_le_add_left (Nat.le_of_ble_eq_true rfl) _) ?_
          refine W.eq (g2 := F0 m 1104 ls [.int (nI 2)]) rfl ?_
          refine lv_istore (lv' := [(5, .int (nI 2)), (0, .ref b), (1, .ref ox), (2, .ref oy), (3, .ref oq), (4, .int (nI (9 * j)))]) hx hb dLa_law_1104 hl (by decide) rfl (fun ls hl => ?_)
          refine lv_aload_n hx hb dLa_law_1106 rfl (lv_at hl 3 rfl) ?_
          refine lv_aload_n hx hb dLa_law_1107 rfl (lv_at hl 1 rfl) ?_
          refine lv_iload hx hb dLa_law_1108 (lv_at hl 5 rfl) ?_
          refine lv_iconst (v := nI 1) hx hb dLa_law_1110 (by decide) ?_
          refine lv_iadd hx hb dLa_law_1111 ?_
          refine ck_sld hx hb hX hbl hbA hS (9 * j + 1) (nI_add _ _) (by omega) (by omega) hy1 dLa_law_1112 ?_
          refine lv_aload_n hx hb dLa_law_1113 rfl (lv_at hl 1 rfl) ?_
          refine lv_iload hx hb dLa_law_1114 (lv_at hl 5 rfl) ?_
          refine lv_iconst (v := nI 2) hx hb dLa_law_1116 (by decide) ?_
          refine lv_iadd hx hb dLa_law_1117 ?_
          refine ck_sld hx hb hX hbl hbA hS (9 * j + 2) (nI_add _ _) (by omega) (by omega) hy2 dLa_law_1118 ?_
          refine lv_aload_n hx hb dLa_law_1119 rfl (lv_at hl 1 rfl) ?_
          refine lv_iload hx hb dLa_law_1120 (lv_at hl 5 rfl) ?_
          refine lv_iconst (v := nI 3) hx hb dLa_law_1122 (by decide) ?_
          refine lv_iadd hx hb dLa_law_1123 ?_
          refine ck_sld hx hb hX hbl hbA hS (9 * j + 3) (nI_add _ _) (by omega) (by omega) hy3 dLa_law_1124 ?_
          refine lv_i2l (v := y3.toInt64) hx hb dLa_law_1125 rfl ?_
          refine lv_bipush (v := nI 32) hx hb dLa_law_1126 (by decide) ?_
          refine lv_lshl (v := lsh y3.toInt64 (nI 32)) hx hb dLa_law_1128 rfl ?_
          refine lv_aload_n hx hb dLa_law_1129 rfl (lv_at hl 1 rfl) ?_
          refine lv_iload hx hb dLa_law_1130 (lv_at hl 5 rfl) ?_
          refine lv_iconst (v := nI 4) hx hb dLa_law_1132 (by decide) ?_
          refine lv_iadd hx hb dLa_law_1133 ?_
          refine ck_sld hx hb hX hbl hbA hS (9 * j + 4) (nI_add _ _) (by omega) (by omega) hy4 dLa_law_1134 ?_
          refine lv_i2l (v := y4.toInt64) hx hb dLa_law_1135 rfl ?_
          refine lv_ldc2 (v := lN 4294967295) hx hb hown (hts _ kkLa_80) dLa_law_1136 ?_
          refine lv_land hx hb dLa_law_1139 ?_
          refine lv_lor hx hb dLa_law_1140 ?_
          refine ck_rl (y := jLL y3 y4) rfl ?_
          refine lv_aload_n hx hb dLa_law_1141 rfl (lv_at hl 1 rfl) ?_
          refine lv_iload hx hb dLa_law_1142 (lv_at hl 5 rfl) ?_
          refine lv_iconst (v := nI 5) hx hb dLa_law_1144 (by decide) ?_
          refine lv_iadd hx hb dLa_law_1145 ?_
          refine ck_sld hx hb hX hbl hbA hS (9 * j + 5) (nI_add _ _) (by omega) (by omega) hy5 dLa_law_1146 ?_
          refine lv_i2l (v := y5.toInt64) hx hb dLa_law_1147 rfl ?_
          refine lv_bipush (v := nI 32) hx hb dLa_law_1148 (by decide) ?_
          refine lv_lshl (v := lsh y5.toInt64 (nI 32)) hx hb dLa_law_1150 rfl ?_
          refine lv_aload_n hx hb dLa_law_1151 rfl (lv_at hl 1 rfl) ?_
          refine lv_iload hx hb dLa_law_1152 (lv_at hl 5 rfl) ?_
          refine lv_bipush (v := nI 6) hx hb dLa_law_1154 (by decide) ?_
          refine lv_iadd hx hb dLa_law_1156 ?_
          refine ck_sld hx hb hX hbl hbA hS (9 * j + 6) (nI_add _ _) (by omega) (by omega) hy6 dLa_law_1157 ?_
          refine lv_i2l (v := y6.toInt64) hx hb dLa_law_1158 rfl ?_
          refine lv_ldc2 (v := lN 4294967295) hx hb hown (hts _ kkLa_80) dLa_law_1159 ?_
          refine lv_land hx hb dLa_law_1162 ?_
          refine lv_lor hx hb dLa_law_1163 ?_
          refine ck_rl (y := jLL y5 y6) rfl ?_
          refine lv_aload_n hx hb dLa_law_1164 rfl (lv_at hl 1 rfl) ?_
          refine lv_iload hx hb dLa_law_1165 (lv_at hl 5 rfl) ?_
          refine lv_bipush (v := nI 7) hx hb dLa_law_1167 (by decide) ?_
          refine lv_iadd hx hb dLa_law_1169 ?_
          refine ck_sld hx hb hX hbl hbA hS (9 * j + 7) (nI_add _ _) (by omega) (by omega) hy7 dLa_law_1170 ?_
          refine lv_i2l (v := y7.toInt64) hx hb dLa_law_1171 rfl ?_
          refine lv_bipush (v := nI 32) hx hb dLa_law_1172 (by decide) ?_
          refine lv_lshl (v := lsh y7.toInt64 (nI 32)) hx hb dLa_law_1174 rfl ?_
          refine lv_aload_n hx hb dLa_law_1175 rfl (lv_at hl 1 rfl) ?_
          refine lv_iload hx hb dLa_law_1176 (lv_at hl 5 rfl) ?_
          refine lv_bipush (v := nI 8) hx hb dLa_law_1178 (by decide) ?_
          refine lv_iadd hx hb dLa_law_1180 ?_
          refine ck_sld hx hb hX hbl hbA hS (9 * j + 8) (nI_add _ _) (by omega) (by omega) hy8 dLa_law_1181 ?_
          refine lv_i2l (v := y8.toInt64) hx hb dLa_law_1182 rfl ?_
          refine lv_ldc2 (v := lN 4294967295) hx hb hown (hts _ kkLa_80) dLa_law_1183 ?_
          refine lv_land hx hb dLa_law_1186 ?_
          refine lv_lor hx hb dLa_law_1187 ?_
          refine ck_rl (y := jLL y7 y8) rfl ?_
          refine clLa_128 (As := [.int (nI dd), .int (nI c4), .long (jLL y3 y4), .long (jLL y5 y6), .long (jLL y7 y8)]) (rest := []) hx hb hml hown hts (k_Mo_open_e2 l G oy r th fi se dp hdp sh sl (nI nq) oh ol w0 w1 w2 dd hdd c4 hc4 hp (by rw [hz3]; decide) (jLL y3 y4) (jLL y5 y6) (jLL y7 y8)) hG hA hP hD hS 12 rfl [12, 28] rfl rfl (fun _ => rfl) rfl hl.1 rfl (Nat.le_of_ble_eq_true rfl) ⟨Nat.le_of_ble_eq_true rfl, Nat.le_of_ble_eq_true rfl⟩ ⟨hcf.1, hcf.2⟩ dLa_law_1188 (fun _ H locs _ hP hD hS => ?_)
          have hP : va_P G.1 vwCl ([aJ G oq 1 fo, oC ox 7 [.ref oc, .ref ot, .ref oo, .ref oe, .ref op, .ref ocs, .ref ods, .long oh, .long ol], oC ot 6 [.int (nI dp), .long sh, .long sl], oC oc 1 [.ref owd, .long e0, .long f0], aI G owd 44 g, oC oo 2 [.ref om], aZ G om 512 mk, oC oe 4 [.long c0, .long h0, .long l0], oC op 5 [.ref ob, .int (nI nq)], aI G ob 229 f, aH G ocs 4 (fun j => some (kk j)), aQ G ods 256 dec, moC oy r (nI 2) fi se (nI dp) sh sl (nI nq) oh ol w0 w1 w2, aI G (r 0) 256 ckS, aI G (r 1) 256 ckU, aI G (r 2) 176 (bN ff), aI G (r 3) 16 (bN gg), aI G (r 4) 16 (bN mm), aZ G (r 5) 256 ins, aZ G (r 6) 1024 sb, aI G (r 7) 4 per, aJ G (r 8) 4 ph, aJ G (r 9) 4 pl, aI G (r 10) 4 ss, aI G (r 11) 1024 sv, aI G (r 12) 1024 sw, aZ G (r 13) 512 mk2, aI G (r 14) 229 f, aI G (r 15) 1024 hp, aJ G (r 16) 1024 hh, aJ G (r 17) 1024 hl9, oC od 3 [.ref dq, .ref dh, .ref dl], aI G dq 4 pf, aJ G dh 4 hf, aJ G dl 4 lf] ++ tl) H := hP
          have hD : va_D A ([aJ G oq 1 fo, oC ox 7 [.ref oc, .ref ot, .ref oo, .ref oe, .ref op, .ref ocs, .ref ods, .long oh, .long ol], oC ot 6 [.int (nI dp), .long sh, .long sl], oC oc 1 [.ref owd, .long e0, .long f0], aI G owd 44 g, oC oo 2 [.ref om], aZ G om 512 mk, oC oe 4 [.long c0, .long h0, .long l0], oC op 5 [.ref ob, .int (nI nq)], aI G ob 229 f, aH G ocs 4 (fun j => some (kk j)), aQ G ods 256 dec, moC oy r (nI 2) fi se (nI dp) sh sl (nI nq) oh ol w0 w1 w2, aI G (r 0) 256 ckS, aI G (r 1) 256 ckU, aI G (r 2) 176 (bN ff), aI G (r 3) 16 (bN gg), aI G (r 4) 16 (bN mm), aZ G (r 5) 256 ins, aZ G (r 6) 1024 sb, aI G (r 7) 4 per, aJ G (r 8) 4 ph, aJ G (r 9) 4 pl, aI G (r 10) 4 ss, aI G (r 11) 1024 sv, aI G (r 12) 1024 sw, aZ G (r 13) 512 mk2, aI G (r 14) 229 f, aI G (r 15) 1024 hp, aJ G (r 16) 1024 hh, aJ G (r 17) 1024 hl9, oC od 3 [.ref dq, .ref dh, .ref dl], aI G dq 4 pf, aJ G dh 4 hf, aJ G dl 4 lf] ++ tl) := hD
          refine W.cs (cells' := 60 + 4 * j + 4) (slots' := 20000 + 20 * j + 20) rfl rfl ?_
          refine W.eq (g2 := F0 m 1191 ls []) rfl ?_
          refine lv_aload_n hx hb dLa_law_1191 rfl (lv_at hl 3 rfl) ?_
          refine clLa_88 (As := []) (rest := []) hx hb hml hown hts (k_Mo_thrown l G oy r (nI 2) fi se (nI dp) sh sl (nI nq) oh ol w0 w1 w2) hG hA hP hD hS 12 rfl [12] rfl rfl (fun _ => rfl) rfl hl.1 rfl (Nat.le_of_ble_eq_true rfl) ⟨Nat.le_of_ble_eq_true rfl, Nat.le_of_ble_eq_true rfl⟩ ⟨hcf.1, hcf.2⟩ dLa_law_1192 (fun _ H locs _ hP hD hS => ?_)
          have hP : va_P G.1 vwCl ([aJ G oq 1 fo, oC ox 7 [.ref oc, .ref ot, .ref oo, .ref oe, .ref op, .ref ocs, .ref ods, .long oh, .long ol], oC ot 6 [.int (nI dp), .long sh, .long sl], oC oc 1 [.ref owd, .long e0, .long f0], aI G owd 44 g, oC oo 2 [.ref om], aZ G om 512 mk, oC oe 4 [.long c0, .long h0, .long l0], oC op 5 [.ref ob, .int (nI nq)], aI G ob 229 f, aH G ocs 4 (fun j => some (kk j)), aQ G ods 256 dec, moC oy r (nI 2) fi se (nI dp) sh sl (nI nq) oh ol w0 w1 w2, aI G (r 0) 256 ckS, aI G (r 1) 256 ckU, aI G (r 2) 176 (bN ff), aI G (r 3) 16 (bN gg), aI G (r 4) 16 (bN mm), aZ G (r 5) 256 ins, aZ G (r 6) 1024 sb, aI G (r 7) 4 per, aJ G (r 8) 4 ph, aJ G (r 9) 4 pl, aI G (r 10) 4 ss, aI G (r 11) 1024 sv, aI G (r 12) 1024 sw, aZ G (r 13) 512 mk2, aI G (r 14) 229 f, aI G (r 15) 1024 hp, aJ G (r 16) 1024 hh, aJ G (r 17) 1024 hl9, oC od 3 [.ref dq, .ref dh, .ref dl], aI G dq 4 pf, aJ G dh 4 hf, aJ G dl 4 lf] ++ tl) H := hP
          have hD : va_D A ([aJ G oq 1 fo, oC ox 7 [.ref oc, .ref ot, .ref oo, .ref oe, .ref op, .ref ocs, .ref ods, .long oh, .long ol], oC ot 6 [.int (nI dp), .long sh, .long sl], oC oc 1 [.ref owd, .long e0, .long f0], aI G owd 44 g, oC oo 2 [.ref om], aZ G om 512 mk, oC oe 4 [.long c0, .long h0, .long l0], oC op 5 [.ref ob, .int (nI nq)], aI G ob 229 f, aH G ocs 4 (fun j => some (kk j)), aQ G ods 256 dec, moC oy r (nI 2) fi se (nI dp) sh sl (nI nq) oh ol w0 w1 w2, aI G (r 0) 256 ckS, aI G (r 1) 256 ckU, aI G (r 2) 176 (bN ff), aI G (r 3) 16 (bN gg), aI G (r 4) 16 (bN mm), aZ G (r 5) 256 ins, aZ G (r 6) 1024 sb, aI G (r 7) 4 per, aJ G (r 8) 4 ph, aJ G (r 9) 4 pl, aI G (r 10) 4 ss, aI G (r 11) 1024 sv, aI G (r 12) 1024 sw, aZ G (r 13) 512 mk2, aI G (r 14) 229 f, aI G (r 15) 1024 hp, aJ G (r 16) 1024 hh, aJ G (r 17) 1024 hl9, oC od 3 [.ref dq, .ref dh, .ref dl], aI G dq 4 pf, aJ G dh 4 hf, aJ G dl 4 lf] ++ tl) := hD
          refine W.cs (cells' := 60 + 4 * j + 4) (slots' := 20000 + 20 * j + 20) rfl rfl ?_
          refine W.eq (g2 := F0 m 1195 ls [.int (nI 2)]) rfl ?_
          refine lv_iload hx hb dLa_law_1195 (lv_at hl 0 rfl) ?_
          refine lv_icmp_eq (tgt := 1202) hx hb dLa_law_1197 rfl (fun _ => ?_) (fun h => absurd (rfl) h)
          refine lv_goto (tgt := 1641) hx hb dLa_law_1202 rfl ?_
          refine lv_iinc (v := nI (9 * (j + 1))) (lv' := [(4, .int (nI (9 * (j + 1)))), (5, .int (nI 2)), (0, .ref b), (1, .ref ox), (2, .ref oy), (3, .ref oq)]) hx hb dLa_law_1641 hl (k := 5) rfl (nI_add (9 * j) 9) (by decide) rfl (fun ls hl => ?_)
          refine lv_goto (tgt := 23) hx hb dLa_law_1644 rfl ?_
          refine W.cs (cells' := 60 + 4 * (j + 1)) (slots' := 20000 + 20 * (j + 1)) (by omega) (by omega) ?_
          subst htl
          have hP := P_perm (pmD' [aJ G oq 1 fo, oC ox 7 [.ref oc, .ref ot, .ref oo, .ref oe, .ref op, .ref ocs, .ref ods, .long oh, .long ol], oC ot 6 [.int (nI dp), .long sh, .long sl], oC oc 1 [.ref owd, .long e0, .long f0], aI G owd 44 g, oC oo 2 [.ref om], aZ G om 512 mk, oC oe 4 [.long c0, .long h0, .long l0], oC op 5 [.ref ob, .int (nI nq)], aI G ob 229 f, aH G ocs 4 (fun j => some (kk j)), aQ G ods 256 dec, moC oy r (nI 2) fi se (nI dp) sh sl (nI nq) oh ol w0 w1 w2, aI G (r 0) 256 ckS, aI G (r 1) 256 ckU, aI G (r 2) 176 (bN ff), aI G (r 3) 16 (bN gg), aI G (r 4) 16 (bN mm), aZ G (r 5) 256 ins, aZ G (r 6) 1024 sb, aI G (r 7) 4 per, aJ G (r 8) 4 ph, aJ G (r 9) 4 pl, aI G (r 10) 4 ss, aI G (r 11) 1024 sv, aI G (r 12) 1024 sw, aZ G (r 13) 512 mk2, aI G (r 14) 229 f, aI G (r 15) 1024 hp, aJ G (r 16) 1024 hh, aJ G (r 17) 1024 hl9] G (chA (chB G kk ks kv kw q sz ch cl fs fv fw)) (dd, od, dq, dh, dl, pf, hf, lf) T') hP
          have hD := D_perm (pmD' [aJ G oq 1 fo, oC ox 7 [.ref oc, .ref ot, .ref oo, .ref oe, .ref op, .ref ocs, .ref ods, .long oh, .long ol], oC ot 6 [.int (nI dp), .long sh, .long sl], oC oc 1 [.ref owd, .long e0, .long f0], aI G owd 44 g, oC oo 2 [.ref om], aZ G om 512 mk, oC oe 4 [.long c0, .long h0, .long l0], oC op 5 [.ref ob, .int (nI nq)], aI G ob 229 f, aH G ocs 4 (fun j => some (kk j)), aQ G ods 256 dec, moC oy r (nI 2) fi se (nI dp) sh sl (nI nq) oh ol w0 w1 w2, aI G (r 0) 256 ckS, aI G (r 1) 256 ckU, aI G (r 2) 176 (bN ff), aI G (r 3) 16 (bN gg), aI G (r 4) 16 (bN mm), aZ G (r 5) 256 ins, aZ G (r 6) 1024 sb, aI G (r 7) 4 per, aJ G (r 8) 4 ph, aJ G (r 9) 4 pl, aI G (r 10) 4 ss, aI G (r 11) 1024 sv, aI G (r 12) 1024 sw, aZ G (r 13) 512 mk2, aI G (r 14) 229 f, aI G (r 15) 1024 hp, aJ G (r 16) 1024 hh, aJ G (r 17) 1024 hl9] G (chA (chB G kk ks kv kw q sz ch cl fs fv fw)) (dd, od, dq, dh, dl, pf, hf, lf) T') hD
          exact ih oh ol dp sh sl g e0 f0 mk c0 h0 l0 nq f dec q sz ch cl fs fv fw ((dd, od, dq, dh, dl, pf, hf, lf) :: T') fo (nI 2) fi se w0 w1 w2 ff gg mm ins sb per ph pl ss sv sw mk2 hp hh hl9 _ _ _ hdp1 hdp hR1 hR2 hR3 hR4 hP hD hS (lv_sub hl [2, 3, 4, 5, 0] rfl)
        · have hP := P_perm (pmD [aJ G oq 1 fo, oC ox 7 [.ref oc, .ref ot, .ref oo, .ref oe, .ref op, .ref ocs, .ref ods, .long oh, .long ol], oC ot 6 [.int (nI dp), .long sh, .long sl], oC oc 1 [.ref owd, .long e0, .long f0], aI G owd 44 g, oC oo 2 [.ref om], aZ G om 512 mk, oC oe 4 [.long c0, .long h0, .long l0], oC op 5 [.ref ob, .int (nI nq)], aI G ob 229 f, aH G ocs 4 (fun j => some (kk j)), aQ G ods 256 dec, moC oy r th fi se (nI dp) sh sl (nI nq) oh ol w0 w1 w2, aI G (r 0) 256 ckS, aI G (r 1) 256 ckU, aI G (r 2) 176 (bN ff), aI G (r 3) 16 (bN gg), aI G (r 4) 16 (bN mm), aZ G (r 5) 256 ins, aZ G (r 6) 1024 sb, aI G (r 7) 4 per, aJ G (r 8) 4 ph, aJ G (r 9) 4 pl, aI G (r 10) 4 ss, aI G (r 11) 1024 sv, aI G (r 12) 1024 sw, aZ G (r 13) 512 mk2, aI G (r 14) 229 f, aI G (r 15) 1024 hp, aJ G (r 16) 1024 hh, aJ G (r 17) 1024 hl9] G (chA (chB G kk ks kv kw q sz ch cl fs fv fw)) hT) hP
          have hD := D_perm (pmD [aJ G oq 1 fo, oC ox 7 [.ref oc, .ref ot, .ref oo, .ref oe, .ref op, .ref ocs, .ref ods, .long oh, .long ol], oC ot 6 [.int (nI dp), .long sh, .long sl], oC oc 1 [.ref owd, .long e0, .long f0], aI G owd 44 g, oC oo 2 [.ref om], aZ G om 512 mk, oC oe 4 [.long c0, .long h0, .long l0], oC op 5 [.ref ob, .int (nI nq)], aI G ob 229 f, aH G ocs 4 (fun j => some (kk j)), aQ G ods 256 dec, moC oy r th fi se (nI dp) sh sl (nI nq) oh ol w0 w1 w2, aI G (r 0) 256 ckS, aI G (r 1) 256 ckU, aI G (r 2) 176 (bN ff), aI G (r 3) 16 (bN gg), aI G (r 4) 16 (bN mm), aZ G (r 5) 256 ins, aZ G (r 6) 1024 sb, aI G (r 7) 4 per, aJ G (r 8) 4 ph, aJ G (r 9) 4 pl, aI G (r 10) 4 ss, aI G (r 11) 1024 sv, aI G (r 12) 1024 sw, aZ G (r 13) 512 mk2, aI G (r 14) 229 f, aI G (r 15) 1024 hp, aJ G (r 16) 1024 hh, aJ G (r 17) 1024 hl9] G (chA (chB G kk ks kv kw q sz ch cl fs fv fw)) hT) hD
          have hP : va_P G.1 vwCl ([aJ G oq 1 fo, oC ox 7 [.ref oc, .ref ot, .ref oo, .ref oe, .ref op, .ref ocs, .ref ods, .long oh, .long ol], oC ot 6 [.int (nI dp), .long sh, .long sl], oC oc 1 [.ref owd, .long e0, .long f0], aI G owd 44 g, oC oo 2 [.ref om], aZ G om 512 mk, oC oe 4 [.long c0, .long h0, .long l0], oC op 5 [.ref ob, .int (nI nq)], aI G ob 229 f, aH G ocs 4 (fun j => some (kk j)), aQ G ods 256 dec, moC oy r th fi se (nI dp) sh sl (nI nq) oh ol w0 w1 w2, aI G (r 0) 256 ckS, aI G (r 1) 256 ckU, aI G (r 2) 176 (bN ff), aI G (r 3) 16 (bN gg), aI G (r 4) 16 (bN mm), aZ G (r 5) 256 ins, aZ G (r 6) 1024 sb, aI G (r 7) 4 per, aJ G (r 8) 4 ph, aJ G (r 9) 4 pl, aI G (r 10) 4 ss, aI G (r 11) 1024 sv, aI G (r 12) 1024 sw, aZ G (r 13) 512 mk2, aI G (r 14) 229 f, aI G (r 15) 1024 hp, aJ G (r 16) 1024 hh, aJ G (r 17) 1024 hl9, oC od 3 [.ref dq, .ref dh, .ref dl], aI G dq 4 pf, aJ G dh 4 hf, aJ G dl 4 lf] ++ (chA (chB G kk ks kv kw q sz ch cl fs fv fw) ++ decW G T')) H := hP
          have hD : va_D A ([aJ G oq 1 fo, oC ox 7 [.ref oc, .ref ot, .ref oo, .ref oe, .ref op, .ref ocs, .ref ods, .long oh, .long ol], oC ot 6 [.int (nI dp), .long sh, .long sl], oC oc 1 [.ref owd, .long e0, .long f0], aI G owd 44 g, oC oo 2 [.ref om], aZ G om 512 mk, oC oe 4 [.long c0, .long h0, .long l0], oC op 5 [.ref ob, .int (nI nq)], aI G ob 229 f, aH G ocs 4 (fun j => some (kk j)), aQ G ods 256 dec, moC oy r th fi se (nI dp) sh sl (nI nq) oh ol w0 w1 w2, aI G (r 0) 256 ckS, aI G (r 1) 256 ckU, aI G (r 2) 176 (bN ff), aI G (r 3) 16 (bN gg), aI G (r 4) 16 (bN mm), aZ G (r 5) 256 ins, aZ G (r 6) 1024 sb, aI G (r 7) 4 per, aJ G (r 8) 4 ph, aJ G (r 9) 4 pl, aI G (r 10) 4 ss, aI G (r 11) 1024 sv, aI G (r 12) 1024 sw, aZ G (r 13) 512 mk2, aI G (r 14) 229 f, aI G (r 15) 1024 hp, aJ G (r 16) 1024 hh, aJ G (r 17) 1024 hl9, oC od 3 [.ref dq, .ref dh, .ref dl], aI G dq 4 pf, aJ G dh 4 hf, aJ G dl 4 lf] ++ (chA (chB G kk ks kv kw q sz ch cl fs fv fw) ++ decW G T')) := hD
          generalize htl : (chA (chB G kk ks kv kw q sz ch cl fs fv fw) ++ decW G T') = tl at hP hD
          refine lv_aload_n hx hb dLa_law_1019 rfl (lv_at hl 1 rfl) ?_
          refine lv_aload_n hx hb dLa_law_1020 rfl (lv_at hl 0 rfl) ?_
          refine lv_iload hx hb dLa_law_1021 (lv_at hl 4 rfl) ?_
          refine lv_iconst (v := nI 1) hx hb dLa_law_1023 (by decide) ?_
          refine lv_iadd hx hb dLa_law_1024 ?_
          refine ck_sld hx hb hX hbl hbA hS (9 * j + 1) (nI_add _ _) (by omega) (by omega) hy1 dLa_law_1025 ?_
          refine lv_aload_n hx hb dLa_law_1026 rfl (lv_at hl 0 rfl) ?_
          refine lv_iload hx hb dLa_law_1027 (lv_at hl 4 rfl) ?_
          refine lv_iconst (v := nI 2) hx hb dLa_law_1029 (by decide) ?_
          refine lv_iadd hx hb dLa_law_1030 ?_
          refine ck_sld hx hb hX hbl hbA hS (9 * j + 2) (nI_add _ _) (by omega) (by omega) hy2 dLa_law_1031 ?_
          refine lv_aload_n hx hb dLa_law_1032 rfl (lv_at hl 0 rfl) ?_
          refine lv_iload hx hb dLa_law_1033 (lv_at hl 4 rfl) ?_
          refine lv_iconst (v := nI 3) hx hb dLa_law_1035 (by decide) ?_
          refine lv_iadd hx hb dLa_law_1036 ?_
          refine ck_sld hx hb hX hbl hbA hS (9 * j + 3) (nI_add _ _) (by omega) (by omega) hy3 dLa_law_1037 ?_
          refine lv_i2l (v := y3.toInt64) hx hb dLa_law_1038 rfl ?_
          refine lv_bipush (v := nI 32) hx hb dLa_law_1039 (by decide) ?_
          refine lv_lshl (v := lsh y3.toInt64 (nI 32)) hx hb dLa_law_1041 rfl ?_
          refine lv_aload_n hx hb dLa_law_1042 rfl (lv_at hl 0 rfl) ?_
          refine lv_iload hx hb dLa_law_1043 (lv_at hl 4 rfl) ?_
          refine lv_iconst (v := nI 4) hx hb dLa_law_1045 (by decide) ?_
          refine lv_iadd hx hb dLa_law_1046 ?_
          refine ck_sld hx hb hX hbl hbA hS (9 * j + 4) (nI_add _ _) (by omega) (by omega) hy4 dLa_law_1047 ?_
          refine lv_i2l (v := y4.toInt64) hx hb dLa_law_1048 rfl ?_
          refine lv_ldc2 (v := lN 4294967295) hx hb hown (hts _ kkLa_80) dLa_law_1049 ?_
          refine lv_land hx hb dLa_law_1052 ?_
          refine lv_lor hx hb dLa_law_1053 ?_
          refine ck_rl (y := jLL y3 y4) rfl ?_
          refine lv_aload_n hx hb dLa_law_1054 rfl (lv_at hl 0 rfl) ?_
          refine lv_iload hx hb dLa_law_1055 (lv_at hl 4 rfl) ?_
          refine lv_iconst (v := nI 5) hx hb dLa_law_1057 (by decide) ?_
          refine lv_iadd hx hb dLa_law_1058 ?_
          refine ck_sld hx hb hX hbl hbA hS (9 * j + 5) (nI_add _ _) (by omega) (by omega) hy5 dLa_law_1059 ?_
          refine lv_i2l (v := y5.toInt64) hx hb dLa_law_1060 rfl ?_
          refine lv_bipush (v := nI 32) hx hb dLa_law_1061 (by decide) ?_
          refine lv_lshl (v := lsh y5.toInt64 (nI 32)) hx hb dLa_law_1063 rfl ?_
          refine lv_aload_n hx hb dLa_law_1064 rfl (lv_at hl 0 rfl) ?_
          refine lv_iload hx hb dLa_law_1065 (lv_at hl 4 rfl) ?_
          refine lv_bipush (v := nI 6) hx hb dLa_law_1067 (by decide) ?_
          refine lv_iadd hx hb dLa_law_1069 ?_
          refine ck_sld hx hb hX hbl hbA hS (9 * j + 6) (nI_add _ _) (by omega) (by omega) hy6 dLa_law_1070 ?_
          refine lv_i2l (v := y6.toInt64) hx hb dLa_law_1071 rfl ?_
          refine lv_ldc2 (v := lN 4294967295) hx hb hown (hts _ kkLa_80) dLa_law_1072 ?_
          refine lv_land hx hb dLa_law_1075 ?_
          refine lv_lor hx hb dLa_law_1076 ?_
          refine ck_rl (y := jLL y5 y6) rfl ?_
          refine lv_aload_n hx hb dLa_law_1077 rfl (lv_at hl 0 rfl) ?_
          refine lv_iload hx hb dLa_law_1078 (lv_at hl 4 rfl) ?_
          refine lv_bipush (v := nI 7) hx hb dLa_law_1080 (by decide) ?_
          refine lv_iadd hx hb dLa_law_1082 ?_
          refine ck_sld hx hb hX hbl hbA hS (9 * j + 7) (nI_add _ _) (by omega) (by omega) hy7 dLa_law_1083 ?_
          refine lv_i2l (v := y7.toInt64) hx hb dLa_law_1084 rfl ?_
          refine lv_bipush (v := nI 32) hx hb dLa_law_1085 (by decide) ?_
          refine lv_lshl (v := lsh y7.toInt64 (nI 32)) hx hb dLa_law_1087 rfl ?_
          refine lv_aload_n hx hb dLa_law_1088 rfl (lv_at hl 0 rfl) ?_
          refine lv_iload hx hb dLa_law_1089 (lv_at hl 4 rfl) ?_
          refine lv_bipush (v := nI 8) hx hb dLa_law_1091 (by decide) ?_
          refine lv_iadd hx hb dLa_law_1093 ?_
          refine ck_sld hx hb hX hbl hbA hS (9 * j + 8) (nI_add _ _) (by omega) (by omega) hy8 dLa_law_1094 ?_
          refine lv_i2l (v := y8.toInt64) hx hb dLa_law_1095 rfl ?_
          refine lv_ldc2 (v := lN 4294967295) hx hb hown (hts _ kkLa_80) dLa_law_1096 ?_
          refine lv_land hx hb dLa_law_1099 ?_
          refine lv_lor hx hb dLa_law_1100 ?_
          refine ck_rl (y := jLL y7 y8) rfl ?_
          refine clLa_125 (As := [.ref ox, .int (nI dd), .int (nI c4), .long (jLL y3 y4), .long (jLL y5 y6), .long (jLL y7 y8)]) (rest := []) hx hb hml hown hts (w_La_open l G ox (nI dd) (nI c4) (jLL y3 y4) (jLL y5 y6) (jLL y7 y8) (k_CK_open l G ox oc ot oo oe op ocs ods oh ol dp hdp sh sl dec dd hdd owd g e0 f0 c4 od dq dh dl hc4 ho pf hf lf (fun z => hz3 (by rw [← hz1, z]; decide)) (jLL y3 y4) (jLL y5 y6) (jLL y7 y8)) rfl (fun _ => rfl)) hG hA hP hD hS [1, 3, 4, 2, 11, 31, 32, 33, 34] rfl rfl (fun _ => rfl) rfl hl.1 rfl (Nat.le_of_ble_eq_true rfl) ⟨Nat.le_of_ble_eq_true rfl, Nat.le_of_ble_eq_true rfl⟩ ⟨Nat.le_trans (Nat.add_le_add_left (Nat.le_of_ble_eq_true rfl) _) hcf.1, Nat.le_trans (Nat.add_le_add_left (Nat.le_of_ble_eq_true rfl) _) hcf.2⟩ dLa_law_1101 (fun _ H locs _ hP hD hS => ?_)
          have hP : va_P G.1 vwCl ([aJ G oq 1 fo, oC ox 7 [.ref oc, .ref ot, .ref oo, .ref oe, .ref op, .ref ocs, .ref ods, .long ((jLL y5 y6) ^^^ (cE (hf c4) (lf c4) (lN 65536 * (nI c4).toInt64 + (pf c4).toInt64) (jLL y3 y4)).1), .long ((jLL y7 y8) ^^^ (cE (hf c4) (lf c4) (lN 65536 * (nI c4).toInt64 + (pf c4).toInt64) (jLL y3 y4)).2)], oC ot 6 [.int (nI dp), .long sh, .long sl], oC oc 1 [.ref owd, .long ((cE (hf c4) (lf c4) (lN 65536 * (nI c4).toInt64 + (pf c4).toInt64) (jLL y3 y4)).1), .long ((cE (hf c4) (lf c4) (lN 65536 * (nI c4).toInt64 + (pf c4).toInt64) (jLL y3 y4)).2)], aI G owd 44 (jKey (hf c4) (lf c4)), oC oo 2 [.ref om], aZ G om 512 mk, oC oe 4 [.long c0, .long h0, .long l0], oC op 5 [.ref ob, .int (nI nq)], aI G ob 229 f, aH G ocs 4 (fun j => some (kk j)), aQ G ods 256 dec, moC oy r th fi se (nI dp) sh sl (nI nq) oh ol w0 w1 w2, aI G (r 0) 256 ckS, aI G (r 1) 256 ckU, aI G (r 2) 176 (bN ff), aI G (r 3) 16 (bN gg), aI G (r 4) 16 (bN mm), aZ G (r 5) 256 ins, aZ G (r 6) 1024 sb, aI G (r 7) 4 per, aJ G (r 8) 4 ph, aJ G (r 9) 4 pl, aI G (r 10) 4 ss, aI G (r 11) 1024 sv, aI G (r 12) 1024 sw, aZ G (r 13) 512 mk2, aI G (r 14) 229 f, aI G (r 15) 1024 hp, aJ G (r 16) 1024 hh, aJ G (r 17) 1024 hl9, oC od 3 [.ref dq, .ref dh, .ref dl], aI G dq 4 pf, aJ G dh 4 hf, aJ G dl 4 lf] ++ tl) H := hP
          have hD : va_D A ([aJ G oq 1 fo, oC ox 7 [.ref oc, .ref ot, .ref oo, .ref oe, .ref op, .ref ocs, .ref ods, .long ((jLL y5 y6) ^^^ (cE (hf c4) (lf c4) (lN 65536 * (nI c4).toInt64 + (pf c4).toInt64) (jLL y3 y4)).1), .long ((jLL y7 y8) ^^^ (cE (hf c4) (lf c4) (lN 65536 * (nI c4).toInt64 + (pf c4).toInt64) (jLL y3 y4)).2)], oC ot 6 [.int (nI dp), .long sh, .long sl], oC oc 1 [.ref owd, .long ((cE (hf c4) (lf c4) (lN 65536 * (nI c4).toInt64 + (pf c4).toInt64) (jLL y3 y4)).1), .long ((cE (hf c4) (lf c4) (lN 65536 * (nI c4).toInt64 + (pf c4).toInt64) (jLL y3 y4)).2)], aI G owd 44 (jKey (hf c4) (lf c4)), oC oo 2 [.ref om], aZ G om 512 mk, oC oe 4 [.long c0, .long h0, .long l0], oC op 5 [.ref ob, .int (nI nq)], aI G ob 229 f, aH G ocs 4 (fun j => some (kk j)), aQ G ods 256 dec, moC oy r th fi se (nI dp) sh sl (nI nq) oh ol w0 w1 w2, aI G (r 0) 256 ckS, aI G (r 1) 256 ckU, aI G (r 2) 176 (bN ff), aI G (r 3) 16 (bN gg), aI G (r 4) 16 (bN mm), aZ G (r 5) 256 ins, aZ G (r 6) 1024 sb, aI G (r 7) 4 per, aJ G (r 8) 4 ph, aJ G (r 9) 4 pl, aI G (r 10) 4 ss, aI G (r 11) 1024 sv, aI G (r 12) 1024 sw, aZ G (r 13) 512 mk2, aI G (r 14) 229 f, aI G (r 15) 1024 hp, aJ G (r 16) 1024 hh, aJ G (r 17) 1024 hl9, oC od 3 [.ref dq, .ref dh, .ref dl], aI G dq 4 pf, aJ G dh 4 hf, aJ G dl 4 lf] ++ tl) := hD
          refine W.widen (k := 60 + 4 * j + 4) (n := 20000 + 20 * j + 20) (Nat.add_le_add_left (Nat.le_of_ble_eq_true rfl) _) (Nat.add_le_add_left (Nat.le_of_ble_eq_true rfl) _) ?_
          refine W.eq (g2 := F0 m 1104 ls [.int (nI 0)]) rfl ?_
          refine lv_istore (lv' := [(5, .int (nI 0)), (0, .ref b), (1, .ref ox), (2, .ref oy), (3, .ref oq), (4, .int (nI (9 * j)))]) hx hb dLa_law_1104 hl (by decide) rfl (fun ls hl => ?_)
          refine lv_aload_n hx hb dLa_law_1106 rfl (lv_at hl 3 rfl) ?_
          refine lv_aload_n hx hb dLa_law_1107 rfl (lv_at hl 1 rfl) ?_
          refine lv_iload hx hb dLa_law_1108 (lv_at hl 5 rfl) ?_
          refine lv_iconst (v := nI 1) hx hb dLa_law_1110 (by decide) ?_
          refine lv_iadd hx hb dLa_law_1111 ?_
          refine ck_sld hx hb hX hbl hbA hS (9 * j + 1) (nI_add _ _) (by omega) (by omega) hy1 dLa_law_1112 ?_
          refine lv_aload_n hx hb dLa_law_1113 rfl (lv_at hl 1 rfl) ?_
          refine lv_iload hx hb dLa_law_1114 (lv_at hl 5 rfl) ?_
          refine lv_iconst (v := nI 2) hx hb dLa_law_1116 (by decide) ?_
          refine lv_iadd hx hb dLa_law_1117 ?_
          refine ck_sld hx hb hX hbl hbA hS (9 * j + 2) (nI_add _ _) (by omega) (by omega) hy2 dLa_law_1118 ?_
          refine lv_aload_n hx hb dLa_law_1119 rfl (lv_at hl 1 rfl) ?_
          refine lv_iload hx hb dLa_law_1120 (lv_at hl 5 rfl) ?_
          refine lv_iconst (v := nI 3) hx hb dLa_law_1122 (by decide) ?_
          refine lv_iadd hx hb dLa_law_1123 ?_
          refine ck_sld hx hb hX hbl hbA hS (9 * j + 3) (nI_add _ _) (by omega) (by omega) hy3 dLa_law_1124 ?_
          refine lv_i2l (v := y3.toInt64) hx hb dLa_law_1125 rfl ?_
          refine lv_bipush (v := nI 32) hx hb dLa_law_1126 (by decide) ?_
          refine lv_lshl (v := lsh y3.toInt64 (nI 32)) hx hb dLa_law_1128 rfl ?_
          refine lv_aload_n hx hb dLa_law_1129 rfl (lv_at hl 1 rfl) ?_
          refine lv_iload hx hb dLa_law_1130 (lv_at hl 5 rfl) ?_
          refine lv_iconst (v := nI 4) hx hb dLa_law_1132 (by decide) ?_
          refine lv_iadd hx hb dLa_law_1133 ?_
          refine ck_sld hx hb hX hbl hbA hS (9 * j + 4) (nI_add _ _) (by omega) (by omega) hy4 dLa_law_1134 ?_
          refine lv_i2l (v := y4.toInt64) hx hb dLa_law_1135 rfl ?_
          refine lv_ldc2 (v := lN 4294967295) hx hb hown (hts _ kkLa_80) dLa_law_1136 ?_
          refine lv_land hx hb dLa_law_1139 ?_
          refine lv_lor hx hb dLa_law_1140 ?_
          refine ck_rl (y := jLL y3 y4) rfl ?_
          refine lv_aload_n hx hb dLa_law_1141 rfl (lv_at hl 1 rfl) ?_
          refine lv_iload hx hb dLa_law_1142 (lv_at hl 5 rfl) ?_
          refine lv_iconst (v := nI 5) hx hb dLa_law_1144 (by decide) ?_
          refine lv_iadd hx hb dLa_law_1145 ?_
          refine ck_sld hx hb hX hbl hbA hS (9 * j + 5) (nI_add _ _) (by omega) (by omega) hy5 dLa_law_1146 ?_
          refine lv_i2l (v := y5.toInt64) hx hb dLa_law_1147 rfl ?_
          refine lv_bipush (v := nI 32) hx hb dLa_law_1148 (by decide) ?_
          refine lv_lshl (v := lsh y5.toInt64 (nI 32)) hx hb dLa_law_1150 rfl ?_
          refine lv_aload_n hx hb dLa_law_1151 rfl (lv_at hl 1 rfl) ?_
          refine lv_iload hx hb dLa_law_1152 (lv_at hl 5 rfl) ?_
          refine lv_bipush (v := nI 6) hx hb dLa_law_1154 (by decide) ?_
          refine lv_iadd hx hb dLa_law_1156 ?_
          refine ck_sld hx hb hX hbl hbA hS (9 * j + 6) (nI_add _ _) (by omega) (by omega) hy6 dLa_law_1157 ?_
          refine lv_i2l (v := y6.toInt64) hx hb dLa_law_1158 rfl ?_
          refine lv_ldc2 (v := lN 4294967295) hx hb hown (hts _ kkLa_80) dLa_law_1159 ?_
          refine lv_land hx hb dLa_law_1162 ?_
          refine lv_lor hx hb dLa_law_1163 ?_
          refine ck_rl (y := jLL y5 y6) rfl ?_
          refine lv_aload_n hx hb dLa_law_1164 rfl (lv_at hl 1 rfl) ?_
          refine lv_iload hx hb dLa_law_1165 (lv_at hl 5 rfl) ?_
          refine lv_bipush (v := nI 7) hx hb dLa_law_1167 (by decide) ?_
          refine lv_iadd hx hb dLa_law_1169 ?_
          refine ck_sld hx hb hX hbl hbA hS (9 * j + 7) (nI_add _ _) (by omega) (by omega) hy7 dLa_law_1170 ?_
          refine lv_i2l (v := y7.toInt64) hx hb dLa_law_1171 rfl ?_
          refine lv_bipush (v := nI 32) hx hb dLa_law_1172 (by decide) ?_
          refine lv_lshl (v := lsh y7.toInt64 (nI 32)) hx hb dLa_law_1174 rfl ?_
          refine lv_aload_n hx hb dLa_law_1175 rfl (lv_at hl 1 rfl) ?_
          refine lv_iload hx hb dLa_law_1176 (lv_at hl 5 rfl) ?_
          refine lv_bipush (v := nI 8) hx hb dLa_law_1178 (by decide) ?_
          refine lv_iadd hx hb dLa_law_1180 ?_
          refine ck_sld hx hb hX hbl hbA hS (9 * j + 8) (nI_add _ _) (by omega) (by omega) hy8 dLa_law_1181 ?_
          refine lv_i2l (v := y8.toInt64) hx hb dLa_law_1182 rfl ?_
          refine lv_ldc2 (v := lN 4294967295) hx hb hown (hts _ kkLa_80) dLa_law_1183 ?_
          refine lv_land hx hb dLa_law_1186 ?_
          refine lv_lor hx hb dLa_law_1187 ?_
          refine ck_rl (y := jLL y7 y8) rfl ?_
          refine clLa_128 (As := [.int (nI dd), .int (nI c4), .long (jLL y3 y4), .long (jLL y5 y6), .long (jLL y7 y8)]) (rest := []) hx hb hml hown hts (k_Mo_open l G oy r th fi se dp hdp sh sl (nI nq) oh ol w0 w1 w2 dd hdd c4 hc4 ff gg mm hp hh hl9 hz3 (jLL y3 y4) (jLL y5 y6) (jLL y7 y8)) hG hA hP hD hS 12 rfl [12, 13, 15, 16, 17, 28, 29, 30] rfl rfl (fun _ => rfl) rfl hl.1 rfl (Nat.le_of_ble_eq_true rfl) ⟨Nat.le_of_ble_eq_true rfl, Nat.le_of_ble_eq_true rfl⟩ ⟨hcf.1, hcf.2⟩ dLa_law_1188 (fun u2 H locs _ hP hD hS => ?_)
          have hP : va_P G.1 vwCl ([aJ G oq 1 fo, oC ox 7 [.ref oc, .ref ot, .ref oo, .ref oe, .ref op, .ref ocs, .ref ods, .long ((jLL y5 y6) ^^^ (cE (hf c4) (lf c4) (lN 65536 * (nI c4).toInt64 + (pf c4).toInt64) (jLL y3 y4)).1), .long ((jLL y7 y8) ^^^ (cE (hf c4) (lf c4) (lN 65536 * (nI c4).toInt64 + (pf c4).toInt64) (jLL y3 y4)).2)], oC ot 6 [.int (nI dp), .long sh, .long sl], oC oc 1 [.ref owd, .long ((cE (hf c4) (lf c4) (lN 65536 * (nI c4).toInt64 + (pf c4).toInt64) (jLL y3 y4)).1), .long ((cE (hf c4) (lf c4) (lN 65536 * (nI c4).toInt64 + (pf c4).toInt64) (jLL y3 y4)).2)], aI G owd 44 (jKey (hf c4) (lf c4)), oC oo 2 [.ref om], aZ G om 512 mk, oC oe 4 [.long c0, .long h0, .long l0], oC op 5 [.ref ob, .int (nI nq)], aI G ob 229 f, aH G ocs 4 (fun j => some (kk j)), aQ G ods 256 dec, moC oy r (nI 0) ((cE (hh (256 * c4 + dd)) (hl9 (256 * c4 + dd)) (lN 65536 * (nI c4).toInt64 + (hp (256 * c4 + dd)).toInt64) (jLL y3 y4)).1) ((cE (hh (256 * c4 + dd)) (hl9 (256 * c4 + dd)) (lN 65536 * (nI c4).toInt64 + (hp (256 * c4 + dd)).toInt64) (jLL y3 y4)).2) (nI dp) sh sl (nI nq) ((jLL y5 y6) ^^^ (cE (hh (256 * c4 + dd)) (hl9 (256 * c4 + dd)) (lN 65536 * (nI c4).toInt64 + (hp (256 * c4 + dd)).toInt64) (jLL y3 y4)).1) ((jLL y7 y8) ^^^ (cE (hh (256 * c4 + dd)) (hl9 (256 * c4 + dd)) (lN 65536 * (nI c4).toInt64 + (hp (256 * c4 + dd)).toInt64) (jLL y3 y4)).2) w0 w1 w2, aI G (r 0) 256 ckS, aI G (r 1) 256 ckU, aI G (r 2) 176 (bN u2.1), aI G (r 3) 16 (bN u2.2.1), aI G (r 4) 16 (bN u2.2.2), aZ G (r 5) 256 ins, aZ G (r 6) 1024 sb, aI G (r 7) 4 per, aJ G (r 8) 4 ph, aJ G (r 9) 4 pl, aI G (r 10) 4 ss, aI G (r 11) 1024 sv, aI G (r 12) 1024 sw, aZ G (r 13) 512 mk2, aI G (r 14) 229 f, aI G (r 15) 1024 hp, aJ G (r 16) 1024 hh, aJ G (r 17) 1024 hl9, oC od 3 [.ref dq, .ref dh, .ref dl], aI G dq 4 pf, aJ G dh 4 hf, aJ G dl 4 lf] ++ tl) H := hP
          have hD : va_D A ([aJ G oq 1 fo, oC ox 7 [.ref oc, .ref ot, .ref oo, .ref oe, .ref op, .ref ocs, .ref ods, .long ((jLL y5 y6) ^^^ (cE (hf c4) (lf c4) (lN 65536 * (nI c4).toInt64 + (pf c4).toInt64) (jLL y3 y4)).1), .long ((jLL y7 y8) ^^^ (cE (hf c4) (lf c4) (lN 65536 * (nI c4).toInt64 + (pf c4).toInt64) (jLL y3 y4)).2)], oC ot 6 [.int (nI dp), .long sh, .long sl], oC oc 1 [.ref owd, .long ((cE (hf c4) (lf c4) (lN 65536 * (nI c4).toInt64 + (pf c4).toInt64) (jLL y3 y4)).1), .long ((cE (hf c4) (lf c4) (lN 65536 * (nI c4).toInt64 + (pf c4).toInt64) (jLL y3 y4)).2)], aI G owd 44 (jKey (hf c4) (lf c4)), oC oo 2 [.ref om], aZ G om 512 mk, oC oe 4 [.long c0, .long h0, .long l0], oC op 5 [.ref ob, .int (nI nq)], aI G ob 229 f, aH G ocs 4 (fun j => some (kk j)), aQ G ods 256 dec, moC oy r (nI 0) ((cE (hh (256 * c4 + dd)) (hl9 (256 * c4 + dd)) (lN 65536 * (nI c4).toInt64 + (hp (256 * c4 + dd)).toInt64) (jLL y3 y4)).1) ((cE (hh (256 * c4 + dd)) (hl9 (256 * c4 + dd)) (lN 65536 * (nI c4).toInt64 + (hp (256 * c4 + dd)).toInt64) (jLL y3 y4)).2) (nI dp) sh sl (nI nq) ((jLL y5 y6) ^^^ (cE (hh (256 * c4 + dd)) (hl9 (256 * c4 + dd)) (lN 65536 * (nI c4).toInt64 + (hp (256 * c4 + dd)).toInt64) (jLL y3 y4)).1) ((jLL y7 y8) ^^^ (cE (hh (256 * c4 + dd)) (hl9 (256 * c4 + dd)) (lN 65536 * (nI c4).toInt64 + (hp (256 * c4 + dd)).toInt64) (jLL y3 y4)).2) w0 w1 w2, aI G (r 0) 256 ckS, aI G (r 1) 256 ckU, aI G (r 2) 176 (bN u2.1), aI G (r 3) 16 (bN u2.2.1), aI G (r 4) 16 (bN u2.2.2), aZ G (r 5) 256 ins, aZ G (r 6) 1024 sb, aI G (r 7) 4 per, aJ G (r 8) 4 ph, aJ G (r 9) 4 pl, aI G (r 10) 4 ss, aI G (r 11) 1024 sv, aI G (r 12) 1024 sw, aZ G (r 13) 512 mk2, aI G (r 14) 229 f, aI G (r 15) 1024 hp, aJ G (r 16) 1024 hh, aJ G (r 17) 1024 hl9, oC od 3 [.ref dq, .ref dh, .ref dl], aI G dq 4 pf, aJ G dh 4 hf, aJ G dl 4 lf] ++ tl) := hD
          refine W.cs (cells' := 60 + 4 * j + 4) (slots' := 20000 + 20 * j + 20) rfl rfl ?_
          refine W.eq (g2 := F0 m 1191 ls []) rfl ?_
          rw [← hz1, ← hz4, ← hz5] at hP hD
          have hP : va_P G.1 vwCl ([aJ G oq 1 fo, oC ox 7 [.ref oc, .ref ot, .ref oo, .ref oe, .ref op, .ref ocs, .ref ods, .long ((jLL y5 y6) ^^^ (cE (hf c4) (lf c4) (lN 65536 * (nI c4).toInt64 + (pf c4).toInt64) (jLL y3 y4)).1), .long ((jLL y7 y8) ^^^ (cE (hf c4) (lf c4) (lN 65536 * (nI c4).toInt64 + (pf c4).toInt64) (jLL y3 y4)).2)], oC ot 6 [.int (nI dp), .long sh, .long sl], oC oc 1 [.ref owd, .long ((cE (hf c4) (lf c4) (lN 65536 * (nI c4).toInt64 + (pf c4).toInt64) (jLL y3 y4)).1), .long ((cE (hf c4) (lf c4) (lN 65536 * (nI c4).toInt64 + (pf c4).toInt64) (jLL y3 y4)).2)], aI G owd 44 (jKey (hf c4) (lf c4)), oC oo 2 [.ref om], aZ G om 512 mk, oC oe 4 [.long c0, .long h0, .long l0], oC op 5 [.ref ob, .int (nI nq)], aI G ob 229 f, aH G ocs 4 (fun j => some (kk j)), aQ G ods 256 dec, moC oy r (nI 0) ((cE (hf c4) (lf c4) (lN 65536 * (nI c4).toInt64 + (pf c4).toInt64) (jLL y3 y4)).1) ((cE (hf c4) (lf c4) (lN 65536 * (nI c4).toInt64 + (pf c4).toInt64) (jLL y3 y4)).2) (nI dp) sh sl (nI nq) ((jLL y5 y6) ^^^ (cE (hf c4) (lf c4) (lN 65536 * (nI c4).toInt64 + (pf c4).toInt64) (jLL y3 y4)).1) ((jLL y7 y8) ^^^ (cE (hf c4) (lf c4) (lN 65536 * (nI c4).toInt64 + (pf c4).toInt64) (jLL y3 y4)).2) w0 w1 w2, aI G (r 0) 256 ckS, aI G (r 1) 256 ckU, aI G (r 2) 176 (bN u2.1), aI G (r 3) 16 (bN u2.2.1), aI G (r 4) 16 (bN u2.2.2), aZ G (r 5) 256 ins, aZ G (r 6) 1024 sb, aI G (r 7) 4 per, aJ G (r 8) 4 ph, aJ G (r 9) 4 pl, aI G (r 10) 4 ss, aI G (r 11) 1024 sv, aI G (r 12) 1024 sw, aZ G (r 13) 512 mk2, aI G (r 14) 229 f, aI G (r 15) 1024 hp, aJ G (r 16) 1024 hh, aJ G (r 17) 1024 hl9, oC od 3 [.ref dq, .ref dh, .ref dl], aI G dq 4 pf, aJ G dh 4 hf, aJ G dl 4 lf] ++ tl) H := hP
          have hD : va_D A ([aJ G oq 1 fo, oC ox 7 [.ref oc, .ref ot, .ref oo, .ref oe, .ref op, .ref ocs, .ref ods, .long ((jLL y5 y6) ^^^ (cE (hf c4) (lf c4) (lN 65536 * (nI c4).toInt64 + (pf c4).toInt64) (jLL y3 y4)).1), .long ((jLL y7 y8) ^^^ (cE (hf c4) (lf c4) (lN 65536 * (nI c4).toInt64 + (pf c4).toInt64) (jLL y3 y4)).2)], oC ot 6 [.int (nI dp), .long sh, .long sl], oC oc 1 [.ref owd, .long ((cE (hf c4) (lf c4) (lN 65536 * (nI c4).toInt64 + (pf c4).toInt64) (jLL y3 y4)).1), .long ((cE (hf c4) (lf c4) (lN 65536 * (nI c4).toInt64 + (pf c4).toInt64) (jLL y3 y4)).2)], aI G owd 44 (jKey (hf c4) (lf c4)), oC oo 2 [.ref om], aZ G om 512 mk, oC oe 4 [.long c0, .long h0, .long l0], oC op 5 [.ref ob, .int (nI nq)], aI G ob 229 f, aH G ocs 4 (fun j => some (kk j)), aQ G ods 256 dec, moC oy r (nI 0) ((cE (hf c4) (lf c4) (lN 65536 * (nI c4).toInt64 + (pf c4).toInt64) (jLL y3 y4)).1) ((cE (hf c4) (lf c4) (lN 65536 * (nI c4).toInt64 + (pf c4).toInt64) (jLL y3 y4)).2) (nI dp) sh sl (nI nq) ((jLL y5 y6) ^^^ (cE (hf c4) (lf c4) (lN 65536 * (nI c4).toInt64 + (pf c4).toInt64) (jLL y3 y4)).1) ((jLL y7 y8) ^^^ (cE (hf c4) (lf c4) (lN 65536 * (nI c4).toInt64 + (pf c4).toInt64) (jLL y3 y4)).2) w0 w1 w2, aI G (r 0) 256 ckS, aI G (r 1) 256 ckU, aI G (r 2) 176 (bN u2.1), aI G (r 3) 16 (bN u2.2.1), aI G (r 4) 16 (bN u2.2.2), aZ G (r 5) 256 ins, aZ G (r 6) 1024 sb, aI G (r 7) 4 per, aJ G (r 8) 4 ph, aJ G (r 9) 4 pl, aI G (r 10) 4 ss, aI G (r 11) 1024 sv, aI G (r 12) 1024 sw, aZ G (r 13) 512 mk2, aI G (r 14) 229 f, aI G (r 15) 1024 hp, aJ G (r 16) 1024 hh, aJ G (r 17) 1024 hl9, oC od 3 [.ref dq, .ref dh, .ref dl], aI G dq 4 pf, aJ G dh 4 hf, aJ G dl 4 lf] ++ tl) := hD
          refine lv_aload_n hx hb dLa_law_1191 rfl (lv_at hl 3 rfl) ?_
          refine clLa_88 (As := []) (rest := []) hx hb hml hown hts (k_Mo_thrown l G oy r (nI 0) ((cE (hf c4) (lf c4) (lN 65536 * (nI c4).toInt64 + (pf c4).toInt64) (jLL y3 y4)).1) ((cE (hf c4) (lf c4) (lN 65536 * (nI c4).toInt64 + (pf c4).toInt64) (jLL y3 y4)).2) (nI dp) sh sl (nI nq) ((jLL y5 y6) ^^^ (cE (hf c4) (lf c4) (lN 65536 * (nI c4).toInt64 + (pf c4).toInt64) (jLL y3 y4)).1) ((jLL y7 y8) ^^^ (cE (hf c4) (lf c4) (lN 65536 * (nI c4).toInt64 + (pf c4).toInt64) (jLL y3 y4)).2) w0 w1 w2) hG hA hP hD hS 12 rfl [12] rfl rfl (fun _ => rfl) rfl hl.1 rfl (Nat.le_of_ble_eq_true rfl) ⟨Nat.le_of_ble_eq_true rfl, Nat.le_of_ble_eq_true rfl⟩ ⟨hcf.1, hcf.2⟩ dLa_law_1192 (fun _ H locs _ hP hD hS => ?_)
          have hP : va_P G.1 vwCl ([aJ G oq 1 fo, oC ox 7 [.ref oc, .ref ot, .ref oo, .ref oe, .ref op, .ref ocs, .ref ods, .long ((jLL y5 y6) ^^^ (cE (hf c4) (lf c4) (lN 65536 * (nI c4).toInt64 + (pf c4).toInt64) (jLL y3 y4)).1), .long ((jLL y7 y8) ^^^ (cE (hf c4) (lf c4) (lN 65536 * (nI c4).toInt64 + (pf c4).toInt64) (jLL y3 y4)).2)], oC ot 6 [.int (nI dp), .long sh, .long sl], oC oc 1 [.ref owd, .long ((cE (hf c4) (lf c4) (lN 65536 * (nI c4).toInt64 + (pf c4).toInt64) (jLL y3 y4)).1), .long ((cE (hf c4) (lf c4) (lN 65536 * (nI c4).toInt64 + (pf c4).toInt64) (jLL y3 y4)).2)], aI G owd 44 (jKey (hf c4) (lf c4)), oC oo 2 [.ref om], aZ G om 512 mk, oC oe 4 [.long c0, .long h0, .long l0], oC op 5 [.ref ob, .int (nI nq)], aI G ob 229 f, aH G ocs 4 (fun j => some (kk j)), aQ G ods 256 dec, moC oy r (nI 0) ((cE (hf c4) (lf c4) (lN 65536 * (nI c4).toInt64 + (pf c4).toInt64) (jLL y3 y4)).1) ((cE (hf c4) (lf c4) (lN 65536 * (nI c4).toInt64 + (pf c4).toInt64) (jLL y3 y4)).2) (nI dp) sh sl (nI nq) ((jLL y5 y6) ^^^ (cE (hf c4) (lf c4) (lN 65536 * (nI c4).toInt64 + (pf c4).toInt64) (jLL y3 y4)).1) ((jLL y7 y8) ^^^ (cE (hf c4) (lf c4) (lN 65536 * (nI c4).toInt64 + (pf c4).toInt64) (jLL y3 y4)).2) w0 w1 w2, aI G (r 0) 256 ckS, aI G (r 1) 256 ckU, aI G (r 2) 176 (bN u2.1), aI G (r 3) 16 (bN u2.2.1), aI G (r 4) 16 (bN u2.2.2), aZ G (r 5) 256 ins, aZ G (r 6) 1024 sb, aI G (r 7) 4 per, aJ G (r 8) 4 ph, aJ G (r 9) 4 pl, aI G (r 10) 4 ss, aI G (r 11) 1024 sv, aI G (r 12) 1024 sw, aZ G (r 13) 512 mk2, aI G (r 14) 229 f, aI G (r 15) 1024 hp, aJ G (r 16) 1024 hh, aJ G (r 17) 1024 hl9, oC od 3 [.ref dq, .ref dh, .ref dl], aI G dq 4 pf, aJ G dh 4 hf, aJ G dl 4 lf] ++ tl) H := hP
          have hD : va_D A ([aJ G oq 1 fo, oC ox 7 [.ref oc, .ref ot, .ref oo, .ref oe, .ref op, .ref ocs, .ref ods, .long ((jLL y5 y6) ^^^ (cE (hf c4) (lf c4) (lN 65536 * (nI c4).toInt64 + (pf c4).toInt64) (jLL y3 y4)).1), .long ((jLL y7 y8) ^^^ (cE (hf c4) (lf c4) (lN 65536 * (nI c4).toInt64 + (pf c4).toInt64) (jLL y3 y4)).2)], oC ot 6 [.int (nI dp), .long sh, .long sl], oC oc 1 [.ref owd, .long ((cE (hf c4) (lf c4) (lN 65536 * (nI c4).toInt64 + (pf c4).toInt64) (jLL y3 y4)).1), .long ((cE (hf c4) (lf c4) (lN 65536 * (nI c4).toInt64 + (pf c4).toInt64) (jLL y3 y4)).2)], aI G owd 44 (jKey (hf c4) (lf c4)), oC oo 2 [.ref om], aZ G om 512 mk, oC oe 4 [.long c0, .long h0, .long l0], oC op 5 [.ref ob, .int (nI nq)], aI G ob 229 f, aH G ocs 4 (fun j => some (kk j)), aQ G ods 256 dec, moC oy r (nI 0) ((cE (hf c4) (lf c4) (lN 65536 * (nI c4).toInt64 + (pf c4).toInt64) (jLL y3 y4)).1) ((cE (hf c4) (lf c4) (lN 65536 * (nI c4).toInt64 + (pf c4).toInt64) (jLL y3 y4)).2) (nI dp) sh sl (nI nq) ((jLL y5 y6) ^^^ (cE (hf c4) (lf c4) (lN 65536 * (nI c4).toInt64 + (pf c4).toInt64) (jLL y3 y4)).1) ((jLL y7 y8) ^^^ (cE (hf c4) (lf c4) (lN 65536 * (nI c4).toInt64 + (pf c4).toInt64) (jLL y3 y4)).2) w0 w1 w2, aI G (r 0) 256 ckS, aI G (r 1) 256 ckU, aI G (r 2) 176 (bN u2.1), aI G (r 3) 16 (bN u2.2.1), aI G (r 4) 16 (bN u2.2.2), aZ G (r 5) 256 ins, aZ G (r 6) 1024 sb, aI G (r 7) 4 per, aJ G (r 8) 4 ph, aJ G (r 9) 4 pl, aI G (r 10) 4 ss, aI G (r 11) 1024 sv, aI G (r 12) 1024 sw, aZ G (r 13) 512 mk2, aI G (r 14) 229 f, aI G (r 15) 1024 hp, aJ G (r 16) 1024 hh, aJ G (r 17) 1024 hl9, oC od 3 [.ref dq, .ref dh, .ref dl], aI G dq 4 pf, aJ G dh 4 hf, aJ G dl 4 lf] ++ tl) := hD
          refine W.cs (cells' := 60 + 4 * j + 4) (slots' := 20000 + 20 * j + 20) rfl rfl ?_
          refine W.eq (g2 := F0 m 1195 ls [.int (nI 0)]) rfl ?_
          refine lv_iload hx hb dLa_law_1195 (lv_at hl 0 rfl) ?_
          refine lv_icmp_eq (tgt := 1202) hx hb dLa_law_1197 rfl (fun _ => ?_) (fun h => absurd (rfl) h)
          refine lv_goto (tgt := 1641) hx hb dLa_law_1202 rfl ?_
          refine lv_iinc (v := nI (9 * (j + 1))) (lv' := [(4, .int (nI (9 * (j + 1)))), (5, .int (nI 0)), (0, .ref b), (1, .ref ox), (2, .ref oy), (3, .ref oq)]) hx hb dLa_law_1641 hl (k := 5) rfl (nI_add (9 * j) 9) (by decide) rfl (fun ls hl => ?_)
          refine lv_goto (tgt := 23) hx hb dLa_law_1644 rfl ?_
          refine W.cs (cells' := 60 + 4 * (j + 1)) (slots' := 20000 + 20 * (j + 1)) (by omega) (by omega) ?_
          subst htl
          have hP := P_perm (pmD' [aJ G oq 1 fo, oC ox 7 [.ref oc, .ref ot, .ref oo, .ref oe, .ref op, .ref ocs, .ref ods, .long ((jLL y5 y6) ^^^ (cE (hf c4) (lf c4) (lN 65536 * (nI c4).toInt64 + (pf c4).toInt64) (jLL y3 y4)).1), .long ((jLL y7 y8) ^^^ (cE (hf c4) (lf c4) (lN 65536 * (nI c4).toInt64 + (pf c4).toInt64) (jLL y3 y4)).2)], oC ot 6 [.int (nI dp), .long sh, .long sl], oC oc 1 [.ref owd, .long ((cE (hf c4) (lf c4) (lN 65536 * (nI c4).toInt64 + (pf c4).toInt64) (jLL y3 y4)).1), .long ((cE (hf c4) (lf c4) (lN 65536 * (nI c4).toInt64 + (pf c4).toInt64) (jLL y3 y4)).2)], aI G owd 44 (jKey (hf c4) (lf c4)), oC oo 2 [.ref om], aZ G om 512 mk, oC oe 4 [.long c0, .long h0, .long l0], oC op 5 [.ref ob, .int (nI nq)], aI G ob 229 f, aH G ocs 4 (fun j => some (kk j)), aQ G ods 256 dec, moC oy r (nI 0) ((cE (hf c4) (lf c4) (lN 65536 * (nI c4).toInt64 + (pf c4).toInt64) (jLL y3 y4)).1) ((cE (hf c4) (lf c4) (lN 65536 * (nI c4).toInt64 + (pf c4).toInt64) (jLL y3 y4)).2) (nI dp) sh sl (nI nq) ((jLL y5 y6) ^^^ (cE (hf c4) (lf c4) (lN 65536 * (nI c4).toInt64 + (pf c4).toInt64) (jLL y3 y4)).1) ((jLL y7 y8) ^^^ (cE (hf c4) (lf c4) (lN 65536 * (nI c4).toInt64 + (pf c4).toInt64) (jLL y3 y4)).2) w0 w1 w2, aI G (r 0) 256 ckS, aI G (r 1) 256 ckU, aI G (r 2) 176 (bN u2.1), aI G (r 3) 16 (bN u2.2.1), aI G (r 4) 16 (bN u2.2.2), aZ G (r 5) 256 ins, aZ G (r 6) 1024 sb, aI G (r 7) 4 per, aJ G (r 8) 4 ph, aJ G (r 9) 4 pl, aI G (r 10) 4 ss, aI G (r 11) 1024 sv, aI G (r 12) 1024 sw, aZ G (r 13) 512 mk2, aI G (r 14) 229 f, aI G (r 15) 1024 hp, aJ G (r 16) 1024 hh, aJ G (r 17) 1024 hl9] G (chA (chB G kk ks kv kw q sz ch cl fs fv fw)) (dd, od, dq, dh, dl, pf, hf, lf) T') hP
          have hD := D_perm (pmD' [aJ G oq 1 fo, oC ox 7 [.ref oc, .ref ot, .ref oo, .ref oe, .ref op, .ref ocs, .ref ods, .long ((jLL y5 y6) ^^^ (cE (hf c4) (lf c4) (lN 65536 * (nI c4).toInt64 + (pf c4).toInt64) (jLL y3 y4)).1), .long ((jLL y7 y8) ^^^ (cE (hf c4) (lf c4) (lN 65536 * (nI c4).toInt64 + (pf c4).toInt64) (jLL y3 y4)).2)], oC ot 6 [.int (nI dp), .long sh, .long sl], oC oc 1 [.ref owd, .long ((cE (hf c4) (lf c4) (lN 65536 * (nI c4).toInt64 + (pf c4).toInt64) (jLL y3 y4)).1), .long ((cE (hf c4) (lf c4) (lN 65536 * (nI c4).toInt64 + (pf c4).toInt64) (jLL y3 y4)).2)], aI G owd 44 (jKey (hf c4) (lf c4)), oC oo 2 [.ref om], aZ G om 512 mk, oC oe 4 [.long c0, .long h0, .long l0], oC op 5 [.ref ob, .int (nI nq)], aI G ob 229 f, aH G ocs 4 (fun j => some (kk j)), aQ G ods 256 dec, moC oy r (nI 0) ((cE (hf c4) (lf c4) (lN 65536 * (nI c4).toInt64 + (pf c4).toInt64) (jLL y3 y4)).1) ((cE (hf c4) (lf c4) (lN 65536 * (nI c4).toInt64 + (pf c4).toInt64) (jLL y3 y4)).2) (nI dp) sh sl (nI nq) ((jLL y5 y6) ^^^ (cE (hf c4) (lf c4) (lN 65536 * (nI c4).toInt64 + (pf c4).toInt64) (jLL y3 y4)).1) ((jLL y7 y8) ^^^ (cE (hf c4) (lf c4) (lN 65536 * (nI c4).toInt64 + (pf c4).toInt64) (jLL y3 y4)).2) w0 w1 w2, aI G (r 0) 256 ckS, aI G (r 1) 256 ckU, aI G (r 2) 176 (bN u2.1), aI G (r 3) 16 (bN u2.2.1), aI G (r 4) 16 (bN u2.2.2), aZ G (r 5) 256 ins, aZ G (r 6) 1024 sb, aI G (r 7) 4 per, aJ G (r 8) 4 ph, aJ G (r 9) 4 pl, aI G (r 10) 4 ss, aI G (r 11) 1024 sv, aI G (r 12) 1024 sw, aZ G (r 13) 512 mk2, aI G (r 14) 229 f, aI G (r 15) 1024 hp, aJ G (r 16) 1024 hh, aJ G (r 17) 1024 hl9] G (chA (chB G kk ks kv kw q sz ch cl fs fv fw)) (dd, od, dq, dh, dl, pf, hf, lf) T') hD
          exact ih ((jLL y5 y6) ^^^ (cE (hf c4) (lf c4) (lN 65536 * (nI c4).toInt64 + (pf c4).toInt64) (jLL y3 y4)).1) ((jLL y7 y8) ^^^ (cE (hf c4) (lf c4) (lN 65536 * (nI c4).toInt64 + (pf c4).toInt64) (jLL y3 y4)).2) dp sh sl (jKey (hf c4) (lf c4)) ((cE (hf c4) (lf c4) (lN 65536 * (nI c4).toInt64 + (pf c4).toInt64) (jLL y3 y4)).1) ((cE (hf c4) (lf c4) (lN 65536 * (nI c4).toInt64 + (pf c4).toInt64) (jLL y3 y4)).2) mk c0 h0 l0 nq f dec q sz ch cl fs fv fw ((dd, od, dq, dh, dl, pf, hf, lf) :: T') fo (nI 0) ((cE (hf c4) (lf c4) (lN 65536 * (nI c4).toInt64 + (pf c4).toInt64) (jLL y3 y4)).1) ((cE (hf c4) (lf c4) (lN 65536 * (nI c4).toInt64 + (pf c4).toInt64) (jLL y3 y4)).2) w0 w1 w2 u2.1 u2.2.1 u2.2.2 ins sb per ph pl ss sv sw mk2 hp hh hl9 _ _ _ hdp1 hdp hR1 hR2 hR3 hR4 hP hD hS (lv_sub hl [2, 3, 4, 5, 0] rfl)
    · have hP : va_P G.1 vwCl ([aJ G oq 1 fo, oC ox 7 [.ref oc, .ref ot, .ref oo, .ref oe, .ref op, .ref ocs, .ref ods, .long oh, .long ol], oC ot 6 [.int (nI dp), .long sh, .long sl], oC oc 1 [.ref owd, .long e0, .long f0], aI G owd 44 g, oC oo 2 [.ref om], aZ G om 512 mk, oC oe 4 [.long c0, .long h0, .long l0], oC op 5 [.ref ob, .int (nI nq)], aI G ob 229 f, aH G ocs 4 (fun j => some (kk j)), aQ G ods 256 dec, moC oy r th fi se (nI dp) sh sl (nI nq) oh ol w0 w1 w2, aI G (r 0) 256 ckS, aI G (r 1) 256 ckU, aI G (r 2) 176 (bN ff), aI G (r 3) 16 (bN gg), aI G (r 4) 16 (bN mm), aZ G (r 5) 256 ins, aZ G (r 6) 1024 sb, aI G (r 7) 4 per, aJ G (r 8) 4 ph, aJ G (r 9) 4 pl, aI G (r 10) 4 ss, aI G (r 11) 1024 sv, aI G (r 12) 1024 sw, aZ G (r 13) 512 mk2, aI G (r 14) 229 f, aI G (r 15) 1024 hp, aJ G (r 16) 1024 hh, aJ G (r 17) 1024 hl9] ++ (chA (chB G kk ks kv kw q sz ch cl fs fv fw) ++ decW G T)) H := hP
      have hD : va_D A ([aJ G oq 1 fo, oC ox 7 [.ref oc, .ref ot, .ref oo, .ref oe, .ref op, .ref ocs, .ref ods, .long oh, .long ol], oC ot 6 [.int (nI dp), .long sh, .long sl], oC oc 1 [.ref owd, .long e0, .long f0], aI G owd 44 g, oC oo 2 [.ref om], aZ G om 512 mk, oC oe 4 [.long c0, .long h0, .long l0], oC op 5 [.ref ob, .int (nI nq)], aI G ob 229 f, aH G ocs 4 (fun j => some (kk j)), aQ G ods 256 dec, moC oy r th fi se (nI dp) sh sl (nI nq) oh ol w0 w1 w2, aI G (r 0) 256 ckS, aI G (r 1) 256 ckU, aI G (r 2) 176 (bN ff), aI G (r 3) 16 (bN gg), aI G (r 4) 16 (bN mm), aZ G (r 5) 256 ins, aZ G (r 6) 1024 sb, aI G (r 7) 4 per, aJ G (r 8) 4 ph, aJ G (r 9) 4 pl, aI G (r 10) 4 ss, aI G (r 11) 1024 sv, aI G (r 12) 1024 sw, aZ G (r 13) 512 mk2, aI G (r 14) 229 f, aI G (r 15) 1024 hp, aJ G (r 16) 1024 hh, aJ G (r 17) 1024 hl9] ++ (chA (chB G kk ks kv kw q sz ch cl fs fv fw) ++ decW G T)) := hD
      generalize htl : (chA (chB G kk ks kv kw q sz ch cl fs fv fw) ++ decW G T) = tl at hP hD
      refine lv_aload_n hx hb dLa_law_1019 rfl (lv_at hl 1 rfl) ?_
      refine lv_aload_n hx hb dLa_law_1020 rfl (lv_at hl 0 rfl) ?_
      refine lv_iload hx hb dLa_law_1021 (lv_at hl 4 rfl) ?_
      refine lv_iconst (v := nI 1) hx hb dLa_law_1023 (by decide) ?_
      refine lv_iadd hx hb dLa_law_1024 ?_
      refine ck_sld hx hb hX hbl hbA hS (9 * j + 1) (nI_add _ _) (by omega) (by omega) hy1 dLa_law_1025 ?_
      refine lv_aload_n hx hb dLa_law_1026 rfl (lv_at hl 0 rfl) ?_
      refine lv_iload hx hb dLa_law_1027 (lv_at hl 4 rfl) ?_
      refine lv_iconst (v := nI 2) hx hb dLa_law_1029 (by decide) ?_
      refine lv_iadd hx hb dLa_law_1030 ?_
      refine ck_sld hx hb hX hbl hbA hS (9 * j + 2) (nI_add _ _) (by omega) (by omega) hy2 dLa_law_1031 ?_
      refine lv_aload_n hx hb dLa_law_1032 rfl (lv_at hl 0 rfl) ?_
      refine lv_iload hx hb dLa_law_1033 (lv_at hl 4 rfl) ?_
      refine lv_iconst (v := nI 3) hx hb dLa_law_1035 (by decide) ?_
      refine lv_iadd hx hb dLa_law_1036 ?_
      refine ck_sld hx hb hX hbl hbA hS (9 * j + 3) (nI_add _ _) (by omega) (by omega) hy3 dLa_law_1037 ?_
      refine lv_i2l (v := y3.toInt64) hx hb dLa_law_1038 rfl ?_
      refine lv_bipush (v := nI 32) hx hb dLa_law_1039 (by decide) ?_
      refine lv_lshl (v := lsh y3.toInt64 (nI 32)) hx hb dLa_law_1041 rfl ?_
      refine lv_aload_n hx hb dLa_law_1042 rfl (lv_at hl 0 rfl) ?_
      refine lv_iload hx hb dLa_law_1043 (lv_at hl 4 rfl) ?_
      refine lv_iconst (v := nI 4) hx hb dLa_law_1045 (by decide) ?_
      refine lv_iadd hx hb dLa_law_1046 ?_
      refine ck_sld hx hb hX hbl hbA hS (9 * j + 4) (nI_add _ _) (by omega) (by omega) hy4 dLa_law_1047 ?_
      refine lv_i2l (v := y4.toInt64) hx hb dLa_law_1048 rfl ?_
      refine lv_ldc2 (v := lN 4294967295) hx hb hown (hts _ kkLa_80) dLa_law_1049 ?_
      refine lv_land hx hb dLa_law_1052 ?_
      refine lv_lor hx hb dLa_law_1053 ?_
      refine ck_rl (y := jLL y3 y4) rfl ?_
      refine lv_aload_n hx hb dLa_law_1054 rfl (lv_at hl 0 rfl) ?_
      refine lv_iload hx hb dLa_law_1055 (lv_at hl 4 rfl) ?_
      refine lv_iconst (v := nI 5) hx hb dLa_law_1057 (by decide) ?_
      refine lv_iadd hx hb dLa_law_1058 ?_
      refine ck_sld hx hb hX hbl hbA hS (9 * j + 5) (nI_add _ _) (by omega) (by omega) hy5 dLa_law_1059 ?_
      refine lv_i2l (v := y5.toInt64) hx hb dLa_law_1060 rfl ?_
      refine lv_bipush (v := nI 32) hx hb dLa_law_1061 (by decide) ?_
      refine lv_lshl (v := lsh y5.toInt64 (nI 32)) hx hb dLa_law_1063 rfl ?_
      refine lv_aload_n hx hb dLa_law_1064 rfl (lv_at hl 0 rfl) ?_
      refine lv_iload hx hb dLa_law_1065 (lv_at hl 4 rfl) ?_
      refine lv_bipush (v := nI 6) hx hb dLa_law_1067 (by decide) ?_
      refine lv_iadd hx hb dLa_law_1069 ?_
      refine ck_sld hx hb hX hbl hbA hS (9 * j + 6) (nI_add _ _) (by omega) (by omega) hy6 dLa_law_1070 ?_
      refine lv_i2l (v := y6.toInt64) hx hb dLa_law_1071 rfl ?_
      refine lv_ldc2 (v := lN 4294967295) hx hb hown (hts _ kkLa_80) dLa_law_1072 ?_
      refine lv_land hx hb dLa_law_1075 ?_
      refine lv_lor hx hb dLa_law_1076 ?_
      refine ck_rl (y := jLL y5 y6) rfl ?_
      refine lv_aload_n hx hb dLa_law_1077 rfl (lv_at hl 0 rfl) ?_
      refine lv_iload hx hb dLa_law_1078 (lv_at hl 4 rfl) ?_
      refine lv_bipush (v := nI 7) hx hb dLa_law_1080 (by decide) ?_
      refine lv_iadd hx hb dLa_law_1082 ?_
      refine ck_sld hx hb hX hbl hbA hS (9 * j + 7) (nI_add _ _) (by omega) (by omega) hy7 dLa_law_1083 ?_
      refine lv_i2l (v := y7.toInt64) hx hb dLa_law_1084 rfl ?_
      refine lv_bipush (v := nI 32) hx hb dLa_law_1085 (by decide) ?_
      refine lv_lshl (v := lsh y7.toInt64 (nI 32)) hx hb dLa_law_1087 rfl ?_
      refine lv_aload_n hx hb dLa_law_1088 rfl (lv_at hl 0 rfl) ?_
      refine lv_iload hx hb dLa_law_1089 (lv_at hl 4 rfl) ?_
      refine lv_bipush (v := nI 8) hx hb dLa_law_1091 (by decide) ?_
      refine lv_iadd hx hb dLa_law_1093 ?_
      refine ck_sld hx hb hX hbl hbA hS (9 * j + 8) (nI_add _ _) (by omega) (by omega) hy8 dLa_law_1094 ?_
      refine lv_i2l (v := y8.toInt64) hx hb dLa_law_1095 rfl ?_
      refine lv_ldc2 (v := lN 4294967295) hx hb hown (hts _ kkLa_80) dLa_law_1096 ?_
      refine lv_land hx hb dLa_law_1099 ?_
      refine lv_lor hx hb dLa_law_1100 ?_
      refine ck_rl (y := jLL y7 y8) rfl ?_
      refine clLa_125 (As := [.ref ox, .int (nI dd), .int y2, .long (jLL y3 y4), .long (jLL y5 y6), .long (jLL y7 y8)]) (rest := []) hx hb hml hown hts (w_La_open_IOB (wi := [oC ox 7 [.ref oc, .ref ot, .ref oo, .ref oe, .ref op, .ref ocs, .ref ods, .long oh, .long ol], oC ot 6 [.int (nI dp), .long sh, .long sl]]) l G ox (nI dd) y2 (jLL y3 y4) (jLL y5 y6) (jLL y7 y8) (x_CK_open2 l hl0 G ox oc ot oo oe op ocs ods oh ol dp hdp sh sl dd hdd y2 hc (jLL y3 y4) (jLL y5 y6) (jLL y7 y8)) 0 rfl [0, 1] rfl rfl rfl) hG hA hP hD hS [1, 2] rfl rfl (fun _ => rfl) rfl hl.1 rfl (Nat.le_of_ble_eq_true rfl) ⟨Nat.le_of_ble_eq_true rfl, Nat.le_of_ble_eq_true rfl⟩ ⟨Nat.le_trans (Nat.add_le_add_left (Nat.le_of_ble_eq_true rfl) _) hcf.1, Nat.le_trans (Nat.add_le_add_left (Nat.le_of_ble_eq_true rfl) _) hcf.2⟩ dLa_law_1101 (fun _ H locs _ hP hD hS => ?_)
      have hP : va_P G.1 vwCl ([aJ G oq 1 fo, oC ox 7 [.ref oc, .ref ot, .ref oo, .ref oe, .ref op, .ref ocs, .ref ods, .long oh, .long ol], oC ot 6 [.int (nI dp), .long sh, .long sl], oC oc 1 [.ref owd, .long e0, .long f0], aI G owd 44 g, oC oo 2 [.ref om], aZ G om 512 mk, oC oe 4 [.long c0, .long h0, .long l0], oC op 5 [.ref ob, .int (nI nq)], aI G ob 229 f, aH G ocs 4 (fun j => some (kk j)), aQ G ods 256 dec, moC oy r th fi se (nI dp) sh sl (nI nq) oh ol w0 w1 w2, aI G (r 0) 256 ckS, aI G (r 1) 256 ckU, aI G (r 2) 176 (bN ff), aI G (r 3) 16 (bN gg), aI G (r 4) 16 (bN mm), aZ G (r 5) 256 ins, aZ G (r 6) 1024 sb, aI G (r 7) 4 per, aJ G (r 8) 4 ph, aJ G (r 9) 4 pl, aI G (r 10) 4 ss, aI G (r 11) 1024 sv, aI G (r 12) 1024 sw, aZ G (r 13) 512 mk2, aI G (r 14) 229 f, aI G (r 15) 1024 hp, aJ G (r 16) 1024 hh, aJ G (r 17) 1024 hl9] ++ tl) H := hP
      have hD : va_D A ([aJ G oq 1 fo, oC ox 7 [.ref oc, .ref ot, .ref oo, .ref oe, .ref op, .ref ocs, .ref ods, .long oh, .long ol], oC ot 6 [.int (nI dp), .long sh, .long sl], oC oc 1 [.ref owd, .long e0, .long f0], aI G owd 44 g, oC oo 2 [.ref om], aZ G om 512 mk, oC oe 4 [.long c0, .long h0, .long l0], oC op 5 [.ref ob, .int (nI nq)], aI G ob 229 f, aH G ocs 4 (fun j => some (kk j)), aQ G ods 256 dec, moC oy r th fi se (nI dp) sh sl (nI nq) oh ol w0 w1 w2, aI G (r 0) 256 ckS, aI G (r 1) 256 ckU, aI G (r 2) 176 (bN ff), aI G (r 3) 16 (bN gg), aI G (r 4) 16 (bN mm), aZ G (r 5) 256 ins, aZ G (r 6) 1024 sb, aI G (r 7) 4 per, aJ G (r 8) 4 ph, aJ G (r 9) 4 pl, aI G (r 10) 4 ss, aI G (r 11) 1024 sv, aI G (r 12) 1024 sw, aZ G (r 13) 512 mk2, aI G (r 14) 229 f, aI G (r 15) 1024 hp, aJ G (r 16) 1024 hh, aJ G (r 17) 1024 hl9] ++ tl) := hD
      refine W.widen (k := 60 + 4 * j + 4) (n := 20000 + 20 * j + 20) (Nat.add_le_add_left (Nat.le_of_ble_eq_true rfl) _) (Nat.add_le_add_left (Nat.le_of_ble_eq_true rfl) _) ?_
      refine W.eq (g2 := F0 m 1104 ls [.int (nI 1)]) rfl ?_
      refine lv_istore (lv' := [(5, .int (nI 1)), (0, .ref b), (1, .ref ox), (2, .ref oy), (3, .ref oq), (4, .int (nI (9 * j)))]) hx hb dLa_law_1104 hl (by decide) rfl (fun ls hl => ?_)
      refine lv_aload_n hx hb dLa_law_1106 rfl (lv_at hl 3 rfl) ?_
      refine lv_aload_n hx hb dLa_law_1107 rfl (lv_at hl 1 rfl) ?_
      refine lv_iload hx hb dLa_law_1108 (lv_at hl 5 rfl) ?_
      refine lv_iconst (v := nI 1) hx hb dLa_law_1110 (by decide) ?_
      refine lv_iadd hx hb dLa_law_1111 ?_
      refine ck_sld hx hb hX hbl hbA hS (9 * j + 1) (nI_add _ _) (by omega) (by omega) hy1 dLa_law_1112 ?_
      refine lv_aload_n hx hb dLa_law_1113 rfl (lv_at hl 1 rfl) ?_
      refine lv_iload hx hb dLa_law_1114 (lv_at hl 5 rfl) ?_
      refine lv_iconst (v := nI 2) hx hb dLa_law_1116 (by decide) ?_
      refine lv_iadd hx hb dLa_law_1117 ?_
      refine ck_sld hx hb hX hbl hbA hS (9 * j + 2) (nI_add _ _) (by omega) (by omega) hy2 dLa_law_1118 ?_
      refine lv_aload_n hx hb dLa_law_1119 rfl (lv_at hl 1 rfl) ?_
      refine lv_iload hx hb dLa_law_1120 (lv_at hl 5 rfl) ?_
      refine lv_iconst (v := nI 3) hx hb dLa_law_1122 (by decide) ?_
      refine lv_iadd hx hb dLa_law_1123 ?_
      refine ck_sld hx hb hX hbl hbA hS (9 * j + 3) (nI_add _ _) (by omega) (by omega) hy3 dLa_law_1124 ?_
      refine lv_i2l (v := y3.toInt64) hx hb dLa_law_1125 rfl ?_
      refine lv_bipush (v := nI 32) hx hb dLa_law_1126 (by decide) ?_
      refine lv_lshl (v := lsh y3.toInt64 (nI 32)) hx hb dLa_law_1128 rfl ?_
      refine lv_aload_n hx hb dLa_law_1129 rfl (lv_at hl 1 rfl) ?_
      refine lv_iload hx hb dLa_law_1130 (lv_at hl 5 rfl) ?_
      refine lv_iconst (v := nI 4) hx hb dLa_law_1132 (by decide) ?_
      refine lv_iadd hx hb dLa_law_1133 ?_
      refine ck_sld hx hb hX hbl hbA hS (9 * j + 4) (nI_add _ _) (by omega) (by omega) hy4 dLa_law_1134 ?_
      refine lv_i2l (v := y4.toInt64) hx hb dLa_law_1135 rfl ?_
      refine lv_ldc2 (v := lN 4294967295) hx hb hown (hts _ kkLa_80) dLa_law_1136 ?_
      refine lv_land hx hb dLa_law_1139 ?_
      refine lv_lor hx hb dLa_law_1140 ?_
      refine ck_rl (y := jLL y3 y4) rfl ?_
      refine lv_aload_n hx hb dLa_law_1141 rfl (lv_at hl 1 rfl) ?_
      refine lv_iload hx hb dLa_law_1142 (lv_at hl 5 rfl) ?_
      refine lv_iconst (v := nI 5) hx hb dLa_law_1144 (by decide) ?_
      refine lv_iadd hx hb dLa_law_1145 ?_
      refine ck_sld hx hb hX hbl hbA hS (9 * j + 5) (nI_add _ _) (by omega) (by omega) hy5 dLa_law_1146 ?_
      refine lv_i2l (v := y5.toInt64) hx hb dLa_law_1147 rfl ?_
      refine lv_bipush (v := nI 32) hx hb dLa_law_1148 (by decide) ?_
      refine lv_lshl (v := lsh y5.toInt64 (nI 32)) hx hb dLa_law_1150 rfl ?_
      refine lv_aload_n hx hb dLa_law_1151 rfl (lv_at hl 1 rfl) ?_
      refine lv_iload hx hb dLa_law_1152 (lv_at hl 5 rfl) ?_
      refine lv_bipush (v := nI 6) hx hb dLa_law_1154 (by decide) ?_
      refine lv_iadd hx hb dLa_law_1156 ?_
      refine ck_sld hx hb hX hbl hbA hS (9 * j + 6) (nI_add _ _) (by omega) (by omega) hy6 dLa_law_1157 ?_
      refine lv_i2l (v := y6.toInt64) hx hb dLa_law_1158 rfl ?_
      refine lv_ldc2 (v := lN 4294967295) hx hb hown (hts _ kkLa_80) dLa_law_1159 ?_
      refine lv_land hx hb dLa_law_1162 ?_
      refine lv_lor hx hb dLa_law_1163 ?_
      refine ck_rl (y := jLL y5 y6) rfl ?_
      refine lv_aload_n hx hb dLa_law_1164 rfl (lv_at hl 1 rfl) ?_
      refine lv_iload hx hb dLa_law_1165 (lv_at hl 5 rfl) ?_
      refine lv_bipush (v := nI 7) hx hb dLa_law_1167 (by decide) ?_
      refine lv_iadd hx hb dLa_law_1169 ?_
      refine ck_sld hx hb hX hbl hbA hS (9 * j + 7) (nI_add _ _) (by omega) (by omega) hy7 dLa_law_1170 ?_
      refine lv_i2l (v := y7.toInt64) hx hb dLa_law_1171 rfl ?_
      refine lv_bipush (v := nI 32) hx hb dLa_law_1172 (by decide) ?_
      refine lv_lshl (v := lsh y7.toInt64 (nI 32)) hx hb dLa_law_1174 rfl ?_
      refine lv_aload_n hx hb dLa_law_1175 rfl (lv_at hl 1 rfl) ?_
      refine lv_iload hx hb dLa_law_1176 (lv_at hl 5 rfl) ?_
      refine lv_bipush (v := nI 8) hx hb dLa_law_1178 (by decide) ?_
      refine lv_iadd hx hb dLa_law_1180 ?_
      refine ck_sld hx hb hX hbl hbA hS (9 * j + 8) (nI_add _ _) (by omega) (by omega) hy8 dLa_law_1181 ?_
      refine lv_i2l (v := y8.toInt64) hx hb dLa_law_1182 rfl ?_
      refine lv_ldc2 (v := lN 4294967295) hx hb hown (hts _ kkLa_80) dLa_law_1183 ?_
      refine lv_land hx hb dLa_law_1186 ?_
      refine lv_lor hx hb dLa_law_1187 ?_
      refine ck_rl (y := jLL y7 y8) rfl ?_
      refine clLa_128 (As := [.int (nI dd), .int y2, .long (jLL y3 y4), .long (jLL y5 y6), .long (jLL y7 y8)]) (rest := []) hx hb hml hown hts (k_Mo_open_e1 l G oy r th fi se dp hdp sh sl (nI nq) oh ol w0 w1 w2 (nI dd) y2 (by rw [hc, Bool.and_false]) (jLL y3 y4) (jLL y5 y6) (jLL y7 y8)) hG hA hP hD hS 12 rfl [12] rfl rfl (fun _ => rfl) rfl hl.1 rfl (Nat.le_of_ble_eq_true rfl) ⟨Nat.le_of_ble_eq_true rfl, Nat.le_of_ble_eq_true rfl⟩ ⟨hcf.1, hcf.2⟩ dLa_law_1188 (fun _ H locs _ hP hD hS => ?_)
      have hP : va_P G.1 vwCl ([aJ G oq 1 fo, oC ox 7 [.ref oc, .ref ot, .ref oo, .ref oe, .ref op, .ref ocs, .ref ods, .long oh, .long ol], oC ot 6 [.int (nI dp), .long sh, .long sl], oC oc 1 [.ref owd, .long e0, .long f0], aI G owd 44 g, oC oo 2 [.ref om], aZ G om 512 mk, oC oe 4 [.long c0, .long h0, .long l0], oC op 5 [.ref ob, .int (nI nq)], aI G ob 229 f, aH G ocs 4 (fun j => some (kk j)), aQ G ods 256 dec, moC oy r (nI 1) fi se (nI dp) sh sl (nI nq) oh ol w0 w1 w2, aI G (r 0) 256 ckS, aI G (r 1) 256 ckU, aI G (r 2) 176 (bN ff), aI G (r 3) 16 (bN gg), aI G (r 4) 16 (bN mm), aZ G (r 5) 256 ins, aZ G (r 6) 1024 sb, aI G (r 7) 4 per, aJ G (r 8) 4 ph, aJ G (r 9) 4 pl, aI G (r 10) 4 ss, aI G (r 11) 1024 sv, aI G (r 12) 1024 sw, aZ G (r 13) 512 mk2, aI G (r 14) 229 f, aI G (r 15) 1024 hp, aJ G (r 16) 1024 hh, aJ G (r 17) 1024 hl9] ++ tl) H := hP
      have hD : va_D A ([aJ G oq 1 fo, oC ox 7 [.ref oc, .ref ot, .ref oo, .ref oe, .ref op, .ref ocs, .ref ods, .long oh, .long ol], oC ot 6 [.int (nI dp), .long sh, .long sl], oC oc 1 [.ref owd, .long e0, .long f0], aI G owd 44 g, oC oo 2 [.ref om], aZ G om 512 mk, oC oe 4 [.long c0, .long h0, .long l0], oC op 5 [.ref ob, .int (nI nq)], aI G ob 229 f, aH G ocs 4 (fun j => some (kk j)), aQ G ods 256 dec, moC oy r (nI 1) fi se (nI dp) sh sl (nI nq) oh ol w0 w1 w2, aI G (r 0) 256 ckS, aI G (r 1) 256 ckU, aI G (r 2) 176 (bN ff), aI G (r 3) 16 (bN gg), aI G (r 4) 16 (bN mm), aZ G (r 5) 256 ins, aZ G (r 6) 1024 sb, aI G (r 7) 4 per, aJ G (r 8) 4 ph, aJ G (r 9) 4 pl, aI G (r 10) 4 ss, aI G (r 11) 1024 sv, aI G (r 12) 1024 sw, aZ G (r 13) 512 mk2, aI G (r 14) 229 f, aI G (r 15) 1024 hp, aJ G (r 16) 1024 hh, aJ G (r 17) 1024 hl9] ++ tl) := hD
      refine W.cs (cells' := 60 + 4 * j + 4) (slots' := 20000 + 20 * j + 20) rfl rfl ?_
      refine W.eq (g2 := F0 m 1191 ls []) rfl ?_
      refine lv_aload_n hx hb dLa_law_1191 rfl (lv_at hl 3 rfl) ?_
      refine clLa_88 (As := []) (rest := []) hx hb hml hown hts (k_Mo_thrown l G oy r (nI 1) fi se (nI dp) sh sl (nI nq) oh ol w0 w1 w2) hG hA hP hD hS 12 rfl [12] rfl rfl (fun _ => rfl) rfl hl.1 rfl (Nat.le_of_ble_eq_true rfl) ⟨Nat.le_of_ble_eq_true rfl, Nat.le_of_ble_eq_true rfl⟩ ⟨hcf.1, hcf.2⟩ dLa_law_1192 (fun _ H locs _ hP hD hS => ?_)
      have hP : va_P G.1 vwCl ([aJ G oq 1 fo, oC ox 7 [.ref oc, .ref ot, .ref oo, .ref oe, .ref op, .ref ocs, .ref ods, .long oh, .long ol], oC ot 6 [.int (nI dp), .long sh, .long sl], oC oc 1 [.ref owd, .long e0, .long f0], aI G owd 44 g, oC oo 2 [.ref om], aZ G om 512 mk, oC oe 4 [.long c0, .long h0, .long l0], oC op 5 [.ref ob, .int (nI nq)], aI G ob 229 f, aH G ocs 4 (fun j => some (kk j)), aQ G ods 256 dec, moC oy r (nI 1) fi se (nI dp) sh sl (nI nq) oh ol w0 w1 w2, aI G (r 0) 256 ckS, aI G (r 1) 256 ckU, aI G (r 2) 176 (bN ff), aI G (r 3) 16 (bN gg), aI G (r 4) 16 (bN mm), aZ G (r 5) 256 ins, aZ G (r 6) 1024 sb, aI G (r 7) 4 per, aJ G (r 8) 4 ph, aJ G (r 9) 4 pl, aI G (r 10) 4 ss, aI G (r 11) 1024 sv, aI G (r 12) 1024 sw, aZ G (r 13) 512 mk2, aI G (r 14) 229 f, aI G (r 15) 1024 hp, aJ G (r 16) 1024 hh, aJ G (r 17) 1024 hl9] ++ tl) H := hP
      have hD : va_D A ([aJ G oq 1 fo, oC ox 7 [.ref oc, .ref ot, .ref oo, .ref oe, .ref op, .ref ocs, .ref ods, .long oh, .long ol], oC ot 6 [.int (nI dp), .long sh, .long sl], oC oc 1 [.ref owd, .long e0, .long f0], aI G owd 44 g, oC oo 2 [.ref om], aZ G om 512 mk, oC oe 4 [.long c0, .long h0, .long l0], oC op 5 [.ref ob, .int (nI nq)], aI G ob 229 f, aH G ocs 4 (fun j => some (kk j)), aQ G ods 256 dec, moC oy r (nI 1) fi se (nI dp) sh sl (nI nq) oh ol w0 w1 w2, aI G (r 0) 256 ckS, aI G (r 1) 256 ckU, aI G (r 2) 176 (bN ff), aI G (r 3) 16 (bN gg), aI G (r 4) 16 (bN mm), aZ G (r 5) 256 ins, aZ G (r 6) 1024 sb, aI G (r 7) 4 per, aJ G (r 8) 4 ph, aJ G (r 9) 4 pl, aI G (r 10) 4 ss, aI G (r 11) 1024 sv, aI G (r 12) 1024 sw, aZ G (r 13) 512 mk2, aI G (r 14) 229 f, aI G (r 15) 1024 hp, aJ G (r 16) 1024 hh, aJ G (r 17) 1024 hl9] ++ tl) := hD
      refine W.cs (cells' := 60 + 4 * j + 4) (slots' := 20000 + 20 * j + 20) rfl rfl ?_
      refine W.eq (g2 := F0 m 1195 ls [.int (nI 1)]) rfl ?_
      refine lv_iload hx hb dLa_law_1195 (lv_at hl 0 rfl) ?_
      refine lv_icmp_eq (tgt := 1202) hx hb dLa_law_1197 rfl (fun _ => ?_) (fun h => absurd (rfl) h)
      refine lv_goto (tgt := 1641) hx hb dLa_law_1202 rfl ?_
      refine lv_iinc (v := nI (9 * (j + 1))) (lv' := [(4, .int (nI (9 * (j + 1)))), (5, .int (nI 1)), (0, .ref b), (1, .ref ox), (2, .ref oy), (3, .ref oq)]) hx hb dLa_law_1641 hl (k := 5) rfl (nI_add (9 * j) 9) (by decide) rfl (fun ls hl => ?_)
      refine lv_goto (tgt := 23) hx hb dLa_law_1644 rfl ?_
      refine W.cs (cells' := 60 + 4 * (j + 1)) (slots' := 20000 + 20 * (j + 1)) (by omega) (by omega) ?_
      subst htl
      exact ih oh ol dp sh sl g e0 f0 mk c0 h0 l0 nq f dec q sz ch cl fs fv fw T fo (nI 1) fi se w0 w1 w2 ff gg mm ins sb per ph pl ss sv sw mk2 hp hh hl9 _ _ _ hdp1 hdp hR1 hR2 hR3 hR4 hP hD hS (lv_sub hl [2, 3, 4, 5, 0] rfl)
  · have hP : va_P G.1 vwCl ([aJ G oq 1 fo, oC ox 7 [.ref oc, .ref ot, .ref oo, .ref oe, .ref op, .ref ocs, .ref ods, .long oh, .long ol], oC ot 6 [.int (nI dp), .long sh, .long sl], oC oc 1 [.ref owd, .long e0, .long f0], aI G owd 44 g, oC oo 2 [.ref om], aZ G om 512 mk, oC oe 4 [.long c0, .long h0, .long l0], oC op 5 [.ref ob, .int (nI nq)], aI G ob 229 f, aH G ocs 4 (fun j => some (kk j)), aQ G ods 256 dec, moC oy r th fi se (nI dp) sh sl (nI nq) oh ol w0 w1 w2, aI G (r 0) 256 ckS, aI G (r 1) 256 ckU, aI G (r 2) 176 (bN ff), aI G (r 3) 16 (bN gg), aI G (r 4) 16 (bN mm), aZ G (r 5) 256 ins, aZ G (r 6) 1024 sb, aI G (r 7) 4 per, aJ G (r 8) 4 ph, aJ G (r 9) 4 pl, aI G (r 10) 4 ss, aI G (r 11) 1024 sv, aI G (r 12) 1024 sw, aZ G (r 13) 512 mk2, aI G (r 14) 229 f, aI G (r 15) 1024 hp, aJ G (r 16) 1024 hh, aJ G (r 17) 1024 hl9] ++ (chA (chB G kk ks kv kw q sz ch cl fs fv fw) ++ decW G T)) H := hP
    have hD : va_D A ([aJ G oq 1 fo, oC ox 7 [.ref oc, .ref ot, .ref oo, .ref oe, .ref op, .ref ocs, .ref ods, .long oh, .long ol], oC ot 6 [.int (nI dp), .long sh, .long sl], oC oc 1 [.ref owd, .long e0, .long f0], aI G owd 44 g, oC oo 2 [.ref om], aZ G om 512 mk, oC oe 4 [.long c0, .long h0, .long l0], oC op 5 [.ref ob, .int (nI nq)], aI G ob 229 f, aH G ocs 4 (fun j => some (kk j)), aQ G ods 256 dec, moC oy r th fi se (nI dp) sh sl (nI nq) oh ol w0 w1 w2, aI G (r 0) 256 ckS, aI G (r 1) 256 ckU, aI G (r 2) 176 (bN ff), aI G (r 3) 16 (bN gg), aI G (r 4) 16 (bN mm), aZ G (r 5) 256 ins, aZ G (r 6) 1024 sb, aI G (r 7) 4 per, aJ G (r 8) 4 ph, aJ G (r 9) 4 pl, aI G (r 10) 4 ss, aI G (r 11) 1024 sv, aI G (r 12) 1024 sw, aZ G (r 13) 512 mk2, aI G (r 14) 229 f, aI G (r 15) 1024 hp, aJ G (r 16) 1024 hh, aJ G (r 17) 1024 hl9] ++ (chA (chB G kk ks kv kw q sz ch cl fs fv fw) ++ decW G T)) := hD
    generalize htl : (chA (chB G kk ks kv kw q sz ch cl fs fv fw) ++ decW G T) = tl at hP hD
    refine lv_aload_n hx hb dLa_law_1019 rfl (lv_at hl 1 rfl) ?_
    refine lv_aload_n hx hb dLa_law_1020 rfl (lv_at hl 0 rfl) ?_
    refine lv_iload hx hb dLa_law_1021 (lv_at hl 4 rfl) ?_
    refine lv_iconst (v := nI 1) hx hb dLa_law_1023 (by decide) ?_
    refine lv_iadd hx hb dLa_law_1024 ?_
    refine ck_sld hx hb hX hbl hbA hS (9 * j + 1) (nI_add _ _) (by omega) (by omega) hy1 dLa_law_1025 ?_
    refine lv_aload_n hx hb dLa_law_1026 rfl (lv_at hl 0 rfl) ?_
    refine lv_iload hx hb dLa_law_1027 (lv_at hl 4 rfl) ?_
    refine lv_iconst (v := nI 2) hx hb dLa_law_1029 (by decide) ?_
    refine lv_iadd hx hb dLa_law_1030 ?_
    refine ck_sld hx hb hX hbl hbA hS (9 * j + 2) (nI_add _ _) (by omega) (by omega) hy2 dLa_law_1031 ?_
    refine lv_aload_n hx hb dLa_law_1032 rfl (lv_at hl 0 rfl) ?_
    refine lv_iload hx hb dLa_law_1033 (lv_at hl 4 rfl) ?_
    refine lv_iconst (v := nI 3) hx hb dLa_law_1035 (by decide) ?_
    refine lv_iadd hx hb dLa_law_1036 ?_
    refine ck_sld hx hb hX hbl hbA hS (9 * j + 3) (nI_add _ _) (by omega) (by omega) hy3 dLa_law_1037 ?_
    refine lv_i2l (v := y3.toInt64) hx hb dLa_law_1038 rfl ?_
    refine lv_bipush (v := nI 32) hx hb dLa_law_1039 (by decide) ?_
    refine lv_lshl (v := lsh y3.toInt64 (nI 32)) hx hb dLa_law_1041 rfl ?_
    refine lv_aload_n hx hb dLa_law_1042 rfl (lv_at hl 0 rfl) ?_
    refine lv_iload hx hb dLa_law_1043 (lv_at hl 4 rfl) ?_
    refine lv_iconst (v := nI 4) hx hb dLa_law_1045 (by decide) ?_
    refine lv_iadd hx hb dLa_law_1046 ?_
    refine ck_sld hx hb hX hbl hbA hS (9 * j + 4) (nI_add _ _) (by omega) (by omega) hy4 dLa_law_1047 ?_
    refine lv_i2l (v := y4.toInt64) hx hb dLa_law_1048 rfl ?_
    refine lv_ldc2 (v := lN 4294967295) hx hb hown (hts _ kkLa_80) dLa_law_1049 ?_
    refine lv_land hx hb dLa_law_1052 ?_
    refine lv_lor hx hb dLa_law_1053 ?_
    refine ck_rl (y := jLL y3 y4) rfl ?_
    refine lv_aload_n hx hb dLa_law_1054 rfl (lv_at hl 0 rfl) ?_
    refine lv_iload hx hb dLa_law_1055 (lv_at hl 4 rfl) ?_
    refine lv_iconst (v := nI 5) hx hb dLa_law_1057 (by decide) ?_
    refine lv_iadd hx hb dLa_law_1058 ?_
    refine ck_sld hx hb hX hbl hbA hS (9 * j + 5) (nI_add _ _) (by omega) (by omega) hy5 dLa_law_1059 ?_
    refine lv_i2l (v := y5.toInt64) hx hb dLa_law_1060 rfl ?_
    refine lv_bipush (v := nI 32) hx hb dLa_law_1061 (by decide) ?_
    refine lv_lshl (v := lsh y5.toInt64 (nI 32)) hx hb dLa_law_1063 rfl ?_
    refine lv_aload_n hx hb dLa_law_1064 rfl (lv_at hl 0 rfl) ?_
    refine lv_iload hx hb dLa_law_1065 (lv_at hl 4 rfl) ?_
    refine lv_bipush (v := nI 6) hx hb dLa_law_1067 (by decide) ?_
    refine lv_iadd hx hb dLa_law_1069 ?_
    refine ck_sld hx hb hX hbl hbA hS (9 * j + 6) (nI_add _ _) (by omega) (by omega) hy6 dLa_law_1070 ?_
    refine lv_i2l (v := y6.toInt64) hx hb dLa_law_1071 rfl ?_
    refine lv_ldc2 (v := lN 4294967295) hx hb hown (hts _ kkLa_80) dLa_law_1072 ?_
    refine lv_land hx hb dLa_law_1075 ?_
    refine lv_lor hx hb dLa_law_1076 ?_
    refine ck_rl (y := jLL y5 y6) rfl ?_
    refine lv_aload_n hx hb dLa_law_1077 rfl (lv_at hl 0 rfl) ?_
    refine lv_iload hx hb dLa_law_1078 (lv_at hl 4 rfl) ?_
    refine lv_bipush (v := nI 7) hx hb dLa_law_1080 (by decide) ?_
    refine lv_iadd hx hb dLa_law_1082 ?_
    refine ck_sld hx hb hX hbl hbA hS (9 * j + 7) (nI_add _ _) (by omega) (by omega) hy7 dLa_law_1083 ?_
    refine lv_i2l (v := y7.toInt64) hx hb dLa_law_1084 rfl ?_
    refine lv_bipush (v := nI 32) hx hb dLa_law_1085 (by decide) ?_
    refine lv_lshl (v := lsh y7.toInt64 (nI 32)) hx hb dLa_law_1087 rfl ?_
    refine lv_aload_n hx hb dLa_law_1088 rfl (lv_at hl 0 rfl) ?_
    refine lv_iload hx hb dLa_law_1089 (lv_at hl 4 rfl) ?_
    refine lv_bipush (v := nI 8) hx hb dLa_law_1091 (by decide) ?_
    refine lv_iadd hx hb dLa_law_1093 ?_
    refine ck_sld hx hb hX hbl hbA hS (9 * j + 8) (nI_add _ _) (by omega) (by omega) hy8 dLa_law_1094 ?_
    refine lv_i2l (v := y8.toInt64) hx hb dLa_law_1095 rfl ?_
    refine lv_ldc2 (v := lN 4294967295) hx hb hown (hts _ kkLa_80) dLa_law_1096 ?_
    refine lv_land hx hb dLa_law_1099 ?_
    refine lv_lor hx hb dLa_law_1100 ?_
    refine ck_rl (y := jLL y7 y8) rfl ?_
    refine clLa_125 (As := [.ref ox, .int y1, .int y2, .long (jLL y3 y4), .long (jLL y5 y6), .long (jLL y7 y8)]) (rest := []) hx hb hml hown hts (w_La_open_IOB (wi := [oC ox 7 [.ref oc, .ref ot, .ref oo, .ref oe, .ref op, .ref ocs, .ref ods, .long oh, .long ol], oC ot 6 [.int (nI dp), .long sh, .long sl]]) l G ox y1 y2 (jLL y3 y4) (jLL y5 y6) (jLL y7 y8) (x_CK_open1 l hl0 G ox oc ot oo oe op ocs ods oh ol dp hdp sh sl y1 y2 hd (jLL y3 y4) (jLL y5 y6) (jLL y7 y8)) 0 rfl [0, 1] rfl rfl rfl) hG hA hP hD hS [1, 2] rfl rfl (fun _ => rfl) rfl hl.1 rfl (Nat.le_of_ble_eq_true rfl) ⟨Nat.le_of_ble_eq_true rfl, Nat.le_of_ble_eq_true rfl⟩ ⟨Nat.le_trans (Nat.add_le_add_left (Nat.le_of_ble_eq_true rfl) _) hcf.1, Nat.le_trans (Nat.add_le_add_left (Nat.le_of_ble_eq_true rfl) _) hcf.2⟩ dLa_law_1101 (fun _ H locs _ hP hD hS => ?_)
    have hP : va_P G.1 vwCl ([aJ G oq 1 fo, oC ox 7 [.ref oc, .ref ot, .ref oo, .ref oe, .ref op, .ref ocs, .ref ods, .long oh, .long ol], oC ot 6 [.int (nI dp), .long sh, .long sl], oC oc 1 [.ref owd, .long e0, .long f0], aI G owd 44 g, oC oo 2 [.ref om], aZ G om 512 mk, oC oe 4 [.long c0, .long h0, .long l0], oC op 5 [.ref ob, .int (nI nq)], aI G ob 229 f, aH G ocs 4 (fun j => some (kk j)), aQ G ods 256 dec, moC oy r th fi se (nI dp) sh sl (nI nq) oh ol w0 w1 w2, aI G (r 0) 256 ckS, aI G (r 1) 256 ckU, aI G (r 2) 176 (bN ff), aI G (r 3) 16 (bN gg), aI G (r 4) 16 (bN mm), aZ G (r 5) 256 ins, aZ G (r 6) 1024 sb, aI G (r 7) 4 per, aJ G (r 8) 4 ph, aJ G (r 9) 4 pl, aI G (r 10) 4 ss, aI G (r 11) 1024 sv, aI G (r 12) 1024 sw, aZ G (r 13) 512 mk2, aI G (r 14) 229 f, aI G (r 15) 1024 hp, aJ G (r 16) 1024 hh, aJ G (r 17) 1024 hl9] ++ tl) H := hP
    have hD : va_D A ([aJ G oq 1 fo, oC ox 7 [.ref oc, .ref ot, .ref oo, .ref oe, .ref op, .ref ocs, .ref ods, .long oh, .long ol], oC ot 6 [.int (nI dp), .long sh, .long sl], oC oc 1 [.ref owd, .long e0, .long f0], aI G owd 44 g, oC oo 2 [.ref om], aZ G om 512 mk, oC oe 4 [.long c0, .long h0, .long l0], oC op 5 [.ref ob, .int (nI nq)], aI G ob 229 f, aH G ocs 4 (fun j => some (kk j)), aQ G ods 256 dec, moC oy r th fi se (nI dp) sh sl (nI nq) oh ol w0 w1 w2, aI G (r 0) 256 ckS, aI G (r 1) 256 ckU, aI G (r 2) 176 (bN ff), aI G (r 3) 16 (bN gg), aI G (r 4) 16 (bN mm), aZ G (r 5) 256 ins, aZ G (r 6) 1024 sb, aI G (r 7) 4 per, aJ G (r 8) 4 ph, aJ G (r 9) 4 pl, aI G (r 10) 4 ss, aI G (r 11) 1024 sv, aI G (r 12) 1024 sw, aZ G (r 13) 512 mk2, aI G (r 14) 229 f, aI G (r 15) 1024 hp, aJ G (r 16) 1024 hh, aJ G (r 17) 1024 hl9] ++ tl) := hD
    refine W.widen (k := 60 + 4 * j + 4) (n := 20000 + 20 * j + 20) (Nat.add_le_add_left (Nat.le_of_ble_eq_true rfl) _) (Nat.add_le_add_left (Nat.le_of_ble_eq_true rfl) _) ?_
    refine W.eq (g2 := F0 m 1104 ls [.int (nI 1)]) rfl ?_
    refine lv_istore (lv' := [(5, .int (nI 1)), (0, .ref b), (1, .ref ox), (2, .ref oy), (3, .ref oq), (4, .int (nI (9 * j)))]) hx hb dLa_law_1104 hl (by decide) rfl (fun ls hl => ?_)
    refine lv_aload_n hx hb dLa_law_1106 rfl (lv_at hl 3 rfl) ?_
    refine lv_aload_n hx hb dLa_law_1107 rfl (lv_at hl 1 rfl) ?_
    refine lv_iload hx hb dLa_law_1108 (lv_at hl 5 rfl) ?_
    refine lv_iconst (v := nI 1) hx hb dLa_law_1110 (by decide) ?_
    refine lv_iadd hx hb dLa_law_1111 ?_
    refine ck_sld hx hb hX hbl hbA hS (9 * j + 1) (nI_add _ _) (by omega) (by omega) hy1 dLa_law_1112 ?_
    refine lv_aload_n hx hb dLa_law_1113 rfl (lv_at hl 1 rfl) ?_
    refine lv_iload hx hb dLa_law_1114 (lv_at hl 5 rfl) ?_
    refine lv_iconst (v := nI 2) hx hb dLa_law_1116 (by decide) ?_
    refine lv_iadd hx hb dLa_law_1117 ?_
    refine ck_sld hx hb hX hbl hbA hS (9 * j + 2) (nI_add _ _) (by omega) (by omega) hy2 dLa_law_1118 ?_
    refine lv_aload_n hx hb dLa_law_1119 rfl (lv_at hl 1 rfl) ?_
    refine lv_iload hx hb dLa_law_1120 (lv_at hl 5 rfl) ?_
    refine lv_iconst (v := nI 3) hx hb dLa_law_1122 (by decide) ?_
    refine lv_iadd hx hb dLa_law_1123 ?_
    refine ck_sld hx hb hX hbl hbA hS (9 * j + 3) (nI_add _ _) (by omega) (by omega) hy3 dLa_law_1124 ?_
    refine lv_i2l (v := y3.toInt64) hx hb dLa_law_1125 rfl ?_
    refine lv_bipush (v := nI 32) hx hb dLa_law_1126 (by decide) ?_
    refine lv_lshl (v := lsh y3.toInt64 (nI 32)) hx hb dLa_law_1128 rfl ?_
    refine lv_aload_n hx hb dLa_law_1129 rfl (lv_at hl 1 rfl) ?_
    refine lv_iload hx hb dLa_law_1130 (lv_at hl 5 rfl) ?_
    refine lv_iconst (v := nI 4) hx hb dLa_law_1132 (by decide) ?_
    refine lv_iadd hx hb dLa_law_1133 ?_
    refine ck_sld hx hb hX hbl hbA hS (9 * j + 4) (nI_add _ _) (by omega) (by omega) hy4 dLa_law_1134 ?_
    refine lv_i2l (v := y4.toInt64) hx hb dLa_law_1135 rfl ?_
    refine lv_ldc2 (v := lN 4294967295) hx hb hown (hts _ kkLa_80) dLa_law_1136 ?_
    refine lv_land hx hb dLa_law_1139 ?_
    refine lv_lor hx hb dLa_law_1140 ?_
    refine ck_rl (y := jLL y3 y4) rfl ?_
    refine lv_aload_n hx hb dLa_law_1141 rfl (lv_at hl 1 rfl) ?_
    refine lv_iload hx hb dLa_law_1142 (lv_at hl 5 rfl) ?_
    refine lv_iconst (v := nI 5) hx hb dLa_law_1144 (by decide) ?_
    refine lv_iadd hx hb dLa_law_1145 ?_
    refine ck_sld hx hb hX hbl hbA hS (9 * j + 5) (nI_add _ _) (by omega) (by omega) hy5 dLa_law_1146 ?_
    refine lv_i2l (v := y5.toInt64) hx hb dLa_law_1147 rfl ?_
    refine lv_bipush (v := nI 32) hx hb dLa_law_1148 (by decide) ?_
    refine lv_lshl (v := lsh y5.toInt64 (nI 32)) hx hb dLa_law_1150 rfl ?_
    refine lv_aload_n hx hb dLa_law_1151 rfl (lv_at hl 1 rfl) ?_
    refine lv_iload hx hb dLa_law_1152 (lv_at hl 5 rfl) ?_
    refine lv_bipush (v := nI 6) hx hb dLa_law_1154 (by decide) ?_
    refine lv_iadd hx hb dLa_law_1156 ?_
    refine ck_sld hx hb hX hbl hbA hS (9 * j + 6) (nI_add _ _) (by omega) (by omega) hy6 dLa_law_1157 ?_
    refine lv_i2l (v := y6.toInt64) hx hb dLa_law_1158 rfl ?_
    refine lv_ldc2 (v := lN 4294967295) hx hb hown (hts _ kkLa_80) dLa_law_1159 ?_
    refine lv_land hx hb dLa_law_1162 ?_
    refine lv_lor hx hb dLa_law_1163 ?_
    refine ck_rl (y := jLL y5 y6) rfl ?_
    refine lv_aload_n hx hb dLa_law_1164 rfl (lv_at hl 1 rfl) ?_
    refine lv_iload hx hb dLa_law_1165 (lv_at hl 5 rfl) ?_
    refine lv_bipush (v := nI 7) hx hb dLa_law_1167 (by decide) ?_
    refine lv_iadd hx hb dLa_law_1169 ?_
    refine ck_sld hx hb hX hbl hbA hS (9 * j + 7) (nI_add _ _) (by omega) (by omega) hy7 dLa_law_1170 ?_
    refine lv_i2l (v := y7.toInt64) hx hb dLa_law_1171 rfl ?_
    refine lv_bipush (v := nI 32) hx hb dLa_law_1172 (by decide) ?_
    refine lv_lshl (v := lsh y7.toInt64 (nI 32)) hx hb dLa_law_1174 rfl ?_
    refine lv_aload_n hx hb dLa_law_1175 rfl (lv_at hl 1 rfl) ?_
    refine lv_iload hx hb dLa_law_1176 (lv_at hl 5 rfl) ?_
    refine lv_bipush (v := nI 8) hx hb dLa_law_1178 (by decide) ?_
    refine lv_iadd hx hb dLa_law_1180 ?_
    refine ck_sld hx hb hX hbl hbA hS (9 * j + 8) (nI_add _ _) (by omega) (by omega) hy8 dLa_law_1181 ?_
    refine lv_i2l (v := y8.toInt64) hx hb dLa_law_1182 rfl ?_
    refine lv_ldc2 (v := lN 4294967295) hx hb hown (hts _ kkLa_80) dLa_law_1183 ?_
    refine lv_land hx hb dLa_law_1186 ?_
    refine lv_lor hx hb dLa_law_1187 ?_
    refine ck_rl (y := jLL y7 y8) rfl ?_
    refine clLa_128 (As := [.int y1, .int y2, .long (jLL y3 y4), .long (jLL y5 y6), .long (jLL y7 y8)]) (rest := []) hx hb hml hown hts (k_Mo_open_e1 l G oy r th fi se dp hdp sh sl (nI nq) oh ol w0 w1 w2 y1 y2 (by rw [hd]; rfl) (jLL y3 y4) (jLL y5 y6) (jLL y7 y8)) hG hA hP hD hS 12 rfl [12] rfl rfl (fun _ => rfl) rfl hl.1 rfl (Nat.le_of_ble_eq_true rfl) ⟨Nat.le_of_ble_eq_true rfl, Nat.le_of_ble_eq_true rfl⟩ ⟨hcf.1, hcf.2⟩ dLa_law_1188 (fun _ H locs _ hP hD hS => ?_)
    have hP : va_P G.1 vwCl ([aJ G oq 1 fo, oC ox 7 [.ref oc, .ref ot, .ref oo, .ref oe, .ref op, .ref ocs, .ref ods, .long oh, .long ol], oC ot 6 [.int (nI dp), .long sh, .long sl], oC oc 1 [.ref owd, .long e0, .long f0], aI G owd 44 g, oC oo 2 [.ref om], aZ G om 512 mk, oC oe 4 [.long c0, .long h0, .long l0], oC op 5 [.ref ob, .int (nI nq)], aI G ob 229 f, aH G ocs 4 (fun j => some (kk j)), aQ G ods 256 dec, moC oy r (nI 1) fi se (nI dp) sh sl (nI nq) oh ol w0 w1 w2, aI G (r 0) 256 ckS, aI G (r 1) 256 ckU, aI G (r 2) 176 (bN ff), aI G (r 3) 16 (bN gg), aI G (r 4) 16 (bN mm), aZ G (r 5) 256 ins, aZ G (r 6) 1024 sb, aI G (r 7) 4 per, aJ G (r 8) 4 ph, aJ G (r 9) 4 pl, aI G (r 10) 4 ss, aI G (r 11) 1024 sv, aI G (r 12) 1024 sw, aZ G (r 13) 512 mk2, aI G (r 14) 229 f, aI G (r 15) 1024 hp, aJ G (r 16) 1024 hh, aJ G (r 17) 1024 hl9] ++ tl) H := hP
    have hD : va_D A ([aJ G oq 1 fo, oC ox 7 [.ref oc, .ref ot, .ref oo, .ref oe, .ref op, .ref ocs, .ref ods, .long oh, .long ol], oC ot 6 [.int (nI dp), .long sh, .long sl], oC oc 1 [.ref owd, .long e0, .long f0], aI G owd 44 g, oC oo 2 [.ref om], aZ G om 512 mk, oC oe 4 [.long c0, .long h0, .long l0], oC op 5 [.ref ob, .int (nI nq)], aI G ob 229 f, aH G ocs 4 (fun j => some (kk j)), aQ G ods 256 dec, moC oy r (nI 1) fi se (nI dp) sh sl (nI nq) oh ol w0 w1 w2, aI G (r 0) 256 ckS, aI G (r 1) 256 ckU, aI G (r 2) 176 (bN ff), aI G (r 3) 16 (bN gg), aI G (r 4) 16 (bN mm), aZ G (r 5) 256 ins, aZ G (r 6) 1024 sb, aI G (r 7) 4 per, aJ G (r 8) 4 ph, aJ G (r 9) 4 pl, aI G (r 10) 4 ss, aI G (r 11) 1024 sv, aI G (r 12) 1024 sw, aZ G (r 13) 512 mk2, aI G (r 14) 229 f, aI G (r 15) 1024 hp, aJ G (r 16) 1024 hh, aJ G (r 17) 1024 hl9] ++ tl) := hD
    refine W.cs (cells' := 60 + 4 * j + 4) (slots' := 20000 + 20 * j + 20) rfl rfl ?_
    refine W.eq (g2 := F0 m 1191 ls []) rfl ?_
    refine lv_aload_n hx hb dLa_law_1191 rfl (lv_at hl 3 rfl) ?_
    refine clLa_88 (As := []) (rest := []) hx hb hml hown hts (k_Mo_thrown l G oy r (nI 1) fi se (nI dp) sh sl (nI nq) oh ol w0 w1 w2) hG hA hP hD hS 12 rfl [12] rfl rfl (fun _ => rfl) rfl hl.1 rfl (Nat.le_of_ble_eq_true rfl) ⟨Nat.le_of_ble_eq_true rfl, Nat.le_of_ble_eq_true rfl⟩ ⟨hcf.1, hcf.2⟩ dLa_law_1192 (fun _ H locs _ hP hD hS => ?_)
    have hP : va_P G.1 vwCl ([aJ G oq 1 fo, oC ox 7 [.ref oc, .ref ot, .ref oo, .ref oe, .ref op, .ref ocs, .ref ods, .long oh, .long ol], oC ot 6 [.int (nI dp), .long sh, .long sl], oC oc 1 [.ref owd, .long e0, .long f0], aI G owd 44 g, oC oo 2 [.ref om], aZ G om 512 mk, oC oe 4 [.long c0, .long h0, .long l0], oC op 5 [.ref ob, .int (nI nq)], aI G ob 229 f, aH G ocs 4 (fun j => some (kk j)), aQ G ods 256 dec, moC oy r (nI 1) fi se (nI dp) sh sl (nI nq) oh ol w0 w1 w2, aI G (r 0) 256 ckS, aI G (r 1) 256 ckU, aI G (r 2) 176 (bN ff), aI G (r 3) 16 (bN gg), aI G (r 4) 16 (bN mm), aZ G (r 5) 256 ins, aZ G (r 6) 1024 sb, aI G (r 7) 4 per, aJ G (r 8) 4 ph, aJ G (r 9) 4 pl, aI G (r 10) 4 ss, aI G (r 11) 1024 sv, aI G (r 12) 1024 sw, aZ G (r 13) 512 mk2, aI G (r 14) 229 f, aI G (r 15) 1024 hp, aJ G (r 16) 1024 hh, aJ G (r 17) 1024 hl9] ++ tl) H := hP
    have hD : va_D A ([aJ G oq 1 fo, oC ox 7 [.ref oc, .ref ot, .ref oo, .ref oe, .ref op, .ref ocs, .ref ods, .long oh, .long ol], oC ot 6 [.int (nI dp), .long sh, .long sl], oC oc 1 [.ref owd, .long e0, .long f0], aI G owd 44 g, oC oo 2 [.ref om], aZ G om 512 mk, oC oe 4 [.long c0, .long h0, .long l0], oC op 5 [.ref ob, .int (nI nq)], aI G ob 229 f, aH G ocs 4 (fun j => some (kk j)), aQ G ods 256 dec, moC oy r (nI 1) fi se (nI dp) sh sl (nI nq) oh ol w0 w1 w2, aI G (r 0) 256 ckS, aI G (r 1) 256 ckU, aI G (r 2) 176 (bN ff), aI G (r 3) 16 (bN gg), aI G (r 4) 16 (bN mm), aZ G (r 5) 256 ins, aZ G (r 6) 1024 sb, aI G (r 7) 4 per, aJ G (r 8) 4 ph, aJ G (r 9) 4 pl, aI G (r 10) 4 ss, aI G (r 11) 1024 sv, aI G (r 12) 1024 sw, aZ G (r 13) 512 mk2, aI G (r 14) 229 f, aI G (r 15) 1024 hp, aJ G (r 16) 1024 hh, aJ G (r 17) 1024 hl9] ++ tl) := hD
    refine W.cs (cells' := 60 + 4 * j + 4) (slots' := 20000 + 20 * j + 20) rfl rfl ?_
    refine W.eq (g2 := F0 m 1195 ls [.int (nI 1)]) rfl ?_
    refine lv_iload hx hb dLa_law_1195 (lv_at hl 0 rfl) ?_
    refine lv_icmp_eq (tgt := 1202) hx hb dLa_law_1197 rfl (fun _ => ?_) (fun h => absurd (rfl) h)
    refine lv_goto (tgt := 1641) hx hb dLa_law_1202 rfl ?_
    refine lv_iinc (v := nI (9 * (j + 1))) (lv' := [(4, .int (nI (9 * (j + 1)))), (5, .int (nI 1)), (0, .ref b), (1, .ref ox), (2, .ref oy), (3, .ref oq)]) hx hb dLa_law_1641 hl (k := 5) rfl (nI_add (9 * j) 9) (by decide) rfl (fun ls hl => ?_)
    refine lv_goto (tgt := 23) hx hb dLa_law_1644 rfl ?_
    refine W.cs (cells' := 60 + 4 * (j + 1)) (slots' := 20000 + 20 * (j + 1)) (by omega) (by omega) ?_
    subst htl
    exact ih oh ol dp sh sl g e0 f0 mk c0 h0 l0 nq f dec q sz ch cl fs fv fw T fo (nI 1) fi se w0 w1 w2 ff gg mm ins sb per ph pl ss sv sw mk2 hp hh hl9 _ _ _ hdp1 hdp hR1 hR2 hR3 hR4 hP hD hS (lv_sub hl [2, 3, 4, 5, 0] rfl)
set_option maxHeartbeats 1500000 in
set_option maxRecDepth 100000 in
theorem law_reach {p : Program} {l : Launch} {e : Env} {s : State} {m : MethodId} {below : List Frame} {meth : Method} {c : Code} {A : Nat → Prop} {G : gG} {b : Nat} {L : Nat} {xs : Nat → Int32} {ox oc owd ot oo om oe op ob ocs ods oq oy : Nat} {kk ks kv kw r : Nat → Nat} (hC0 : LC p l s m c A G b L xs) {j : Nat} (hj : 9 * j + 9 ≤ L) (ih : LAp p l e s m below meth c A G b ox oc owd ot oo om oe op ob ocs ods oq oy kk ks kv kw r 23 (j + 1)) : LAp p l e s m below meth c A G b ox oc owd ot oo om oe op ob ocs ods oq oy kk ks kv kw r 1422 j := by
  intro oh ol dp sh sl g e0 f0 mk c0 h0 l0 nq f dec q sz ch cl fs fv fw T fo th fi se w0 w1 w2 ff gg mm ins sb per ph pl ss sv sw mk2 hp hh hl9 H locs ls hdp1 hdp hR1 hR2 hR3 hR4 hP hD hS hl
  obtain ⟨hx, hb, hml, hown, hts, hG, hA, hX, hbl, hbA, hl0, hLN⟩ := hC0
  have hcf : 60 + 4 * j + 4 ≤ room_1.cells ∧ 20000 + 20 * j + 20 ≤ room_1.slots := ⟨by show _ ≤ 601024; omega, by show _ ≤ 7293034; omega⟩
  have hp2 := p2_le hdp
  have hp1 := Nat.two_pow_pos dp
  have hl : lv_has ls 8 [(0, .ref b), (1, .ref ox), (2, .ref oy), (3, .ref oq), (4, .int (nI (9 * j)))] := hl
  obtain ⟨y1, hy1⟩ : ∃ y, xs (9 * j + 1) = y := ⟨_, rfl⟩
  obtain ⟨y2, hy2⟩ : ∃ y, xs (9 * j + 2) = y := ⟨_, rfl⟩
  rcases Bool.eq_false_or_eq_true (jIn (2 ^ dp) y1) with hd | hd
  · obtain ⟨dd, hdd, rfl⟩ := jIn_t (by omega) hd
    have hd256 : dd < 256 := by omega
    rcases Bool.eq_false_or_eq_true (jIn 4 y2) with hc | hc
    · obtain ⟨c4, hc4, rfl⟩ := jIn_t (by decide) hc
      obtain ⟨r1, r2, r3, r4, r5, r6, r7⟩ := hR1 c4 hc4
      by_cases hq0 : q c4 = 0
      · have hqz : nI (q c4) = nI 0 := by rw [hq0]
        have hP := P_perm (pmB [aJ G oq 1 fo, oC ox 7 [.ref oc, .ref ot, .ref oo, .ref oe, .ref op, .ref ocs, .ref ods, .long oh, .long ol], oC ot 6 [.int (nI dp), .long sh, .long sl], oC oc 1 [.ref owd, .long e0, .long f0], aI G owd 44 g, oC oo 2 [.ref om], aZ G om 512 mk, oC oe 4 [.long c0, .long h0, .long l0], oC op 5 [.ref ob, .int (nI nq)], aI G ob 229 f, aH G ocs 4 (fun j => some (kk j)), aQ G ods 256 dec, moC oy r th fi se (nI dp) sh sl (nI nq) oh ol w0 w1 w2, aI G (r 0) 256 ckS, aI G (r 1) 256 ckU, aI G (r 2) 176 (bN ff), aI G (r 3) 16 (bN gg), aI G (r 4) 16 (bN mm), aZ G (r 5) 256 ins, aZ G (r 6) 1024 sb, aI G (r 7) 4 per, aJ G (r 8) 4 ph, aJ G (r 9) 4 pl, aI G (r 10) 4 ss, aI G (r 11) 1024 sv, aI G (r 12) 1024 sw, aZ G (r 13) 512 mk2, aI G (r 14) 229 f, aI G (r 15) 1024 hp, aJ G (r 16) 1024 hh, aJ G (r 17) 1024 hl9] (chB G kk ks kv kw q sz ch cl fs fv fw) (decW G T) hc4) hP
        have hD := D_perm (pmB [aJ G oq 1 fo, oC ox 7 [.ref oc, .ref ot, .ref oo, .ref oe, .ref op, .ref ocs, .ref ods, .long oh, .long ol], oC ot 6 [.int (nI dp), .long sh, .long sl], oC oc 1 [.ref owd, .long e0, .long f0], aI G owd 44 g, oC oo 2 [.ref om], aZ G om 512 mk, oC oe 4 [.long c0, .long h0, .long l0], oC op 5 [.ref ob, .int (nI nq)], aI G ob 229 f, aH G ocs 4 (fun j => some (kk j)), aQ G ods 256 dec, moC oy r th fi se (nI dp) sh sl (nI nq) oh ol w0 w1 w2, aI G (r 0) 256 ckS, aI G (r 1) 256 ckU, aI G (r 2) 176 (bN ff), aI G (r 3) 16 (bN gg), aI G (r 4) 16 (bN mm), aZ G (r 5) 256 ins, aZ G (r 6) 1024 sb, aI G (r 7) 4 per, aJ G (r 8) 4 ph, aJ G (r 9) 4 pl, aI G (r 10) 4 ss, aI G (r 11) 1024 sv, aI G (r 12) 1024 sw, aZ G (r 13) 512 mk2, aI G (r 14) 229 f, aI G (r 15) 1024 hp, aJ G (r 16) 1024 hh, aJ G (r 17) 1024 hl9] (chB G kk ks kv kw q sz ch cl fs fv fw) (decW G T) hc4) hD
        have hP : va_P G.1 vwCl ([aJ G oq 1 fo, oC ox 7 [.ref oc, .ref ot, .ref oo, .ref oe, .ref op, .ref ocs, .ref ods, .long oh, .long ol], oC ot 6 [.int (nI dp), .long sh, .long sl], oC oc 1 [.ref owd, .long e0, .long f0], aI G owd 44 g, oC oo 2 [.ref om], aZ G om 512 mk, oC oe 4 [.long c0, .long h0, .long l0], oC op 5 [.ref ob, .int (nI nq)], aI G ob 229 f, aH G ocs 4 (fun j => some (kk j)), aQ G ods 256 dec, moC oy r th fi se (nI dp) sh sl (nI nq) oh ol w0 w1 w2, aI G (r 0) 256 ckS, aI G (r 1) 256 ckU, aI G (r 2) 176 (bN ff), aI G (r 3) 16 (bN gg), aI G (r 4) 16 (bN mm), aZ G (r 5) 256 ins, aZ G (r 6) 1024 sb, aI G (r 7) 4 per, aJ G (r 8) 4 ph, aJ G (r 9) 4 pl, aI G (r 10) 4 ss, aI G (r 11) 1024 sv, aI G (r 12) 1024 sw, aZ G (r 13) 512 mk2, aI G (r 14) 229 f, aI G (r 15) 1024 hp, aJ G (r 16) 1024 hh, aJ G (r 17) 1024 hl9, oC (kk c4) 0 [.ref (ks c4), .ref (kv c4), .ref (kw c4), .int (nI (q c4)), .int (nI (sz c4)), .long (ch c4), .long (cl c4)], aZ G (ks c4) 256 (fs c4), aI G (kv c4) 128 (fv c4), aI G (kw c4) 128 (fw c4)] ++ (chO (chB G kk ks kv kw q sz ch cl fs fv fw) c4 ++ decW G T)) H := hP
        have hD : va_D A ([aJ G oq 1 fo, oC ox 7 [.ref oc, .ref ot, .ref oo, .ref oe, .ref op, .ref ocs, .ref ods, .long oh, .long ol], oC ot 6 [.int (nI dp), .long sh, .long sl], oC oc 1 [.ref owd, .long e0, .long f0], aI G owd 44 g, oC oo 2 [.ref om], aZ G om 512 mk, oC oe 4 [.long c0, .long h0, .long l0], oC op 5 [.ref ob, .int (nI nq)], aI G ob 229 f, aH G ocs 4 (fun j => some (kk j)), aQ G ods 256 dec, moC oy r th fi se (nI dp) sh sl (nI nq) oh ol w0 w1 w2, aI G (r 0) 256 ckS, aI G (r 1) 256 ckU, aI G (r 2) 176 (bN ff), aI G (r 3) 16 (bN gg), aI G (r 4) 16 (bN mm), aZ G (r 5) 256 ins, aZ G (r 6) 1024 sb, aI G (r 7) 4 per, aJ G (r 8) 4 ph, aJ G (r 9) 4 pl, aI G (r 10) 4 ss, aI G (r 11) 1024 sv, aI G (r 12) 1024 sw, aZ G (r 13) 512 mk2, aI G (r 14) 229 f, aI G (r 15) 1024 hp, aJ G (r 16) 1024 hh, aJ G (r 17) 1024 hl9, oC (kk c4) 0 [.ref (ks c4), .ref (kv c4), .ref (kw c4), .int (nI (q c4)), .int (nI (sz c4)), .long (ch c4), .long (cl c4)], aZ G (ks c4) 256 (fs c4), aI G (kv c4) 128 (fv c4), aI G (kw c4) 128 (fw c4)] ++ (chO (chB G kk ks kv kw q sz ch cl fs fv fw) c4 ++ decW G T)) := hD
        generalize htl : (chO (chB G kk ks kv kw q sz ch cl fs fv fw) c4 ++ decW G T) = tl at hP hD
        rw [hqz] at hP hD
        have hP : va_P G.1 vwCl ([aJ G oq 1 fo, oC ox 7 [.ref oc, .ref ot, .ref oo, .ref oe, .ref op, .ref ocs, .ref ods, .long oh, .long ol], oC ot 6 [.int (nI dp), .long sh, .long sl], oC oc 1 [.ref owd, .long e0, .long f0], aI G owd 44 g, oC oo 2 [.ref om], aZ G om 512 mk, oC oe 4 [.long c0, .long h0, .long l0], oC op 5 [.ref ob, .int (nI nq)], aI G ob 229 f, aH G ocs 4 (fun j => some (kk j)), aQ G ods 256 dec, moC oy r th fi se (nI dp) sh sl (nI nq) oh ol w0 w1 w2, aI G (r 0) 256 ckS, aI G (r 1) 256 ckU, aI G (r 2) 176 (bN ff), aI G (r 3) 16 (bN gg), aI G (r 4) 16 (bN mm), aZ G (r 5) 256 ins, aZ G (r 6) 1024 sb, aI G (r 7) 4 per, aJ G (r 8) 4 ph, aJ G (r 9) 4 pl, aI G (r 10) 4 ss, aI G (r 11) 1024 sv, aI G (r 12) 1024 sw, aZ G (r 13) 512 mk2, aI G (r 14) 229 f, aI G (r 15) 1024 hp, aJ G (r 16) 1024 hh, aJ G (r 17) 1024 hl9, oC (kk c4) 0 [.ref (ks c4), .ref (kv c4), .ref (kw c4), .int (nI 0), .int (nI (sz c4)), .long (ch c4), .long (cl c4)], aZ G (ks c4) 256 (fs c4), aI G (kv c4) 128 (fv c4), aI G (kw c4) 128 (fw c4)] ++ tl) H := hP
        have hD : va_D A ([aJ G oq 1 fo, oC ox 7 [.ref oc, .ref ot, .ref oo, .ref oe, .ref op, .ref ocs, .ref ods, .long oh, .long ol], oC ot 6 [.int (nI dp), .long sh, .long sl], oC oc 1 [.ref owd, .long e0, .long f0], aI G owd 44 g, oC oo 2 [.ref om], aZ G om 512 mk, oC oe 4 [.long c0, .long h0, .long l0], oC op 5 [.ref ob, .int (nI nq)], aI G ob 229 f, aH G ocs 4 (fun j => some (kk j)), aQ G ods 256 dec, moC oy r th fi se (nI dp) sh sl (nI nq) oh ol w0 w1 w2, aI G (r 0) 256 ckS, aI G (r 1) 256 ckU, aI G (r 2) 176 (bN ff), aI G (r 3) 16 (bN gg), aI G (r 4) 16 (bN mm), aZ G (r 5) 256 ins, aZ G (r 6) 1024 sb, aI G (r 7) 4 per, aJ G (r 8) 4 ph, aJ G (r 9) 4 pl, aI G (r 10) 4 ss, aI G (r 11) 1024 sv, aI G (r 12) 1024 sw, aZ G (r 13) 512 mk2, aI G (r 14) 229 f, aI G (r 15) 1024 hp, aJ G (r 16) 1024 hh, aJ G (r 17) 1024 hl9, oC (kk c4) 0 [.ref (ks c4), .ref (kv c4), .ref (kw c4), .int (nI 0), .int (nI (sz c4)), .long (ch c4), .long (cl c4)], aZ G (ks c4) 256 (fs c4), aI G (kv c4) 128 (fv c4), aI G (kw c4) 128 (fw c4)] ++ tl) := hD
        refine lv_aload_n hx hb dLa_law_1422 rfl (lv_at hl 1 rfl) ?_
        refine lv_aload_n hx hb dLa_law_1423 rfl (lv_at hl 0 rfl) ?_
        refine lv_iload hx hb dLa_law_1424 (lv_at hl 4 rfl) ?_
        refine lv_iconst (v := nI 1) hx hb dLa_law_1426 (by decide) ?_
        refine lv_iadd hx hb dLa_law_1427 ?_
        refine ck_sld hx hb hX hbl hbA hS (9 * j + 1) (nI_add _ _) (by omega) (by omega) hy1 dLa_law_1428 ?_
        refine lv_aload_n hx hb dLa_law_1429 rfl (lv_at hl 0 rfl) ?_
        refine lv_iload hx hb dLa_law_1430 (lv_at hl 4 rfl) ?_
        refine lv_iconst (v := nI 2) hx hb dLa_law_1432 (by decide) ?_
        refine lv_iadd hx hb dLa_law_1433 ?_
        refine ck_sld hx hb hX hbl hbA hS (9 * j + 2) (nI_add _ _) (by omega) (by omega) hy2 dLa_law_1434 ?_
        refine lv_aload_n hx hb dLa_law_1435 rfl (lv_at hl 3 rfl) ?_
        refine clLa_141 (As := [.ref ox, .int (nI dd), .int (nI c4), .ref oq]) (rest := []) hx hb hml hown hts (w_La_reach_ISE (wi := [oC ox 7 [.ref oc, .ref ot, .ref oo, .ref oe, .ref op, .ref ocs, .ref ods, .long oh, .long ol], oC ot 6 [.int (nI dp), .long sh, .long sl], aH G ocs 4 (fun j => some (kk j)), oC (kk c4) 0 [.ref (ks c4), .ref (kv c4), .ref (kw c4), .int (nI 0), .int (nI (sz c4)), .long (ch c4), .long (cl c4)]]) l G ox oq (nI dd) (nI c4) (x_CK_reach3 l hl0 G ox oc ot oo oe op ocs ods oh ol dp hdp sh sl dd hdd kk (ks c4) (kv c4) (kw c4) c4 hc4 (nI (sz c4)) (ch c4) (cl c4)) 0 rfl [0, 1, 2, 3] rfl rfl rfl) hG hA hP hD hS [1, 2, 10, 31] rfl rfl (fun _ => rfl) rfl hl.1 rfl (Nat.le_of_ble_eq_true rfl) ⟨Nat.le_of_ble_eq_true rfl, Nat.le_of_ble_eq_true rfl⟩ ⟨Nat.le_trans (Nat.add_le_add_left (Nat.le_of_ble_eq_true rfl) _) hcf.1, Nat.le_trans (Nat.add_le_add_left (Nat.le_of_ble_eq_true rfl) _) hcf.2⟩ dLa_law_1436 (fun _ H locs _ hP hD hS => ?_)
        have hP : va_P G.1 vwCl ([aJ G oq 1 fo, oC ox 7 [.ref oc, .ref ot, .ref oo, .ref oe, .ref op, .ref ocs, .ref ods, .long oh, .long ol], oC ot 6 [.int (nI dp), .long sh, .long sl], oC oc 1 [.ref owd, .long e0, .long f0], aI G owd 44 g, oC oo 2 [.ref om], aZ G om 512 mk, oC oe 4 [.long c0, .long h0, .long l0], oC op 5 [.ref ob, .int (nI nq)], aI G ob 229 f, aH G ocs 4 (fun j => some (kk j)), aQ G ods 256 dec, moC oy r th fi se (nI dp) sh sl (nI nq) oh ol w0 w1 w2, aI G (r 0) 256 ckS, aI G (r 1) 256 ckU, aI G (r 2) 176 (bN ff), aI G (r 3) 16 (bN gg), aI G (r 4) 16 (bN mm), aZ G (r 5) 256 ins, aZ G (r 6) 1024 sb, aI G (r 7) 4 per, aJ G (r 8) 4 ph, aJ G (r 9) 4 pl, aI G (r 10) 4 ss, aI G (r 11) 1024 sv, aI G (r 12) 1024 sw, aZ G (r 13) 512 mk2, aI G (r 14) 229 f, aI G (r 15) 1024 hp, aJ G (r 16) 1024 hh, aJ G (r 17) 1024 hl9, oC (kk c4) 0 [.ref (ks c4), .ref (kv c4), .ref (kw c4), .int (nI 0), .int (nI (sz c4)), .long (ch c4), .long (cl c4)], aZ G (ks c4) 256 (fs c4), aI G (kv c4) 128 (fv c4), aI G (kw c4) 128 (fw c4)] ++ tl) H := hP
        have hD : va_D A ([aJ G oq 1 fo, oC ox 7 [.ref oc, .ref ot, .ref oo, .ref oe, .ref op, .ref ocs, .ref ods, .long oh, .long ol], oC ot 6 [.int (nI dp), .long sh, .long sl], oC oc 1 [.ref owd, .long e0, .long f0], aI G owd 44 g, oC oo 2 [.ref om], aZ G om 512 mk, oC oe 4 [.long c0, .long h0, .long l0], oC op 5 [.ref ob, .int (nI nq)], aI G ob 229 f, aH G ocs 4 (fun j => some (kk j)), aQ G ods 256 dec, moC oy r th fi se (nI dp) sh sl (nI nq) oh ol w0 w1 w2, aI G (r 0) 256 ckS, aI G (r 1) 256 ckU, aI G (r 2) 176 (bN ff), aI G (r 3) 16 (bN gg), aI G (r 4) 16 (bN mm), aZ G (r 5) 256 ins, aZ G (r 6) 1024 sb, aI G (r 7) 4 per, aJ G (r 8) 4 ph, aJ G (r 9) 4 pl, aI G (r 10) 4 ss, aI G (r 11) 1024 sv, aI G (r 12) 1024 sw, aZ G (r 13) 512 mk2, aI G (r 14) 229 f, aI G (r 15) 1024 hp, aJ G (r 16) 1024 hh, aJ G (r 17) 1024 hl9, oC (kk c4) 0 [.ref (ks c4), .ref (kv c4), .ref (kw c4), .int (nI 0), .int (nI (sz c4)), .long (ch c4), .long (cl c4)], aZ G (ks c4) 256 (fs c4), aI G (kv c4) 128 (fv c4), aI G (kw c4) 128 (fw c4)] ++ tl) := hD
        refine W.widen (k := 60 + 4 * j + 4) (n := 20000 + 20 * j + 20) (Nat.add_le_add_left (Nat.le_of_ble_eq_true rfl) _) (Nat.add_le_add_left (Nat.le_of_ble_eq_true rfl) _) ?_
        refine W.eq (g2 := F0 m 1439 ls [.int (nI 2)]) rfl ?_
        refine lv_istore (lv' := [(5, .int (nI 2)), (0, .ref b), (1, .ref ox), (2, .ref oy), (3, .ref oq), (4, .int (nI (9 * j)))]) hx hb dLa_law_1439 hl (by decide) rfl (fun ls hl => ?_)
        refine lv_aload_n hx hb dLa_law_1441 rfl (lv_at hl 3 rfl) ?_
        refine lv_aload_n hx hb dLa_law_1442 rfl (lv_at hl 1 rfl) ?_
        refine lv_iload hx hb dLa_law_1443 (lv_at hl 5 rfl) ?_
        refine lv_iconst (v := nI 1) hx hb dLa_law_1445 (by decide) ?_
        refine lv_iadd hx hb dLa_law_1446 ?_
        refine ck_sld hx hb hX hbl hbA hS (9 * j + 1) (nI_add _ _) (by omega) (by omega) hy1 dLa_law_1447 ?_
        refine lv_aload_n hx hb dLa_law_1448 rfl (lv_at hl 1 rfl) ?_
        refine lv_iload hx hb dLa_law_1449 (lv_at hl 5 rfl) ?_
        refine lv_iconst (v := nI 2) hx hb dLa_law_1451 (by decide) ?_
        refine lv_iadd hx hb dLa_law_1452 ?_
        refine ck_sld hx hb hX hbl hbA hS (9 * j + 2) (nI_add _ _) (by omega) (by omega) hy2 dLa_law_1453 ?_
        refine clLa_143 (As := [.int (nI dd), .int (nI c4)]) (rest := []) hx hb hml hown hts (k_Mo_reach_e2 l G oy r th fi se dp hdp sh sl (nI nq) oh ol w0 w1 w2 dd hdd c4 hc4 per (by rw [r1, hq0])) hG hA hP hD hS 12 rfl [12, 20] rfl rfl (fun _ => rfl) rfl hl.1 rfl (Nat.le_of_ble_eq_true rfl) ⟨Nat.le_of_ble_eq_true rfl, Nat.le_of_ble_eq_true rfl⟩ ⟨hcf.1, hcf.2⟩ dLa_law_1454 (fun _ H locs _ hP hD hS => ?_)
        have hP : va_P G.1 vwCl ([aJ G oq 1 fo, oC ox 7 [.ref oc, .ref ot, .ref oo, .ref oe, .ref op, .ref ocs, .ref ods, .long oh, .long ol], oC ot 6 [.int (nI dp), .long sh, .long sl], oC oc 1 [.ref owd, .long e0, .long f0], aI G owd 44 g, oC oo 2 [.ref om], aZ G om 512 mk, oC oe 4 [.long c0, .long h0, .long l0], oC op 5 [.ref ob, .int (nI nq)], aI G ob 229 f, aH G ocs 4 (fun j => some (kk j)), aQ G ods 256 dec, moC oy r (nI 2) fi se (nI dp) sh sl (nI nq) oh ol w0 w1 w2, aI G (r 0) 256 ckS, aI G (r 1) 256 ckU, aI G (r 2) 176 (bN ff), aI G (r 3) 16 (bN gg), aI G (r 4) 16 (bN mm), aZ G (r 5) 256 ins, aZ G (r 6) 1024 sb, aI G (r 7) 4 per, aJ G (r 8) 4 ph, aJ G (r 9) 4 pl, aI G (r 10) 4 ss, aI G (r 11) 1024 sv, aI G (r 12) 1024 sw, aZ G (r 13) 512 mk2, aI G (r 14) 229 f, aI G (r 15) 1024 hp, aJ G (r 16) 1024 hh, aJ G (r 17) 1024 hl9, oC (kk c4) 0 [.ref (ks c4), .ref (kv c4), .ref (kw c4), .int (nI 0), .int (nI (sz c4)), .long (ch c4), .long (cl c4)], aZ G (ks c4) 256 (fs c4), aI G (kv c4) 128 (fv c4), aI G (kw c4) 128 (fw c4)] ++ tl) H := hP
        have hD : va_D A ([aJ G oq 1 fo, oC ox 7 [.ref oc, .ref ot, .ref oo, .ref oe, .ref op, .ref ocs, .ref ods, .long oh, .long ol], oC ot 6 [.int (nI dp), .long sh, .long sl], oC oc 1 [.ref owd, .long e0, .long f0], aI G owd 44 g, oC oo 2 [.ref om], aZ G om 512 mk, oC oe 4 [.long c0, .long h0, .long l0], oC op 5 [.ref ob, .int (nI nq)], aI G ob 229 f, aH G ocs 4 (fun j => some (kk j)), aQ G ods 256 dec, moC oy r (nI 2) fi se (nI dp) sh sl (nI nq) oh ol w0 w1 w2, aI G (r 0) 256 ckS, aI G (r 1) 256 ckU, aI G (r 2) 176 (bN ff), aI G (r 3) 16 (bN gg), aI G (r 4) 16 (bN mm), aZ G (r 5) 256 ins, aZ G (r 6) 1024 sb, aI G (r 7) 4 per, aJ G (r 8) 4 ph, aJ G (r 9) 4 pl, aI G (r 10) 4 ss, aI G (r 11) 1024 sv, aI G (r 12) 1024 sw, aZ G (r 13) 512 mk2, aI G (r 14) 229 f, aI G (r 15) 1024 hp, aJ G (r 16) 1024 hh, aJ G (r 17) 1024 hl9, oC (kk c4) 0 [.ref (ks c4), .ref (kv c4), .ref (kw c4), .int (nI 0), .int (nI (sz c4)), .long (ch c4), .long (cl c4)], aZ G (ks c4) 256 (fs c4), aI G (kv c4) 128 (fv c4), aI G (kw c4) 128 (fw c4)] ++ tl) := hD
        refine W.cs (cells' := 60 + 4 * j + 4) (slots' := 20000 + 20 * j + 20) rfl rfl ?_
        refine W.eq (g2 := F0 m 1457 ls [.int (nI 0)]) rfl ?_
        refine lv_istore (lv' := [(6, .int (nI 0)), (5, .int (nI 2)), (0, .ref b), (1, .ref ox), (2, .ref oy), (3, .ref oq), (4, .int (nI (9 * j)))]) hx hb dLa_law_1457 hl (by decide) rfl (fun ls hl => ?_)
        refine lv_aload_n hx hb dLa_law_1459 rfl (lv_at hl 4 rfl) ?_
        refine clLa_88 (As := []) (rest := []) hx hb hml hown hts (k_Mo_thrown l G oy r (nI 2) fi se (nI dp) sh sl (nI nq) oh ol w0 w1 w2) hG hA hP hD hS 12 rfl [12] rfl rfl (fun _ => rfl) rfl hl.1 rfl (Nat.le_of_ble_eq_true rfl) ⟨Nat.le_of_ble_eq_true rfl, Nat.le_of_ble_eq_true rfl⟩ ⟨hcf.1, hcf.2⟩ dLa_law_1460 (fun _ H locs _ hP hD hS => ?_)
        have hP : va_P G.1 vwCl ([aJ G oq 1 fo, oC ox 7 [.ref oc, .ref ot, .ref oo, .ref oe, .ref op, .ref ocs, .ref ods, .long oh, .long ol], oC ot 6 [.int (nI dp), .long sh, .long sl], oC oc 1 [.ref owd, .long e0, .long f0], aI G owd 44 g, oC oo 2 [.ref om], aZ G om 512 mk, oC oe 4 [.long c0, .long h0, .long l0], oC op 5 [.ref ob, .int (nI nq)], aI G ob 229 f, aH G ocs 4 (fun j => some (kk j)), aQ G ods 256 dec, moC oy r (nI 2) fi se (nI dp) sh sl (nI nq) oh ol w0 w1 w2, aI G (r 0) 256 ckS, aI G (r 1) 256 ckU, aI G (r 2) 176 (bN ff), aI G (r 3) 16 (bN gg), aI G (r 4) 16 (bN mm), aZ G (r 5) 256 ins, aZ G (r 6) 1024 sb, aI G (r 7) 4 per, aJ G (r 8) 4 ph, aJ G (r 9) 4 pl, aI G (r 10) 4 ss, aI G (r 11) 1024 sv, aI G (r 12) 1024 sw, aZ G (r 13) 512 mk2, aI G (r 14) 229 f, aI G (r 15) 1024 hp, aJ G (r 16) 1024 hh, aJ G (r 17) 1024 hl9, oC (kk c4) 0 [.ref (ks c4), .ref (kv c4), .ref (kw c4), .int (nI 0), .int (nI (sz c4)), .long (ch c4), .long (cl c4)], aZ G (ks c4) 256 (fs c4), aI G (kv c4) 128 (fv c4), aI G (kw c4) 128 (fw c4)] ++ tl) H := hP
        have hD : va_D A ([aJ G oq 1 fo, oC ox 7 [.ref oc, .ref ot, .ref oo, .ref oe, .ref op, .ref ocs, .ref ods, .long oh, .long ol], oC ot 6 [.int (nI dp), .long sh, .long sl], oC oc 1 [.ref owd, .long e0, .long f0], aI G owd 44 g, oC oo 2 [.ref om], aZ G om 512 mk, oC oe 4 [.long c0, .long h0, .long l0], oC op 5 [.ref ob, .int (nI nq)], aI G ob 229 f, aH G ocs 4 (fun j => some (kk j)), aQ G ods 256 dec, moC oy r (nI 2) fi se (nI dp) sh sl (nI nq) oh ol w0 w1 w2, aI G (r 0) 256 ckS, aI G (r 1) 256 ckU, aI G (r 2) 176 (bN ff), aI G (r 3) 16 (bN gg), aI G (r 4) 16 (bN mm), aZ G (r 5) 256 ins, aZ G (r 6) 1024 sb, aI G (r 7) 4 per, aJ G (r 8) 4 ph, aJ G (r 9) 4 pl, aI G (r 10) 4 ss, aI G (r 11) 1024 sv, aI G (r 12) 1024 sw, aZ G (r 13) 512 mk2, aI G (r 14) 229 f, aI G (r 15) 1024 hp, aJ G (r 16) 1024 hh, aJ G (r 17) 1024 hl9, oC (kk c4) 0 [.ref (ks c4), .ref (kv c4), .ref (kw c4), .int (nI 0), .int (nI (sz c4)), .long (ch c4), .long (cl c4)], aZ G (ks c4) 256 (fs c4), aI G (kv c4) 128 (fv c4), aI G (kw c4) 128 (fw c4)] ++ tl) := hD
        refine W.cs (cells' := 60 + 4 * j + 4) (slots' := 20000 + 20 * j + 20) rfl rfl ?_
        refine W.eq (g2 := F0 m 1463 ls [.int (nI 2)]) rfl ?_
        refine lv_iload hx hb dLa_law_1463 (lv_at hl 1 rfl) ?_
        refine lv_icmp_eq (tgt := 1470) hx hb dLa_law_1465 rfl (fun _ => ?_) (fun h => absurd (rfl) h)
        refine lv_iload hx hb dLa_law_1470 (lv_at hl 1 rfl) ?_
        refine lv_if_ne (tgt := 1487) hx hb dLa_law_1472 rfl (fun _ => ?_) (fun h => absurd h (by decide))
        refine lv_goto (tgt := 1641) hx hb dLa_law_1487 rfl ?_
        refine lv_iinc (v := nI (9 * (j + 1))) (lv' := [(4, .int (nI (9 * (j + 1)))), (6, .int (nI 0)), (5, .int (nI 2)), (0, .ref b), (1, .ref ox), (2, .ref oy), (3, .ref oq)]) hx hb dLa_law_1641 hl (k := 6) rfl (nI_add (9 * j) 9) (by decide) rfl (fun ls hl => ?_)
        refine lv_goto (tgt := 23) hx hb dLa_law_1644 rfl ?_
        refine W.cs (cells' := 60 + 4 * (j + 1)) (slots' := 20000 + 20 * (j + 1)) (by omega) (by omega) ?_
        have hP : va_P G.1 vwCl ([aJ G oq 1 fo, oC ox 7 [.ref oc, .ref ot, .ref oo, .ref oe, .ref op, .ref ocs, .ref ods, .long oh, .long ol], oC ot 6 [.int (nI dp), .long sh, .long sl], oC oc 1 [.ref owd, .long e0, .long f0], aI G owd 44 g, oC oo 2 [.ref om], aZ G om 512 mk, oC oe 4 [.long c0, .long h0, .long l0], oC op 5 [.ref ob, .int (nI nq)], aI G ob 229 f, aH G ocs 4 (fun j => some (kk j)), aQ G ods 256 dec, moC oy r (nI 2) fi se (nI dp) sh sl (nI nq) oh ol w0 w1 w2, aI G (r 0) 256 ckS, aI G (r 1) 256 ckU, aI G (r 2) 176 (bN ff), aI G (r 3) 16 (bN gg), aI G (r 4) 16 (bN mm), aZ G (r 5) 256 ins, aZ G (r 6) 1024 sb, aI G (r 7) 4 per, aJ G (r 8) 4 ph, aJ G (r 9) 4 pl, aI G (r 10) 4 ss, aI G (r 11) 1024 sv, aI G (r 12) 1024 sw, aZ G (r 13) 512 mk2, aI G (r 14) 229 f, aI G (r 15) 1024 hp, aJ G (r 16) 1024 hh, aJ G (r 17) 1024 hl9, oC (kk c4) 0 [.ref (ks c4), .ref (kv c4), .ref (kw c4), .int (nI (q c4)), .int (nI (sz c4)), .long (ch c4), .long (cl c4)], aZ G (ks c4) 256 (fs c4), aI G (kv c4) 128 (fv c4), aI G (kw c4) 128 (fw c4)] ++ tl) H := by rw [hqz]; exact hP
        have hD : va_D A ([aJ G oq 1 fo, oC ox 7 [.ref oc, .ref ot, .ref oo, .ref oe, .ref op, .ref ocs, .ref ods, .long oh, .long ol], oC ot 6 [.int (nI dp), .long sh, .long sl], oC oc 1 [.ref owd, .long e0, .long f0], aI G owd 44 g, oC oo 2 [.ref om], aZ G om 512 mk, oC oe 4 [.long c0, .long h0, .long l0], oC op 5 [.ref ob, .int (nI nq)], aI G ob 229 f, aH G ocs 4 (fun j => some (kk j)), aQ G ods 256 dec, moC oy r (nI 2) fi se (nI dp) sh sl (nI nq) oh ol w0 w1 w2, aI G (r 0) 256 ckS, aI G (r 1) 256 ckU, aI G (r 2) 176 (bN ff), aI G (r 3) 16 (bN gg), aI G (r 4) 16 (bN mm), aZ G (r 5) 256 ins, aZ G (r 6) 1024 sb, aI G (r 7) 4 per, aJ G (r 8) 4 ph, aJ G (r 9) 4 pl, aI G (r 10) 4 ss, aI G (r 11) 1024 sv, aI G (r 12) 1024 sw, aZ G (r 13) 512 mk2, aI G (r 14) 229 f, aI G (r 15) 1024 hp, aJ G (r 16) 1024 hh, aJ G (r 17) 1024 hl9, oC (kk c4) 0 [.ref (ks c4), .ref (kv c4), .ref (kw c4), .int (nI (q c4)), .int (nI (sz c4)), .long (ch c4), .long (cl c4)], aZ G (ks c4) 256 (fs c4), aI G (kv c4) 128 (fv c4), aI G (kw c4) 128 (fw c4)] ++ tl) := by rw [hqz]; exact hD
        subst htl
        have hP := P_perm (pmB' (B := chB G kk ks kv kw q sz ch cl fs fv fw) (B' := chB G kk ks kv kw q sz ch cl fs fv fw) [aJ G oq 1 fo, oC ox 7 [.ref oc, .ref ot, .ref oo, .ref oe, .ref op, .ref ocs, .ref ods, .long oh, .long ol], oC ot 6 [.int (nI dp), .long sh, .long sl], oC oc 1 [.ref owd, .long e0, .long f0], aI G owd 44 g, oC oo 2 [.ref om], aZ G om 512 mk, oC oe 4 [.long c0, .long h0, .long l0], oC op 5 [.ref ob, .int (nI nq)], aI G ob 229 f, aH G ocs 4 (fun j => some (kk j)), aQ G ods 256 dec, moC oy r (nI 2) fi se (nI dp) sh sl (nI nq) oh ol w0 w1 w2, aI G (r 0) 256 ckS, aI G (r 1) 256 ckU, aI G (r 2) 176 (bN ff), aI G (r 3) 16 (bN gg), aI G (r 4) 16 (bN mm), aZ G (r 5) 256 ins, aZ G (r 6) 1024 sb, aI G (r 7) 4 per, aJ G (r 8) 4 ph, aJ G (r 9) 4 pl, aI G (r 10) 4 ss, aI G (r 11) 1024 sv, aI G (r 12) 1024 sw, aZ G (r 13) 512 mk2, aI G (r 14) 229 f, aI G (r 15) 1024 hp, aJ G (r 16) 1024 hh, aJ G (r 17) 1024 hl9] (decW G T) hc4 (fun _ _ _ => rfl)) hP
        have hD := D_perm (pmB' (B := chB G kk ks kv kw q sz ch cl fs fv fw) (B' := chB G kk ks kv kw q sz ch cl fs fv fw) [aJ G oq 1 fo, oC ox 7 [.ref oc, .ref ot, .ref oo, .ref oe, .ref op, .ref ocs, .ref ods, .long oh, .long ol], oC ot 6 [.int (nI dp), .long sh, .long sl], oC oc 1 [.ref owd, .long e0, .long f0], aI G owd 44 g, oC oo 2 [.ref om], aZ G om 512 mk, oC oe 4 [.long c0, .long h0, .long l0], oC op 5 [.ref ob, .int (nI nq)], aI G ob 229 f, aH G ocs 4 (fun j => some (kk j)), aQ G ods 256 dec, moC oy r (nI 2) fi se (nI dp) sh sl (nI nq) oh ol w0 w1 w2, aI G (r 0) 256 ckS, aI G (r 1) 256 ckU, aI G (r 2) 176 (bN ff), aI G (r 3) 16 (bN gg), aI G (r 4) 16 (bN mm), aZ G (r 5) 256 ins, aZ G (r 6) 1024 sb, aI G (r 7) 4 per, aJ G (r 8) 4 ph, aJ G (r 9) 4 pl, aI G (r 10) 4 ss, aI G (r 11) 1024 sv, aI G (r 12) 1024 sw, aZ G (r 13) 512 mk2, aI G (r 14) 229 f, aI G (r 15) 1024 hp, aJ G (r 16) 1024 hh, aJ G (r 17) 1024 hl9] (decW G T) hc4 (fun _ _ _ => rfl)) hD
        exact ih oh ol dp sh sl g e0 f0 mk c0 h0 l0 nq f dec q sz ch cl fs fv fw T fo (nI 2) fi se w0 w1 w2 ff gg mm ins sb per ph pl ss sv sw mk2 hp hh hl9 _ _ _ hdp1 hdp hR1 hR2 hR3 hR4 hP hD hS (lv_sub hl [3, 4, 5, 6, 0] rfl)
      · have hqp : 0 < q c4 := Nat.pos_of_ne_zero hq0
        have hq9 : ¬ per c4 = nI 0 := by rw [r1]; exact nI_ne0 hqp (by omega)
        rcases ho : dec dd with _ | od
        · have hi9 : ins dd = 0 := (hR3.1 dd hd256).mp ho
          have hP := P_perm (pmB [aJ G oq 1 fo, oC ox 7 [.ref oc, .ref ot, .ref oo, .ref oe, .ref op, .ref ocs, .ref ods, .long oh, .long ol], oC ot 6 [.int (nI dp), .long sh, .long sl], oC oc 1 [.ref owd, .long e0, .long f0], aI G owd 44 g, oC oo 2 [.ref om], aZ G om 512 mk, oC oe 4 [.long c0, .long h0, .long l0], oC op 5 [.ref ob, .int (nI nq)], aI G ob 229 f, aH G ocs 4 (fun j => some (kk j)), aQ G ods 256 dec, moC oy r th fi se (nI dp) sh sl (nI nq) oh ol w0 w1 w2, aI G (r 0) 256 ckS, aI G (r 1) 256 ckU, aI G (r 2) 176 (bN ff), aI G (r 3) 16 (bN gg), aI G (r 4) 16 (bN mm), aZ G (r 5) 256 ins, aZ G (r 6) 1024 sb, aI G (r 7) 4 per, aJ G (r 8) 4 ph, aJ G (r 9) 4 pl, aI G (r 10) 4 ss, aI G (r 11) 1024 sv, aI G (r 12) 1024 sw, aZ G (r 13) 512 mk2, aI G (r 14) 229 f, aI G (r 15) 1024 hp, aJ G (r 16) 1024 hh, aJ G (r 17) 1024 hl9] (chB G kk ks kv kw q sz ch cl fs fv fw) (decW G T) hc4) hP
          have hD := D_perm (pmB [aJ G oq 1 fo, oC ox 7 [.ref oc, .ref ot, .ref oo, .ref oe, .ref op, .ref ocs, .ref ods, .long oh, .long ol], oC ot 6 [.int (nI dp), .long sh, .long sl], oC oc 1 [.ref owd, .long e0, .long f0], aI G owd 44 g, oC oo 2 [.ref om], aZ G om 512 mk, oC oe 4 [.long c0, .long h0, .long l0], oC op 5 [.ref ob, .int (nI nq)], aI G ob 229 f, aH G ocs 4 (fun j => some (kk j)), aQ G ods 256 dec, moC oy r th fi se (nI dp) sh sl (nI nq) oh ol w0 w1 w2, aI G (r 0) 256 ckS, aI G (r 1) 256 ckU, aI G (r 2) 176 (bN ff), aI G (r 3) 16 (bN gg), aI G (r 4) 16 (bN mm), aZ G (r 5) 256 ins, aZ G (r 6) 1024 sb, aI G (r 7) 4 per, aJ G (r 8) 4 ph, aJ G (r 9) 4 pl, aI G (r 10) 4 ss, aI G (r 11) 1024 sv, aI G (r 12) 1024 sw, aZ G (r 13) 512 mk2, aI G (r 14) 229 f, aI G (r 15) 1024 hp, aJ G (r 16) 1024 hh, aJ G (r 17) 1024 hl9] (chB G kk ks kv kw q sz ch cl fs fv fw) (decW G T) hc4) hD
          have hP : va_P G.1 vwCl ([aJ G oq 1 fo, oC ox 7 [.ref oc, .ref ot, .ref oo, .ref oe, .ref op, .ref ocs, .ref ods, .long oh, .long ol], oC ot 6 [.int (nI dp), .long sh, .long sl], oC oc 1 [.ref owd, .long e0, .long f0], aI G owd 44 g, oC oo 2 [.ref om], aZ G om 512 mk, oC oe 4 [.long c0, .long h0, .long l0], oC op 5 [.ref ob, .int (nI nq)], aI G ob 229 f, aH G ocs 4 (fun j => some (kk j)), aQ G ods 256 dec, moC oy r th fi se (nI dp) sh sl (nI nq) oh ol w0 w1 w2, aI G (r 0) 256 ckS, aI G (r 1) 256 ckU, aI G (r 2) 176 (bN ff), aI G (r 3) 16 (bN gg), aI G (r 4) 16 (bN mm), aZ G (r 5) 256 ins, aZ G (r 6) 1024 sb, aI G (r 7) 4 per, aJ G (r 8) 4 ph, aJ G (r 9) 4 pl, aI G (r 10) 4 ss, aI G (r 11) 1024 sv, aI G (r 12) 1024 sw, aZ G (r 13) 512 mk2, aI G (r 14) 229 f, aI G (r 15) 1024 hp, aJ G (r 16) 1024 hh, aJ G (r 17) 1024 hl9, oC (kk c4) 0 [.ref (ks c4), .ref (kv c4), .ref (kw c4), .int (nI (q c4)), .int (nI (sz c4)), .long (ch c4), .long (cl c4)], aZ G (ks c4) 256 (fs c4), aI G (kv c4) 128 (fv c4), aI G (kw c4) 128 (fw c4)] ++ (chO (chB G kk ks kv kw q sz ch cl fs fv fw) c4 ++ decW G T)) H := hP
          have hD : va_D A ([aJ G oq 1 fo, oC ox 7 [.ref oc, .ref ot, .ref oo, .ref oe, .ref op, .ref ocs, .ref ods, .long oh, .long ol], oC ot 6 [.int (nI dp), .long sh, .long sl], oC oc 1 [.ref owd, .long e0, .long f0], aI G owd 44 g, oC oo 2 [.ref om], aZ G om 512 mk, oC oe 4 [.long c0, .long h0, .long l0], oC op 5 [.ref ob, .int (nI nq)], aI G ob 229 f, aH G ocs 4 (fun j => some (kk j)), aQ G ods 256 dec, moC oy r th fi se (nI dp) sh sl (nI nq) oh ol w0 w1 w2, aI G (r 0) 256 ckS, aI G (r 1) 256 ckU, aI G (r 2) 176 (bN ff), aI G (r 3) 16 (bN gg), aI G (r 4) 16 (bN mm), aZ G (r 5) 256 ins, aZ G (r 6) 1024 sb, aI G (r 7) 4 per, aJ G (r 8) 4 ph, aJ G (r 9) 4 pl, aI G (r 10) 4 ss, aI G (r 11) 1024 sv, aI G (r 12) 1024 sw, aZ G (r 13) 512 mk2, aI G (r 14) 229 f, aI G (r 15) 1024 hp, aJ G (r 16) 1024 hh, aJ G (r 17) 1024 hl9, oC (kk c4) 0 [.ref (ks c4), .ref (kv c4), .ref (kw c4), .int (nI (q c4)), .int (nI (sz c4)), .long (ch c4), .long (cl c4)], aZ G (ks c4) 256 (fs c4), aI G (kv c4) 128 (fv c4), aI G (kw c4) 128 (fw c4)] ++ (chO (chB G kk ks kv kw q sz ch cl fs fv fw) c4 ++ decW G T)) := hD
          generalize htl : (chO (chB G kk ks kv kw q sz ch cl fs fv fw) c4 ++ decW G T) = tl at hP hD
          refine lv_aload_n hx hb dLa_law_1422 rfl (lv_at hl 1 rfl) ?_
          refine lv_aload_n hx hb dLa_law_1423 rfl (lv_at hl 0 rfl) ?_
          refine lv_iload hx hb dLa_law_1424 (lv_at hl 4 rfl) ?_
          refine lv_iconst (v := nI 1) hx hb dLa_law_1426 (by decide) ?_
          refine lv_iadd hx hb dLa_law_1427 ?_
          refine ck_sld hx hb hX hbl hbA hS (9 * j + 1) (nI_add _ _) (by omega) (by omega) hy1 dLa_law_1428 ?_
          refine lv_aload_n hx hb dLa_law_1429 rfl (lv_at hl 0 rfl) ?_
          refine lv_iload hx hb dLa_law_1430 (lv_at hl 4 rfl) ?_
          refine lv_iconst (v := nI 2) hx hb dLa_law_1432 (by decide) ?_
          refine lv_iadd hx hb dLa_law_1433 ?_
          refine ck_sld hx hb hX hbl hbA hS (9 * j + 2) (nI_add _ _) (by omega) (by omega) hy2 dLa_law_1434 ?_
          refine lv_aload_n hx hb dLa_law_1435 rfl (lv_at hl 3 rfl) ?_
          refine clLa_141 (As := [.ref ox, .int (nI dd), .int (nI c4), .ref oq]) (rest := []) hx hb hml hown hts (w_La_reach_ISE (wi := [oC ox 7 [.ref oc, .ref ot, .ref oo, .ref oe, .ref op, .ref ocs, .ref ods, .long oh, .long ol], oC ot 6 [.int (nI dp), .long sh, .long sl], aH G ocs 4 (fun j => some (kk j)), oC (kk c4) 0 [.ref (ks c4), .ref (kv c4), .ref (kw c4), .int (nI (q c4)), .int (nI (sz c4)), .long (ch c4), .long (cl c4)], aQ G ods 256 dec]) l G ox oq (nI dd) (nI c4) (x_CK_reach4 l hl0 G ox oc ot oo oe op ocs ods oh ol dp hdp sh sl dec dd hdd kk (ks c4) (kv c4) (kw c4) c4 hc4 (q c4) hqp (by omega) ho (nI (sz c4)) (ch c4) (cl c4)) 0 rfl [0, 1, 2, 3, 4] rfl rfl rfl) hG hA hP hD hS [1, 2, 10, 31, 11] rfl rfl (fun _ => rfl) rfl hl.1 rfl (Nat.le_of_ble_eq_true rfl) ⟨Nat.le_of_ble_eq_true rfl, Nat.le_of_ble_eq_true rfl⟩ ⟨Nat.le_trans (Nat.add_le_add_left (Nat.le_of_ble_eq_true rfl) _) hcf.1, Nat.le_trans (Nat.add_le_add_left (Nat.le_of_ble_eq_true rfl) _) hcf.2⟩ dLa_law_1436 (fun _ H locs _ hP hD hS => ?_)
          have hP : va_P G.1 vwCl ([aJ G oq 1 fo, oC ox 7 [.ref oc, .ref ot, .ref oo, .ref oe, .ref op, .ref ocs, .ref ods, .long oh, .long ol], oC ot 6 [.int (nI dp), .long sh, .long sl], oC oc 1 [.ref owd, .long e0, .long f0], aI G owd 44 g, oC oo 2 [.ref om], aZ G om 512 mk, oC oe 4 [.long c0, .long h0, .long l0], oC op 5 [.ref ob, .int (nI nq)], aI G ob 229 f, aH G ocs 4 (fun j => some (kk j)), aQ G ods 256 dec, moC oy r th fi se (nI dp) sh sl (nI nq) oh ol w0 w1 w2, aI G (r 0) 256 ckS, aI G (r 1) 256 ckU, aI G (r 2) 176 (bN ff), aI G (r 3) 16 (bN gg), aI G (r 4) 16 (bN mm), aZ G (r 5) 256 ins, aZ G (r 6) 1024 sb, aI G (r 7) 4 per, aJ G (r 8) 4 ph, aJ G (r 9) 4 pl, aI G (r 10) 4 ss, aI G (r 11) 1024 sv, aI G (r 12) 1024 sw, aZ G (r 13) 512 mk2, aI G (r 14) 229 f, aI G (r 15) 1024 hp, aJ G (r 16) 1024 hh, aJ G (r 17) 1024 hl9, oC (kk c4) 0 [.ref (ks c4), .ref (kv c4), .ref (kw c4), .int (nI (q c4)), .int (nI (sz c4)), .long (ch c4), .long (cl c4)], aZ G (ks c4) 256 (fs c4), aI G (kv c4) 128 (fv c4), aI G (kw c4) 128 (fw c4)] ++ tl) H := hP
          have hD : va_D A ([aJ G oq 1 fo, oC ox 7 [.ref oc, .ref ot, .ref oo, .ref oe, .ref op, .ref ocs, .ref ods, .long oh, .long ol], oC ot 6 [.int (nI dp), .long sh, .long sl], oC oc 1 [.ref owd, .long e0, .long f0], aI G owd 44 g, oC oo 2 [.ref om], aZ G om 512 mk, oC oe 4 [.long c0, .long h0, .long l0], oC op 5 [.ref ob, .int (nI nq)], aI G ob 229 f, aH G ocs 4 (fun j => some (kk j)), aQ G ods 256 dec, moC oy r th fi se (nI dp) sh sl (nI nq) oh ol w0 w1 w2, aI G (r 0) 256 ckS, aI G (r 1) 256 ckU, aI G (r 2) 176 (bN ff), aI G (r 3) 16 (bN gg), aI G (r 4) 16 (bN mm), aZ G (r 5) 256 ins, aZ G (r 6) 1024 sb, aI G (r 7) 4 per, aJ G (r 8) 4 ph, aJ G (r 9) 4 pl, aI G (r 10) 4 ss, aI G (r 11) 1024 sv, aI G (r 12) 1024 sw, aZ G (r 13) 512 mk2, aI G (r 14) 229 f, aI G (r 15) 1024 hp, aJ G (r 16) 1024 hh, aJ G (r 17) 1024 hl9, oC (kk c4) 0 [.ref (ks c4), .ref (kv c4), .ref (kw c4), .int (nI (q c4)), .int (nI (sz c4)), .long (ch c4), .long (cl c4)], aZ G (ks c4) 256 (fs c4), aI G (kv c4) 128 (fv c4), aI G (kw c4) 128 (fw c4)] ++ tl) := hD
          refine W.widen (k := 60 + 4 * j + 4) (n := 20000 + 20 * j + 20) (Nat.add_le_add_left (Nat.le_of_ble_eq_true rfl) _) (Nat.add_le_add_left (Nat.le_of_ble_eq_true rfl) _) ?_
          refine W.eq (g2 := F0 m 1439 ls [.int (nI 2)]) rfl ?_
          refine lv_istore (lv' := [(5, .int (nI 2)), (0, .ref b), (1, .ref ox), (2, .ref oy), (3, .ref oq), (4, .int (nI (9 * j)))]) hx hb dLa_law_1439 hl (by decide) rfl (fun ls hl => ?_)
          refine lv_aload_n hx hb dLa_law_1441 rfl (lv_at hl 3 rfl) ?_
          refine lv_aload_n hx hb dLa_law_1442 rfl (lv_at hl 1 rfl) ?_
          refine lv_iload hx hb dLa_law_1443 (lv_at hl 5 rfl) ?_
          refine lv_iconst (v := nI 1) hx hb dLa_law_1445 (by decide) ?_
          refine lv_iadd hx hb dLa_law_1446 ?_
          refine ck_sld hx hb hX hbl hbA hS (9 * j + 1) (nI_add _ _) (by omega) (by omega) hy1 dLa_law_1447 ?_
          refine lv_aload_n hx hb dLa_law_1448 rfl (lv_at hl 1 rfl) ?_
          refine lv_iload hx hb dLa_law_1449 (lv_at hl 5 rfl) ?_
          refine lv_iconst (v := nI 2) hx hb dLa_law_1451 (by decide) ?_
          refine lv_iadd hx hb dLa_law_1452 ?_
          refine ck_sld hx hb hX hbl hbA hS (9 * j + 2) (nI_add _ _) (by omega) (by omega) hy2 dLa_law_1453 ?_
          refine clLa_143 (As := [.int (nI dd), .int (nI c4)]) (rest := []) hx hb hml hown hts (k_Mo_reach_e3 l G oy r th fi se dp hdp sh sl (nI nq) oh ol w0 w1 w2 dd hdd c4 hc4 per ins hq9 hi9) hG hA hP hD hS 12 rfl [12, 20, 18] rfl rfl (fun _ => rfl) rfl hl.1 rfl (Nat.le_of_ble_eq_true rfl) ⟨Nat.le_of_ble_eq_true rfl, Nat.le_of_ble_eq_true rfl⟩ ⟨hcf.1, hcf.2⟩ dLa_law_1454 (fun _ H locs _ hP hD hS => ?_)
          have hP : va_P G.1 vwCl ([aJ G oq 1 fo, oC ox 7 [.ref oc, .ref ot, .ref oo, .ref oe, .ref op, .ref ocs, .ref ods, .long oh, .long ol], oC ot 6 [.int (nI dp), .long sh, .long sl], oC oc 1 [.ref owd, .long e0, .long f0], aI G owd 44 g, oC oo 2 [.ref om], aZ G om 512 mk, oC oe 4 [.long c0, .long h0, .long l0], oC op 5 [.ref ob, .int (nI nq)], aI G ob 229 f, aH G ocs 4 (fun j => some (kk j)), aQ G ods 256 dec, moC oy r (nI 2) fi se (nI dp) sh sl (nI nq) oh ol w0 w1 w2, aI G (r 0) 256 ckS, aI G (r 1) 256 ckU, aI G (r 2) 176 (bN ff), aI G (r 3) 16 (bN gg), aI G (r 4) 16 (bN mm), aZ G (r 5) 256 ins, aZ G (r 6) 1024 sb, aI G (r 7) 4 per, aJ G (r 8) 4 ph, aJ G (r 9) 4 pl, aI G (r 10) 4 ss, aI G (r 11) 1024 sv, aI G (r 12) 1024 sw, aZ G (r 13) 512 mk2, aI G (r 14) 229 f, aI G (r 15) 1024 hp, aJ G (r 16) 1024 hh, aJ G (r 17) 1024 hl9, oC (kk c4) 0 [.ref (ks c4), .ref (kv c4), .ref (kw c4), .int (nI (q c4)), .int (nI (sz c4)), .long (ch c4), .long (cl c4)], aZ G (ks c4) 256 (fs c4), aI G (kv c4) 128 (fv c4), aI G (kw c4) 128 (fw c4)] ++ tl) H := hP
          have hD : va_D A ([aJ G oq 1 fo, oC ox 7 [.ref oc, .ref ot, .ref oo, .ref oe, .ref op, .ref ocs, .ref ods, .long oh, .long ol], oC ot 6 [.int (nI dp), .long sh, .long sl], oC oc 1 [.ref owd, .long e0, .long f0], aI G owd 44 g, oC oo 2 [.ref om], aZ G om 512 mk, oC oe 4 [.long c0, .long h0, .long l0], oC op 5 [.ref ob, .int (nI nq)], aI G ob 229 f, aH G ocs 4 (fun j => some (kk j)), aQ G ods 256 dec, moC oy r (nI 2) fi se (nI dp) sh sl (nI nq) oh ol w0 w1 w2, aI G (r 0) 256 ckS, aI G (r 1) 256 ckU, aI G (r 2) 176 (bN ff), aI G (r 3) 16 (bN gg), aI G (r 4) 16 (bN mm), aZ G (r 5) 256 ins, aZ G (r 6) 1024 sb, aI G (r 7) 4 per, aJ G (r 8) 4 ph, aJ G (r 9) 4 pl, aI G (r 10) 4 ss, aI G (r 11) 1024 sv, aI G (r 12) 1024 sw, aZ G (r 13) 512 mk2, aI G (r 14) 229 f, aI G (r 15) 1024 hp, aJ G (r 16) 1024 hh, aJ G (r 17) 1024 hl9, oC (kk c4) 0 [.ref (ks c4), .ref (kv c4), .ref (kw c4), .int (nI (q c4)), .int (nI (sz c4)), .long (ch c4), .long (cl c4)], aZ G (ks c4) 256 (fs c4), aI G (kv c4) 128 (fv c4), aI G (kw c4) 128 (fw c4)] ++ tl) := hD
          refine W.cs (cells' := 60 + 4 * j + 4) (slots' := 20000 + 20 * j + 20) rfl rfl ?_
          refine W.eq (g2 := F0 m 1457 ls [.int (nI 0)]) rfl ?_
          refine lv_istore (lv' := [(6, .int (nI 0)), (5, .int (nI 2)), (0, .ref b), (1, .ref ox), (2, .ref oy), (3, .ref oq), (4, .int (nI (9 * j)))]) hx hb dLa_law_1457 hl (by decide) rfl (fun ls hl => ?_)
          refine lv_aload_n hx hb dLa_law_1459 rfl (lv_at hl 4 rfl) ?_
          refine clLa_88 (As := []) (rest := []) hx hb hml hown hts (k_Mo_thrown l G oy r (nI 2) fi se (nI dp) sh sl (nI nq) oh ol w0 w1 w2) hG hA hP hD hS 12 rfl [12] rfl rfl (fun _ => rfl) rfl hl.1 rfl (Nat.le_of_ble_eq_true rfl) ⟨Nat.le_of_ble_eq_true rfl, Nat.le_of_ble_eq_true rfl⟩ ⟨hcf.1, hcf.2⟩ dLa_law_1460 (fun _ H locs _ hP hD hS => ?_)
          have hP : va_P G.1 vwCl ([aJ G oq 1 fo, oC ox 7 [.ref oc, .ref ot, .ref oo, .ref oe, .ref op, .ref ocs, .ref ods, .long oh, .long ol], oC ot 6 [.int (nI dp), .long sh, .long sl], oC oc 1 [.ref owd, .long e0, .long f0], aI G owd 44 g, oC oo 2 [.ref om], aZ G om 512 mk, oC oe 4 [.long c0, .long h0, .long l0], oC op 5 [.ref ob, .int (nI nq)], aI G ob 229 f, aH G ocs 4 (fun j => some (kk j)), aQ G ods 256 dec, moC oy r (nI 2) fi se (nI dp) sh sl (nI nq) oh ol w0 w1 w2, aI G (r 0) 256 ckS, aI G (r 1) 256 ckU, aI G (r 2) 176 (bN ff), aI G (r 3) 16 (bN gg), aI G (r 4) 16 (bN mm), aZ G (r 5) 256 ins, aZ G (r 6) 1024 sb, aI G (r 7) 4 per, aJ G (r 8) 4 ph, aJ G (r 9) 4 pl, aI G (r 10) 4 ss, aI G (r 11) 1024 sv, aI G (r 12) 1024 sw, aZ G (r 13) 512 mk2, aI G (r 14) 229 f, aI G (r 15) 1024 hp, aJ G (r 16) 1024 hh, aJ G (r 17) 1024 hl9, oC (kk c4) 0 [.ref (ks c4), .ref (kv c4), .ref (kw c4), .int (nI (q c4)), .int (nI (sz c4)), .long (ch c4), .long (cl c4)], aZ G (ks c4) 256 (fs c4), aI G (kv c4) 128 (fv c4), aI G (kw c4) 128 (fw c4)] ++ tl) H := hP
          have hD : va_D A ([aJ G oq 1 fo, oC ox 7 [.ref oc, .ref ot, .ref oo, .ref oe, .ref op, .ref ocs, .ref ods, .long oh, .long ol], oC ot 6 [.int (nI dp), .long sh, .long sl], oC oc 1 [.ref owd, .long e0, .long f0], aI G owd 44 g, oC oo 2 [.ref om], aZ G om 512 mk, oC oe 4 [.long c0, .long h0, .long l0], oC op 5 [.ref ob, .int (nI nq)], aI G ob 229 f, aH G ocs 4 (fun j => some (kk j)), aQ G ods 256 dec, moC oy r (nI 2) fi se (nI dp) sh sl (nI nq) oh ol w0 w1 w2, aI G (r 0) 256 ckS, aI G (r 1) 256 ckU, aI G (r 2) 176 (bN ff), aI G (r 3) 16 (bN gg), aI G (r 4) 16 (bN mm), aZ G (r 5) 256 ins, aZ G (r 6) 1024 sb, aI G (r 7) 4 per, aJ G (r 8) 4 ph, aJ G (r 9) 4 pl, aI G (r 10) 4 ss, aI G (r 11) 1024 sv, aI G (r 12) 1024 sw, aZ G (r 13) 512 mk2, aI G (r 14) 229 f, aI G (r 15) 1024 hp, aJ G (r 16) 1024 hh, aJ G (r 17) 1024 hl9, oC (kk c4) 0 [.ref (ks c4), .ref (kv c4), .ref (kw c4), .int (nI (q c4)), .int (nI (sz c4)), .long (ch c4), .long (cl c4)], aZ G (ks c4) 256 (fs c4), aI G (kv c4) 128 (fv c4), aI G (kw c4) 128 (fw c4)] ++ tl) := hD
          refine W.cs (cells' := 60 + 4 * j + 4) (slots' := 20000 + 20 * j + 20) rfl rfl ?_
          refine W.eq (g2 := F0 m 1463 ls [.int (nI 2)]) rfl ?_
          refine lv_iload hx hb dLa_law_1463 (lv_at hl 1 rfl) ?_
          refine lv_icmp_eq (tgt := 1470) hx hb dLa_law_1465 rfl (fun _ => ?_) (fun h => absurd (rfl) h)
          refine lv_iload hx hb dLa_law_1470 (lv_at hl 1 rfl) ?_
          refine lv_if_ne (tgt := 1487) hx hb dLa_law_1472 rfl (fun _ => ?_) (fun h => absurd h (by decide))
          refine lv_goto (tgt := 1641) hx hb dLa_law_1487 rfl ?_
          refine lv_iinc (v := nI (9 * (j + 1))) (lv' := [(4, .int (nI (9 * (j + 1)))), (6, .int (nI 0)), (5, .int (nI 2)), (0, .ref b), (1, .ref ox), (2, .ref oy), (3, .ref oq)]) hx hb dLa_law_1641 hl (k := 6) rfl (nI_add (9 * j) 9) (by decide) rfl (fun ls hl => ?_)
          refine lv_goto (tgt := 23) hx hb dLa_law_1644 rfl ?_
          refine W.cs (cells' := 60 + 4 * (j + 1)) (slots' := 20000 + 20 * (j + 1)) (by omega) (by omega) ?_
          subst htl
          have hP := P_perm (pmB' (B := chB G kk ks kv kw q sz ch cl fs fv fw) (B' := chB G kk ks kv kw q sz ch cl fs fv fw) [aJ G oq 1 fo, oC ox 7 [.ref oc, .ref ot, .ref oo, .ref oe, .ref op, .ref ocs, .ref ods, .long oh, .long ol], oC ot 6 [.int (nI dp), .long sh, .long sl], oC oc 1 [.ref owd, .long e0, .long f0], aI G owd 44 g, oC oo 2 [.ref om], aZ G om 512 mk, oC oe 4 [.long c0, .long h0, .long l0], oC op 5 [.ref ob, .int (nI nq)], aI G ob 229 f, aH G ocs 4 (fun j => some (kk j)), aQ G ods 256 dec, moC oy r (nI 2) fi se (nI dp) sh sl (nI nq) oh ol w0 w1 w2, aI G (r 0) 256 ckS, aI G (r 1) 256 ckU, aI G (r 2) 176 (bN ff), aI G (r 3) 16 (bN gg), aI G (r 4) 16 (bN mm), aZ G (r 5) 256 ins, aZ G (r 6) 1024 sb, aI G (r 7) 4 per, aJ G (r 8) 4 ph, aJ G (r 9) 4 pl, aI G (r 10) 4 ss, aI G (r 11) 1024 sv, aI G (r 12) 1024 sw, aZ G (r 13) 512 mk2, aI G (r 14) 229 f, aI G (r 15) 1024 hp, aJ G (r 16) 1024 hh, aJ G (r 17) 1024 hl9] (decW G T) hc4 (fun _ _ _ => rfl)) hP
          have hD := D_perm (pmB' (B := chB G kk ks kv kw q sz ch cl fs fv fw) (B' := chB G kk ks kv kw q sz ch cl fs fv fw) [aJ G oq 1 fo, oC ox 7 [.ref oc, .ref ot, .ref oo, .ref oe, .ref op, .ref ocs, .ref ods, .long oh, .long ol], oC ot 6 [.int (nI dp), .long sh, .long sl], oC oc 1 [.ref owd, .long e0, .long f0], aI G owd 44 g, oC oo 2 [.ref om], aZ G om 512 mk, oC oe 4 [.long c0, .long h0, .long l0], oC op 5 [.ref ob, .int (nI nq)], aI G ob 229 f, aH G ocs 4 (fun j => some (kk j)), aQ G ods 256 dec, moC oy r (nI 2) fi se (nI dp) sh sl (nI nq) oh ol w0 w1 w2, aI G (r 0) 256 ckS, aI G (r 1) 256 ckU, aI G (r 2) 176 (bN ff), aI G (r 3) 16 (bN gg), aI G (r 4) 16 (bN mm), aZ G (r 5) 256 ins, aZ G (r 6) 1024 sb, aI G (r 7) 4 per, aJ G (r 8) 4 ph, aJ G (r 9) 4 pl, aI G (r 10) 4 ss, aI G (r 11) 1024 sv, aI G (r 12) 1024 sw, aZ G (r 13) 512 mk2, aI G (r 14) 229 f, aI G (r 15) 1024 hp, aJ G (r 16) 1024 hh, aJ G (r 17) 1024 hl9] (decW G T) hc4 (fun _ _ _ => rfl)) hD
          exact ih oh ol dp sh sl g e0 f0 mk c0 h0 l0 nq f dec q sz ch cl fs fv fw T fo (nI 2) fi se w0 w1 w2 ff gg mm ins sb per ph pl ss sv sw mk2 hp hh hl9 _ _ _ hdp1 hdp hR1 hR2 hR3 hR4 hP hD hS (lv_sub hl [3, 4, 5, 6, 0] rfl)
        · have hi9 : ¬ ins dd = 0 := fun z => by have := (hR3.1 dd hd256).mpr z; rw [ho] at this; cases this
          have hP := P_perm (pmB [aJ G oq 1 fo, oC ox 7 [.ref oc, .ref ot, .ref oo, .ref oe, .ref op, .ref ocs, .ref ods, .long oh, .long ol], oC ot 6 [.int (nI dp), .long sh, .long sl], oC oc 1 [.ref owd, .long e0, .long f0], aI G owd 44 g, oC oo 2 [.ref om], aZ G om 512 mk, oC oe 4 [.long c0, .long h0, .long l0], oC op 5 [.ref ob, .int (nI nq)], aI G ob 229 f, aH G ocs 4 (fun j => some (kk j)), aQ G ods 256 dec, moC oy r th fi se (nI dp) sh sl (nI nq) oh ol w0 w1 w2, aI G (r 0) 256 ckS, aI G (r 1) 256 ckU, aI G (r 2) 176 (bN ff), aI G (r 3) 16 (bN gg), aI G (r 4) 16 (bN mm), aZ G (r 5) 256 ins, aZ G (r 6) 1024 sb, aI G (r 7) 4 per, aJ G (r 8) 4 ph, aJ G (r 9) 4 pl, aI G (r 10) 4 ss, aI G (r 11) 1024 sv, aI G (r 12) 1024 sw, aZ G (r 13) 512 mk2, aI G (r 14) 229 f, aI G (r 15) 1024 hp, aJ G (r 16) 1024 hh, aJ G (r 17) 1024 hl9] (chB G kk ks kv kw q sz ch cl fs fv fw) (decW G T) hc4) hP
          have hD := D_perm (pmB [aJ G oq 1 fo, oC ox 7 [.ref oc, .ref ot, .ref oo, .ref oe, .ref op, .ref ocs, .ref ods, .long oh, .long ol], oC ot 6 [.int (nI dp), .long sh, .long sl], oC oc 1 [.ref owd, .long e0, .long f0], aI G owd 44 g, oC oo 2 [.ref om], aZ G om 512 mk, oC oe 4 [.long c0, .long h0, .long l0], oC op 5 [.ref ob, .int (nI nq)], aI G ob 229 f, aH G ocs 4 (fun j => some (kk j)), aQ G ods 256 dec, moC oy r th fi se (nI dp) sh sl (nI nq) oh ol w0 w1 w2, aI G (r 0) 256 ckS, aI G (r 1) 256 ckU, aI G (r 2) 176 (bN ff), aI G (r 3) 16 (bN gg), aI G (r 4) 16 (bN mm), aZ G (r 5) 256 ins, aZ G (r 6) 1024 sb, aI G (r 7) 4 per, aJ G (r 8) 4 ph, aJ G (r 9) 4 pl, aI G (r 10) 4 ss, aI G (r 11) 1024 sv, aI G (r 12) 1024 sw, aZ G (r 13) 512 mk2, aI G (r 14) 229 f, aI G (r 15) 1024 hp, aJ G (r 16) 1024 hh, aJ G (r 17) 1024 hl9] (chB G kk ks kv kw q sz ch cl fs fv fw) (decW G T) hc4) hD
          have hP : va_P G.1 vwCl ([aJ G oq 1 fo, oC ox 7 [.ref oc, .ref ot, .ref oo, .ref oe, .ref op, .ref ocs, .ref ods, .long oh, .long ol], oC ot 6 [.int (nI dp), .long sh, .long sl], oC oc 1 [.ref owd, .long e0, .long f0], aI G owd 44 g, oC oo 2 [.ref om], aZ G om 512 mk, oC oe 4 [.long c0, .long h0, .long l0], oC op 5 [.ref ob, .int (nI nq)], aI G ob 229 f, aH G ocs 4 (fun j => some (kk j)), aQ G ods 256 dec, moC oy r th fi se (nI dp) sh sl (nI nq) oh ol w0 w1 w2, aI G (r 0) 256 ckS, aI G (r 1) 256 ckU, aI G (r 2) 176 (bN ff), aI G (r 3) 16 (bN gg), aI G (r 4) 16 (bN mm), aZ G (r 5) 256 ins, aZ G (r 6) 1024 sb, aI G (r 7) 4 per, aJ G (r 8) 4 ph, aJ G (r 9) 4 pl, aI G (r 10) 4 ss, aI G (r 11) 1024 sv, aI G (r 12) 1024 sw, aZ G (r 13) 512 mk2, aI G (r 14) 229 f, aI G (r 15) 1024 hp, aJ G (r 16) 1024 hh, aJ G (r 17) 1024 hl9, oC (kk c4) 0 [.ref (ks c4), .ref (kv c4), .ref (kw c4), .int (nI (q c4)), .int (nI (sz c4)), .long (ch c4), .long (cl c4)], aZ G (ks c4) 256 (fs c4), aI G (kv c4) 128 (fv c4), aI G (kw c4) 128 (fw c4)] ++ (chO (chB G kk ks kv kw q sz ch cl fs fv fw) c4 ++ decW G T)) H := hP
          have hD : va_D A ([aJ G oq 1 fo, oC ox 7 [.ref oc, .ref ot, .ref oo, .ref oe, .ref op, .ref ocs, .ref ods, .long oh, .long ol], oC ot 6 [.int (nI dp), .long sh, .long sl], oC oc 1 [.ref owd, .long e0, .long f0], aI G owd 44 g, oC oo 2 [.ref om], aZ G om 512 mk, oC oe 4 [.long c0, .long h0, .long l0], oC op 5 [.ref ob, .int (nI nq)], aI G ob 229 f, aH G ocs 4 (fun j => some (kk j)), aQ G ods 256 dec, moC oy r th fi se (nI dp) sh sl (nI nq) oh ol w0 w1 w2, aI G (r 0) 256 ckS, aI G (r 1) 256 ckU, aI G (r 2) 176 (bN ff), aI G (r 3) 16 (bN gg), aI G (r 4) 16 (bN mm), aZ G (r 5) 256 ins, aZ G (r 6) 1024 sb, aI G (r 7) 4 per, aJ G (r 8) 4 ph, aJ G (r 9) 4 pl, aI G (r 10) 4 ss, aI G (r 11) 1024 sv, aI G (r 12) 1024 sw, aZ G (r 13) 512 mk2, aI G (r 14) 229 f, aI G (r 15) 1024 hp, aJ G (r 16) 1024 hh, aJ G (r 17) 1024 hl9, oC (kk c4) 0 [.ref (ks c4), .ref (kv c4), .ref (kw c4), .int (nI (q c4)), .int (nI (sz c4)), .long (ch c4), .long (cl c4)], aZ G (ks c4) 256 (fs c4), aI G (kv c4) 128 (fv c4), aI G (kw c4) 128 (fw c4)] ++ (chO (chB G kk ks kv kw q sz ch cl fs fv fw) c4 ++ decW G T)) := hD
          generalize htl : (chO (chB G kk ks kv kw q sz ch cl fs fv fw) c4 ++ decW G T) = tl at hP hD
          refine lv_aload_n hx hb dLa_law_1422 rfl (lv_at hl 1 rfl) ?_
          refine lv_aload_n hx hb dLa_law_1423 rfl (lv_at hl 0 rfl) ?_
          refine lv_iload hx hb dLa_law_1424 (lv_at hl 4 rfl) ?_
          refine lv_iconst (v := nI 1) hx hb dLa_law_1426 (by decide) ?_
          refine lv_iadd hx hb dLa_law_1427 ?_
          refine ck_sld hx hb hX hbl hbA hS (9 * j + 1) (nI_add _ _) (by omega) (by omega) hy1 dLa_law_1428 ?_
          refine lv_aload_n hx hb dLa_law_1429 rfl (lv_at hl 0 rfl) ?_
          refine lv_iload hx hb dLa_law_1430 (lv_at hl 4 rfl) ?_
          refine lv_iconst (v := nI 2) hx hb dLa_law_1432 (by decide) ?_
          refine lv_iadd hx hb dLa_law_1433 ?_
          refine ck_sld hx hb hX hbl hbA hS (9 * j + 2) (nI_add _ _) (by omega) (by omega) hy2 dLa_law_1434 ?_
          refine lv_aload_n hx hb dLa_law_1435 rfl (lv_at hl 3 rfl) ?_
          refine clLa_141 (As := [.ref ox, .int (nI dd), .int (nI c4), .ref oq]) (rest := []) hx hb hml hown hts (w_La_reach l G ox oq (nI dd) (nI c4) fo _ (k_CK_reach l G ox oc ot oo oe op ocs ods oh ol dp hdp sh sl dec dd hdd kk (ks c4) (kv c4) (kw c4) c4 hc4 (q c4) (sz c4) od hqp (by omega) r4 ho (ch c4) (cl c4) (fv c4) (fw c4)) rfl (fun _ => rfl)) hG hA hP hD hS [0, 1, 2, 10, 31, 11, 33, 34] rfl rfl (fun _ => rfl) rfl hl.1 rfl (Nat.le_of_ble_eq_true rfl) ⟨Nat.le_of_ble_eq_true rfl, Nat.le_of_ble_eq_true rfl⟩ ⟨Nat.le_trans (Nat.add_le_add_left (Nat.le_of_ble_eq_true rfl) _) hcf.1, Nat.le_trans (Nat.add_le_add_left (Nat.le_of_ble_eq_true rfl) _) hcf.2⟩ dLa_law_1436 (fun _ H locs _ hP hD hS => ?_)
          have hP : va_P G.1 vwCl ([aJ G oq 1 (vp_updL fo 0 (nI (cntR dp (nI dd) (fv c4) (fw c4) (sz c4))).toInt64), oC ox 7 [.ref oc, .ref ot, .ref oo, .ref oe, .ref op, .ref ocs, .ref ods, .long oh, .long ol], oC ot 6 [.int (nI dp), .long sh, .long sl], oC oc 1 [.ref owd, .long e0, .long f0], aI G owd 44 g, oC oo 2 [.ref om], aZ G om 512 mk, oC oe 4 [.long c0, .long h0, .long l0], oC op 5 [.ref ob, .int (nI nq)], aI G ob 229 f, aH G ocs 4 (fun j => some (kk j)), aQ G ods 256 dec, moC oy r th fi se (nI dp) sh sl (nI nq) oh ol w0 w1 w2, aI G (r 0) 256 ckS, aI G (r 1) 256 ckU, aI G (r 2) 176 (bN ff), aI G (r 3) 16 (bN gg), aI G (r 4) 16 (bN mm), aZ G (r 5) 256 ins, aZ G (r 6) 1024 sb, aI G (r 7) 4 per, aJ G (r 8) 4 ph, aJ G (r 9) 4 pl, aI G (r 10) 4 ss, aI G (r 11) 1024 sv, aI G (r 12) 1024 sw, aZ G (r 13) 512 mk2, aI G (r 14) 229 f, aI G (r 15) 1024 hp, aJ G (r 16) 1024 hh, aJ G (r 17) 1024 hl9, oC (kk c4) 0 [.ref (ks c4), .ref (kv c4), .ref (kw c4), .int (nI (q c4)), .int (nI (sz c4)), .long (ch c4), .long (cl c4)], aZ G (ks c4) 256 (fs c4), aI G (kv c4) 128 (fv c4), aI G (kw c4) 128 (fw c4)] ++ tl) H := hP
          have hD : va_D A ([aJ G oq 1 (vp_updL fo 0 (nI (cntR dp (nI dd) (fv c4) (fw c4) (sz c4))).toInt64), oC ox 7 [.ref oc, .ref ot, .ref oo, .ref oe, .ref op, .ref ocs, .ref ods, .long oh, .long ol], oC ot 6 [.int (nI dp), .long sh, .long sl], oC oc 1 [.ref owd, .long e0, .long f0], aI G owd 44 g, oC oo 2 [.ref om], aZ G om 512 mk, oC oe 4 [.long c0, .long h0, .long l0], oC op 5 [.ref ob, .int (nI nq)], aI G ob 229 f, aH G ocs 4 (fun j => some (kk j)), aQ G ods 256 dec, moC oy r th fi se (nI dp) sh sl (nI nq) oh ol w0 w1 w2, aI G (r 0) 256 ckS, aI G (r 1) 256 ckU, aI G (r 2) 176 (bN ff), aI G (r 3) 16 (bN gg), aI G (r 4) 16 (bN mm), aZ G (r 5) 256 ins, aZ G (r 6) 1024 sb, aI G (r 7) 4 per, aJ G (r 8) 4 ph, aJ G (r 9) 4 pl, aI G (r 10) 4 ss, aI G (r 11) 1024 sv, aI G (r 12) 1024 sw, aZ G (r 13) 512 mk2, aI G (r 14) 229 f, aI G (r 15) 1024 hp, aJ G (r 16) 1024 hh, aJ G (r 17) 1024 hl9, oC (kk c4) 0 [.ref (ks c4), .ref (kv c4), .ref (kw c4), .int (nI (q c4)), .int (nI (sz c4)), .long (ch c4), .long (cl c4)], aZ G (ks c4) 256 (fs c4), aI G (kv c4) 128 (fv c4), aI G (kw c4) 128 (fw c4)] ++ tl) := hD
          refine W.widen (k := 60 + 4 * j + 4) (n := 20000 + 20 * j + 20) (Nat.add_le_add_left (Nat.le_of_ble_eq_true rfl) _) (Nat.add_le_add_left (Nat.le_of_ble_eq_true rfl) _) ?_
          refine W.eq (g2 := F0 m 1439 ls [.int (nI 0)]) rfl ?_
          refine lv_istore (lv' := [(5, .int (nI 0)), (0, .ref b), (1, .ref ox), (2, .ref oy), (3, .ref oq), (4, .int (nI (9 * j)))]) hx hb dLa_law_1439 hl (by decide) rfl (fun ls hl => ?_)
          refine lv_aload_n hx hb dLa_law_1441 rfl (lv_at hl 3 rfl) ?_
          refine lv_aload_n hx hb dLa_law_1442 rfl (lv_at hl 1 rfl) ?_
          refine lv_iload hx hb dLa_law_1443 (lv_at hl 5 rfl) ?_
          refine lv_iconst (v := nI 1) hx hb dLa_law_1445 (by decide) ?_
          refine lv_iadd hx hb dLa_law_1446 ?_
          refine ck_sld hx hb hX hbl hbA hS (9 * j + 1) (nI_add _ _) (by omega) (by omega) hy1 dLa_law_1447 ?_
          refine lv_aload_n hx hb dLa_law_1448 rfl (lv_at hl 1 rfl) ?_
          refine lv_iload hx hb dLa_law_1449 (lv_at hl 5 rfl) ?_
          refine lv_iconst (v := nI 2) hx hb dLa_law_1451 (by decide) ?_
          refine lv_iadd hx hb dLa_law_1452 ?_
          refine ck_sld hx hb hX hbl hbA hS (9 * j + 2) (nI_add _ _) (by omega) (by omega) hy2 dLa_law_1453 ?_
          refine clLa_143 (As := [.int (nI dd), .int (nI c4)]) (rest := []) hx hb hml hown hts (k_Mo_reach l G oy r th fi se dp hdp sh sl (nI nq) oh ol w0 w1 w2 dd hdd c4 hc4 per ins ss sv sw (fv c4) (fw c4) hq9 hi9 (sz c4) r3 r4 (fun k hk => (r7 k hk).1) (fun k hk => (r7 k hk).2)) hG hA hP hD hS 12 rfl [12, 20, 18, 23, 24, 25] rfl rfl (fun _ => rfl) rfl hl.1 rfl (Nat.le_of_ble_eq_true rfl) ⟨Nat.le_of_ble_eq_true rfl, Nat.le_of_ble_eq_true rfl⟩ ⟨hcf.1, hcf.2⟩ dLa_law_1454 (fun _ H locs _ hP hD hS => ?_)
          have hP : va_P G.1 vwCl ([aJ G oq 1 (vp_updL fo 0 (nI (cntR dp (nI dd) (fv c4) (fw c4) (sz c4))).toInt64), oC ox 7 [.ref oc, .ref ot, .ref oo, .ref oe, .ref op, .ref ocs, .ref ods, .long oh, .long ol], oC ot 6 [.int (nI dp), .long sh, .long sl], oC oc 1 [.ref owd, .long e0, .long f0], aI G owd 44 g, oC oo 2 [.ref om], aZ G om 512 mk, oC oe 4 [.long c0, .long h0, .long l0], oC op 5 [.ref ob, .int (nI nq)], aI G ob 229 f, aH G ocs 4 (fun j => some (kk j)), aQ G ods 256 dec, moC oy r (nI 0) fi se (nI dp) sh sl (nI nq) oh ol w0 w1 w2, aI G (r 0) 256 ckS, aI G (r 1) 256 ckU, aI G (r 2) 176 (bN ff), aI G (r 3) 16 (bN gg), aI G (r 4) 16 (bN mm), aZ G (r 5) 256 ins, aZ G (r 6) 1024 sb, aI G (r 7) 4 per, aJ G (r 8) 4 ph, aJ G (r 9) 4 pl, aI G (r 10) 4 ss, aI G (r 11) 1024 sv, aI G (r 12) 1024 sw, aZ G (r 13) 512 mk2, aI G (r 14) 229 f, aI G (r 15) 1024 hp, aJ G (r 16) 1024 hh, aJ G (r 17) 1024 hl9, oC (kk c4) 0 [.ref (ks c4), .ref (kv c4), .ref (kw c4), .int (nI (q c4)), .int (nI (sz c4)), .long (ch c4), .long (cl c4)], aZ G (ks c4) 256 (fs c4), aI G (kv c4) 128 (fv c4), aI G (kw c4) 128 (fw c4)] ++ tl) H := hP
          have hD : va_D A ([aJ G oq 1 (vp_updL fo 0 (nI (cntR dp (nI dd) (fv c4) (fw c4) (sz c4))).toInt64), oC ox 7 [.ref oc, .ref ot, .ref oo, .ref oe, .ref op, .ref ocs, .ref ods, .long oh, .long ol], oC ot 6 [.int (nI dp), .long sh, .long sl], oC oc 1 [.ref owd, .long e0, .long f0], aI G owd 44 g, oC oo 2 [.ref om], aZ G om 512 mk, oC oe 4 [.long c0, .long h0, .long l0], oC op 5 [.ref ob, .int (nI nq)], aI G ob 229 f, aH G ocs 4 (fun j => some (kk j)), aQ G ods 256 dec, moC oy r (nI 0) fi se (nI dp) sh sl (nI nq) oh ol w0 w1 w2, aI G (r 0) 256 ckS, aI G (r 1) 256 ckU, aI G (r 2) 176 (bN ff), aI G (r 3) 16 (bN gg), aI G (r 4) 16 (bN mm), aZ G (r 5) 256 ins, aZ G (r 6) 1024 sb, aI G (r 7) 4 per, aJ G (r 8) 4 ph, aJ G (r 9) 4 pl, aI G (r 10) 4 ss, aI G (r 11) 1024 sv, aI G (r 12) 1024 sw, aZ G (r 13) 512 mk2, aI G (r 14) 229 f, aI G (r 15) 1024 hp, aJ G (r 16) 1024 hh, aJ G (r 17) 1024 hl9, oC (kk c4) 0 [.ref (ks c4), .ref (kv c4), .ref (kw c4), .int (nI (q c4)), .int (nI (sz c4)), .long (ch c4), .long (cl c4)], aZ G (ks c4) 256 (fs c4), aI G (kv c4) 128 (fv c4), aI G (kw c4) 128 (fw c4)] ++ tl) := hD
          refine W.cs (cells' := 60 + 4 * j + 4) (slots' := 20000 + 20 * j + 20) rfl rfl ?_
          refine W.eq (g2 := F0 m 1457 ls [.int (nI (cntR dp (nI dd) (fv c4) (fw c4) (sz c4)))]) rfl ?_
          refine lv_istore (lv' := [(6, .int (nI (cntR dp (nI dd) (fv c4) (fw c4) (sz c4)))), (5, .int (nI 0)), (0, .ref b), (1, .ref ox), (2, .ref oy), (3, .ref oq), (4, .int (nI (9 * j)))]) hx hb dLa_law_1457 hl (by decide) rfl (fun ls hl => ?_)
          refine lv_aload_n hx hb dLa_law_1459 rfl (lv_at hl 4 rfl) ?_
          refine clLa_88 (As := []) (rest := []) hx hb hml hown hts (k_Mo_thrown l G oy r (nI 0) fi se (nI dp) sh sl (nI nq) oh ol w0 w1 w2) hG hA hP hD hS 12 rfl [12] rfl rfl (fun _ => rfl) rfl hl.1 rfl (Nat.le_of_ble_eq_true rfl) ⟨Nat.le_of_ble_eq_true rfl, Nat.le_of_ble_eq_true rfl⟩ ⟨hcf.1, hcf.2⟩ dLa_law_1460 (fun _ H locs _ hP hD hS => ?_)
          have hP : va_P G.1 vwCl ([aJ G oq 1 (vp_updL fo 0 (nI (cntR dp (nI dd) (fv c4) (fw c4) (sz c4))).toInt64), oC ox 7 [.ref oc, .ref ot, .ref oo, .ref oe, .ref op, .ref ocs, .ref ods, .long oh, .long ol], oC ot 6 [.int (nI dp), .long sh, .long sl], oC oc 1 [.ref owd, .long e0, .long f0], aI G owd 44 g, oC oo 2 [.ref om], aZ G om 512 mk, oC oe 4 [.long c0, .long h0, .long l0], oC op 5 [.ref ob, .int (nI nq)], aI G ob 229 f, aH G ocs 4 (fun j => some (kk j)), aQ G ods 256 dec, moC oy r (nI 0) fi se (nI dp) sh sl (nI nq) oh ol w0 w1 w2, aI G (r 0) 256 ckS, aI G (r 1) 256 ckU, aI G (r 2) 176 (bN ff), aI G (r 3) 16 (bN gg), aI G (r 4) 16 (bN mm), aZ G (r 5) 256 ins, aZ G (r 6) 1024 sb, aI G (r 7) 4 per, aJ G (r 8) 4 ph, aJ G (r 9) 4 pl, aI G (r 10) 4 ss, aI G (r 11) 1024 sv, aI G (r 12) 1024 sw, aZ G (r 13) 512 mk2, aI G (r 14) 229 f, aI G (r 15) 1024 hp, aJ G (r 16) 1024 hh, aJ G (r 17) 1024 hl9, oC (kk c4) 0 [.ref (ks c4), .ref (kv c4), .ref (kw c4), .int (nI (q c4)), .int (nI (sz c4)), .long (ch c4), .long (cl c4)], aZ G (ks c4) 256 (fs c4), aI G (kv c4) 128 (fv c4), aI G (kw c4) 128 (fw c4)] ++ tl) H := hP
          have hD : va_D A ([aJ G oq 1 (vp_updL fo 0 (nI (cntR dp (nI dd) (fv c4) (fw c4) (sz c4))).toInt64), oC ox 7 [.ref oc, .ref ot, .ref oo, .ref oe, .ref op, .ref ocs, .ref ods, .long oh, .long ol], oC ot 6 [.int (nI dp), .long sh, .long sl], oC oc 1 [.ref owd, .long e0, .long f0], aI G owd 44 g, oC oo 2 [.ref om], aZ G om 512 mk, oC oe 4 [.long c0, .long h0, .long l0], oC op 5 [.ref ob, .int (nI nq)], aI G ob 229 f, aH G ocs 4 (fun j => some (kk j)), aQ G ods 256 dec, moC oy r (nI 0) fi se (nI dp) sh sl (nI nq) oh ol w0 w1 w2, aI G (r 0) 256 ckS, aI G (r 1) 256 ckU, aI G (r 2) 176 (bN ff), aI G (r 3) 16 (bN gg), aI G (r 4) 16 (bN mm), aZ G (r 5) 256 ins, aZ G (r 6) 1024 sb, aI G (r 7) 4 per, aJ G (r 8) 4 ph, aJ G (r 9) 4 pl, aI G (r 10) 4 ss, aI G (r 11) 1024 sv, aI G (r 12) 1024 sw, aZ G (r 13) 512 mk2, aI G (r 14) 229 f, aI G (r 15) 1024 hp, aJ G (r 16) 1024 hh, aJ G (r 17) 1024 hl9, oC (kk c4) 0 [.ref (ks c4), .ref (kv c4), .ref (kw c4), .int (nI (q c4)), .int (nI (sz c4)), .long (ch c4), .long (cl c4)], aZ G (ks c4) 256 (fs c4), aI G (kv c4) 128 (fv c4), aI G (kw c4) 128 (fw c4)] ++ tl) := hD
          refine W.cs (cells' := 60 + 4 * j + 4) (slots' := 20000 + 20 * j + 20) rfl rfl ?_
          refine W.eq (g2 := F0 m 1463 ls [.int (nI 0)]) rfl ?_
          refine lv_iload hx hb dLa_law_1463 (lv_at hl 1 rfl) ?_
          refine lv_icmp_eq (tgt := 1470) hx hb dLa_law_1465 rfl (fun _ => ?_) (fun h => absurd (rfl) h)
          refine lv_iload hx hb dLa_law_1470 (lv_at hl 1 rfl) ?_
          refine lv_if_ne (tgt := 1487) hx hb dLa_law_1472 rfl (fun h => absurd (rfl) h) (fun _ => ?_)
          refine lv_aload_n hx hb dLa_law_1475 rfl (lv_at hl 5 rfl) ?_
          refine lv_iconst (v := nI 0) hx hb dLa_law_1476 (by decide) ?_
          refine ck_lald hx hb hG hP 0 rfl (by decide) 0 (rfl) (by decide) dLa_law_1477 ?_
          refine ck_rl (y := (nI (cntR dp (nI dd) (fv c4) (fw c4) (sz c4))).toInt64) (rfl) ?_
          refine lv_iload hx hb dLa_law_1478 (lv_at hl 0 rfl) ?_
          refine lv_i2l (v := (nI (cntR dp (nI dd) (fv c4) (fw c4) (sz c4))).toInt64) hx hb dLa_law_1480 rfl ?_
          refine W.lcmp hx hb dLa_law_1481 ?_
          refine lv_if_eq (tgt := 1487) hx hb dLa_law_1482 rfl (fun _ => ?_) (fun h => absurd ((lg_cmp_0 _ _).mpr (rfl)) h)
          refine lv_goto (tgt := 1641) hx hb dLa_law_1487 rfl ?_
          refine lv_iinc (v := nI (9 * (j + 1))) (lv' := [(4, .int (nI (9 * (j + 1)))), (6, .int (nI (cntR dp (nI dd) (fv c4) (fw c4) (sz c4)))), (5, .int (nI 0)), (0, .ref b), (1, .ref ox), (2, .ref oy), (3, .ref oq)]) hx hb dLa_law_1641 hl (k := 6) rfl (nI_add (9 * j) 9) (by decide) rfl (fun ls hl => ?_)
          refine lv_goto (tgt := 23) hx hb dLa_law_1644 rfl ?_
          refine W.cs (cells' := 60 + 4 * (j + 1)) (slots' := 20000 + 20 * (j + 1)) (by omega) (by omega) ?_
          subst htl
          have hP := P_perm (pmB' (B := chB G kk ks kv kw q sz ch cl fs fv fw) (B' := chB G kk ks kv kw q sz ch cl fs fv fw) [aJ G oq 1 (vp_updL fo 0 (nI (cntR dp (nI dd) (fv c4) (fw c4) (sz c4))).toInt64), oC ox 7 [.ref oc, .ref ot, .ref oo, .ref oe, .ref op, .ref ocs, .ref ods, .long oh, .long ol], oC ot 6 [.int (nI dp), .long sh, .long sl], oC oc 1 [.ref owd, .long e0, .long f0], aI G owd 44 g, oC oo 2 [.ref om], aZ G om 512 mk, oC oe 4 [.long c0, .long h0, .long l0], oC op 5 [.ref ob, .int (nI nq)], aI G ob 229 f, aH G ocs 4 (fun j => some (kk j)), aQ G ods 256 dec, moC oy r (nI 0) fi se (nI dp) sh sl (nI nq) oh ol w0 w1 w2, aI G (r 0) 256 ckS, aI G (r 1) 256 ckU, aI G (r 2) 176 (bN ff), aI G (r 3) 16 (bN gg), aI G (r 4) 16 (bN mm), aZ G (r 5) 256 ins, aZ G (r 6) 1024 sb, aI G (r 7) 4 per, aJ G (r 8) 4 ph, aJ G (r 9) 4 pl, aI G (r 10) 4 ss, aI G (r 11) 1024 sv, aI G (r 12) 1024 sw, aZ G (r 13) 512 mk2, aI G (r 14) 229 f, aI G (r 15) 1024 hp, aJ G (r 16) 1024 hh, aJ G (r 17) 1024 hl9] (decW G T) hc4 (fun _ _ _ => rfl)) hP
          have hD := D_perm (pmB' (B := chB G kk ks kv kw q sz ch cl fs fv fw) (B' := chB G kk ks kv kw q sz ch cl fs fv fw) [aJ G oq 1 (vp_updL fo 0 (nI (cntR dp (nI dd) (fv c4) (fw c4) (sz c4))).toInt64), oC ox 7 [.ref oc, .ref ot, .ref oo, .ref oe, .ref op, .ref ocs, .ref ods, .long oh, .long ol], oC ot 6 [.int (nI dp), .long sh, .long sl], oC oc 1 [.ref owd, .long e0, .long f0], aI G owd 44 g, oC oo 2 [.ref om], aZ G om 512 mk, oC oe 4 [.long c0, .long h0, .long l0], oC op 5 [.ref ob, .int (nI nq)], aI G ob 229 f, aH G ocs 4 (fun j => some (kk j)), aQ G ods 256 dec, moC oy r (nI 0) fi se (nI dp) sh sl (nI nq) oh ol w0 w1 w2, aI G (r 0) 256 ckS, aI G (r 1) 256 ckU, aI G (r 2) 176 (bN ff), aI G (r 3) 16 (bN gg), aI G (r 4) 16 (bN mm), aZ G (r 5) 256 ins, aZ G (r 6) 1024 sb, aI G (r 7) 4 per, aJ G (r 8) 4 ph, aJ G (r 9) 4 pl, aI G (r 10) 4 ss, aI G (r 11) 1024 sv, aI G (r 12) 1024 sw, aZ G (r 13) 512 mk2, aI G (r 14) 229 f, aI G (r 15) 1024 hp, aJ G (r 16) 1024 hh, aJ G (r 17) 1024 hl9] (decW G T) hc4 (fun _ _ _ => rfl)) hD
          exact ih oh ol dp sh sl g e0 f0 mk c0 h0 l0 nq f dec q sz ch cl fs fv fw T (vp_updL fo 0 (nI (cntR dp (nI dd) (fv c4) (fw c4) (sz c4))).toInt64) (nI 0) fi se w0 w1 w2 ff gg mm ins sb per ph pl ss sv sw mk2 hp hh hl9 _ _ _ hdp1 hdp hR1 hR2 hR3 hR4 hP hD hS (lv_sub hl [3, 4, 5, 6, 0] rfl)
    · have hP : va_P G.1 vwCl ([aJ G oq 1 fo, oC ox 7 [.ref oc, .ref ot, .ref oo, .ref oe, .ref op, .ref ocs, .ref ods, .long oh, .long ol], oC ot 6 [.int (nI dp), .long sh, .long sl], oC oc 1 [.ref owd, .long e0, .long f0], aI G owd 44 g, oC oo 2 [.ref om], aZ G om 512 mk, oC oe 4 [.long c0, .long h0, .long l0], oC op 5 [.ref ob, .int (nI nq)], aI G ob 229 f, aH G ocs 4 (fun j => some (kk j)), aQ G ods 256 dec, moC oy r th fi se (nI dp) sh sl (nI nq) oh ol w0 w1 w2, aI G (r 0) 256 ckS, aI G (r 1) 256 ckU, aI G (r 2) 176 (bN ff), aI G (r 3) 16 (bN gg), aI G (r 4) 16 (bN mm), aZ G (r 5) 256 ins, aZ G (r 6) 1024 sb, aI G (r 7) 4 per, aJ G (r 8) 4 ph, aJ G (r 9) 4 pl, aI G (r 10) 4 ss, aI G (r 11) 1024 sv, aI G (r 12) 1024 sw, aZ G (r 13) 512 mk2, aI G (r 14) 229 f, aI G (r 15) 1024 hp, aJ G (r 16) 1024 hh, aJ G (r 17) 1024 hl9] ++ (chA (chB G kk ks kv kw q sz ch cl fs fv fw) ++ decW G T)) H := hP
      have hD : va_D A ([aJ G oq 1 fo, oC ox 7 [.ref oc, .ref ot, .ref oo, .ref oe, .ref op, .ref ocs, .ref ods, .long oh, .long ol], oC ot 6 [.int (nI dp), .long sh, .long sl], oC oc 1 [.ref owd, .long e0, .long f0], aI G owd 44 g, oC oo 2 [.ref om], aZ G om 512 mk, oC oe 4 [.long c0, .long h0, .long l0], oC op 5 [.ref ob, .int (nI nq)], aI G ob 229 f, aH G ocs 4 (fun j => some (kk j)), aQ G ods 256 dec, moC oy r th fi se (nI dp) sh sl (nI nq) oh ol w0 w1 w2, aI G (r 0) 256 ckS, aI G (r 1) 256 ckU, aI G (r 2) 176 (bN ff), aI G (r 3) 16 (bN gg), aI G (r 4) 16 (bN mm), aZ G (r 5) 256 ins, aZ G (r 6) 1024 sb, aI G (r 7) 4 per, aJ G (r 8) 4 ph, aJ G (r 9) 4 pl, aI G (r 10) 4 ss, aI G (r 11) 1024 sv, aI G (r 12) 1024 sw, aZ G (r 13) 512 mk2, aI G (r 14) 229 f, aI G (r 15) 1024 hp, aJ G (r 16) 1024 hh, aJ G (r 17) 1024 hl9] ++ (chA (chB G kk ks kv kw q sz ch cl fs fv fw) ++ decW G T)) := hD
      generalize htl : (chA (chB G kk ks kv kw q sz ch cl fs fv fw) ++ decW G T) = tl at hP hD
      refine lv_aload_n hx hb dLa_law_1422 rfl (lv_at hl 1 rfl) ?_
      refine lv_aload_n hx hb dLa_law_1423 rfl (lv_at hl 0 rfl) ?_
      refine lv_iload hx hb dLa_law_1424 (lv_at hl 4 rfl) ?_
      refine lv_iconst (v := nI 1) hx hb dLa_law_1426 (by decide) ?_
      refine lv_iadd hx hb dLa_law_1427 ?_
      refine ck_sld hx hb hX hbl hbA hS (9 * j + 1) (nI_add _ _) (by omega) (by omega) hy1 dLa_law_1428 ?_
      refine lv_aload_n hx hb dLa_law_1429 rfl (lv_at hl 0 rfl) ?_
      refine lv_iload hx hb dLa_law_1430 (lv_at hl 4 rfl) ?_
      refine lv_iconst (v := nI 2) hx hb dLa_law_1432 (by decide) ?_
      refine lv_iadd hx hb dLa_law_1433 ?_
      refine ck_sld hx hb hX hbl hbA hS (9 * j + 2) (nI_add _ _) (by omega) (by omega) hy2 dLa_law_1434 ?_
      refine lv_aload_n hx hb dLa_law_1435 rfl (lv_at hl 3 rfl) ?_
      refine clLa_141 (As := [.ref ox, .int (nI dd), .int y2, .ref oq]) (rest := []) hx hb hml hown hts (w_La_reach_IOB (wi := [oC ox 7 [.ref oc, .ref ot, .ref oo, .ref oe, .ref op, .ref ocs, .ref ods, .long oh, .long ol], oC ot 6 [.int (nI dp), .long sh, .long sl]]) l G ox oq (nI dd) y2 (x_CK_reach2 l hl0 G ox oc ot oo oe op ocs ods oh ol dp hdp sh sl dd hdd y2 hc) 0 rfl [0, 1] rfl rfl rfl) hG hA hP hD hS [1, 2] rfl rfl (fun _ => rfl) rfl hl.1 rfl (Nat.le_of_ble_eq_true rfl) ⟨Nat.le_of_ble_eq_true rfl, Nat.le_of_ble_eq_true rfl⟩ ⟨Nat.le_trans (Nat.add_le_add_left (Nat.le_of_ble_eq_true rfl) _) hcf.1, Nat.le_trans (Nat.add_le_add_left (Nat.le_of_ble_eq_true rfl) _) hcf.2⟩ dLa_law_1436 (fun _ H locs _ hP hD hS => ?_)
      have hP : va_P G.1 vwCl ([aJ G oq 1 fo, oC ox 7 [.ref oc, .ref ot, .ref oo, .ref oe, .ref op, .ref ocs, .ref ods, .long oh, .long ol], oC ot 6 [.int (nI dp), .long sh, .long sl], oC oc 1 [.ref owd, .long e0, .long f0], aI G owd 44 g, oC oo 2 [.ref om], aZ G om 512 mk, oC oe 4 [.long c0, .long h0, .long l0], oC op 5 [.ref ob, .int (nI nq)], aI G ob 229 f, aH G ocs 4 (fun j => some (kk j)), aQ G ods 256 dec, moC oy r th fi se (nI dp) sh sl (nI nq) oh ol w0 w1 w2, aI G (r 0) 256 ckS, aI G (r 1) 256 ckU, aI G (r 2) 176 (bN ff), aI G (r 3) 16 (bN gg), aI G (r 4) 16 (bN mm), aZ G (r 5) 256 ins, aZ G (r 6) 1024 sb, aI G (r 7) 4 per, aJ G (r 8) 4 ph, aJ G (r 9) 4 pl, aI G (r 10) 4 ss, aI G (r 11) 1024 sv, aI G (r 12) 1024 sw, aZ G (r 13) 512 mk2, aI G (r 14) 229 f, aI G (r 15) 1024 hp, aJ G (r 16) 1024 hh, aJ G (r 17) 1024 hl9] ++ tl) H := hP
      have hD : va_D A ([aJ G oq 1 fo, oC ox 7 [.ref oc, .ref ot, .ref oo, .ref oe, .ref op, .ref ocs, .ref ods, .long oh, .long ol], oC ot 6 [.int (nI dp), .long sh, .long sl], oC oc 1 [.ref owd, .long e0, .long f0], aI G owd 44 g, oC oo 2 [.ref om], aZ G om 512 mk, oC oe 4 [.long c0, .long h0, .long l0], oC op 5 [.ref ob, .int (nI nq)], aI G ob 229 f, aH G ocs 4 (fun j => some (kk j)), aQ G ods 256 dec, moC oy r th fi se (nI dp) sh sl (nI nq) oh ol w0 w1 w2, aI G (r 0) 256 ckS, aI G (r 1) 256 ckU, aI G (r 2) 176 (bN ff), aI G (r 3) 16 (bN gg), aI G (r 4) 16 (bN mm), aZ G (r 5) 256 ins, aZ G (r 6) 1024 sb, aI G (r 7) 4 per, aJ G (r 8) 4 ph, aJ G (r 9) 4 pl, aI G (r 10) 4 ss, aI G (r 11) 1024 sv, aI G (r 12) 1024 sw, aZ G (r 13) 512 mk2, aI G (r 14) 229 f, aI G (r 15) 1024 hp, aJ G (r 16) 1024 hh, aJ G (r 17) 1024 hl9] ++ tl) := hD
      refine W.widen (k := 60 + 4 * j + 4) (n := 20000 + 20 * j + 20) (Nat.add_le_add_left (Nat.le_of_ble_eq_true rfl) _) (Nat.add_le_add_left (Nat.le_of_ble_eq_true rfl) _) ?_
      refine W.eq (g2 := F0 m 1439 ls [.int (nI 1)]) rfl ?_
      refine lv_istore (lv' := [(5, .int (nI 1)), (0, .ref b), (1, .ref ox), (2, .ref oy), (3, .ref oq), (4, .int (nI (9 * j)))]) hx hb dLa_law_1439 hl (by decide) rfl (fun ls hl => ?_)
      refine lv_aload_n hx hb dLa_law_1441 rfl (lv_at hl 3 rfl) ?_
      refine lv_aload_n hx hb dLa_law_1442 rfl (lv_at hl 1 rfl) ?_
      refine lv_iload hx hb dLa_law_1443 (lv_at hl 5 rfl) ?_
      refine lv_iconst (v := nI 1) hx hb dLa_law_1445 (by decide) ?_
      refine lv_iadd hx hb dLa_law_1446 ?_
      refine ck_sld hx hb hX hbl hbA hS (9 * j + 1) (nI_add _ _) (by omega) (by omega) hy1 dLa_law_1447 ?_
      refine lv_aload_n hx hb dLa_law_1448 rfl (lv_at hl 1 rfl) ?_
      refine lv_iload hx hb dLa_law_1449 (lv_at hl 5 rfl) ?_
      refine lv_iconst (v := nI 2) hx hb dLa_law_1451 (by decide) ?_
      refine lv_iadd hx hb dLa_law_1452 ?_
      refine ck_sld hx hb hX hbl hbA hS (9 * j + 2) (nI_add _ _) (by omega) (by omega) hy2 dLa_law_1453 ?_
      refine clLa_143 (As := [.int (nI dd), .int y2]) (rest := []) hx hb hml hown hts (k_Mo_reach_e1 l G oy r th fi se dp hdp sh sl (nI nq) oh ol w0 w1 w2 (nI dd) y2 (by rw [hc, Bool.and_false])) hG hA hP hD hS 12 rfl [12] rfl rfl (fun _ => rfl) rfl hl.1 rfl (Nat.le_of_ble_eq_true rfl) ⟨Nat.le_of_ble_eq_true rfl, Nat.le_of_ble_eq_true rfl⟩ ⟨hcf.1, hcf.2⟩ dLa_law_1454 (fun _ H locs _ hP hD hS => ?_)
      have hP : va_P G.1 vwCl ([aJ G oq 1 fo, oC ox 7 [.ref oc, .ref ot, .ref oo, .ref oe, .ref op, .ref ocs, .ref ods, .long oh, .long ol], oC ot 6 [.int (nI dp), .long sh, .long sl], oC oc 1 [.ref owd, .long e0, .long f0], aI G owd 44 g, oC oo 2 [.ref om], aZ G om 512 mk, oC oe 4 [.long c0, .long h0, .long l0], oC op 5 [.ref ob, .int (nI nq)], aI G ob 229 f, aH G ocs 4 (fun j => some (kk j)), aQ G ods 256 dec, moC oy r (nI 1) fi se (nI dp) sh sl (nI nq) oh ol w0 w1 w2, aI G (r 0) 256 ckS, aI G (r 1) 256 ckU, aI G (r 2) 176 (bN ff), aI G (r 3) 16 (bN gg), aI G (r 4) 16 (bN mm), aZ G (r 5) 256 ins, aZ G (r 6) 1024 sb, aI G (r 7) 4 per, aJ G (r 8) 4 ph, aJ G (r 9) 4 pl, aI G (r 10) 4 ss, aI G (r 11) 1024 sv, aI G (r 12) 1024 sw, aZ G (r 13) 512 mk2, aI G (r 14) 229 f, aI G (r 15) 1024 hp, aJ G (r 16) 1024 hh, aJ G (r 17) 1024 hl9] ++ tl) H := hP
      have hD : va_D A ([aJ G oq 1 fo, oC ox 7 [.ref oc, .ref ot, .ref oo, .ref oe, .ref op, .ref ocs, .ref ods, .long oh, .long ol], oC ot 6 [.int (nI dp), .long sh, .long sl], oC oc 1 [.ref owd, .long e0, .long f0], aI G owd 44 g, oC oo 2 [.ref om], aZ G om 512 mk, oC oe 4 [.long c0, .long h0, .long l0], oC op 5 [.ref ob, .int (nI nq)], aI G ob 229 f, aH G ocs 4 (fun j => some (kk j)), aQ G ods 256 dec, moC oy r (nI 1) fi se (nI dp) sh sl (nI nq) oh ol w0 w1 w2, aI G (r 0) 256 ckS, aI G (r 1) 256 ckU, aI G (r 2) 176 (bN ff), aI G (r 3) 16 (bN gg), aI G (r 4) 16 (bN mm), aZ G (r 5) 256 ins, aZ G (r 6) 1024 sb, aI G (r 7) 4 per, aJ G (r 8) 4 ph, aJ G (r 9) 4 pl, aI G (r 10) 4 ss, aI G (r 11) 1024 sv, aI G (r 12) 1024 sw, aZ G (r 13) 512 mk2, aI G (r 14) 229 f, aI G (r 15) 1024 hp, aJ G (r 16) 1024 hh, aJ G (r 17) 1024 hl9] ++ tl) := hD
      refine W.cs (cells' := 60 + 4 * j + 4) (slots' := 20000 + 20 * j + 20) rfl rfl ?_
      refine W.eq (g2 := F0 m 1457 ls [.int (nI 0)]) rfl ?_
      refine lv_istore (lv' := [(6, .int (nI 0)), (5, .int (nI 1)), (0, .ref b), (1, .ref ox), (2, .ref oy), (3, .ref oq), (4, .int (nI (9 * j)))]) hx hb dLa_law_1457 hl (by decide) rfl (fun ls hl => ?_)
      refine lv_aload_n hx hb dLa_law_1459 rfl (lv_at hl 4 rfl) ?_
      refine clLa_88 (As := []) (rest := []) hx hb hml hown hts (k_Mo_thrown l G oy r (nI 1) fi se (nI dp) sh sl (nI nq) oh ol w0 w1 w2) hG hA hP hD hS 12 rfl [12] rfl rfl (fun _ => rfl) rfl hl.1 rfl (Nat.le_of_ble_eq_true rfl) ⟨Nat.le_of_ble_eq_true rfl, Nat.le_of_ble_eq_true rfl⟩ ⟨hcf.1, hcf.2⟩ dLa_law_1460 (fun _ H locs _ hP hD hS => ?_)
      have hP : va_P G.1 vwCl ([aJ G oq 1 fo, oC ox 7 [.ref oc, .ref ot, .ref oo, .ref oe, .ref op, .ref ocs, .ref ods, .long oh, .long ol], oC ot 6 [.int (nI dp), .long sh, .long sl], oC oc 1 [.ref owd, .long e0, .long f0], aI G owd 44 g, oC oo 2 [.ref om], aZ G om 512 mk, oC oe 4 [.long c0, .long h0, .long l0], oC op 5 [.ref ob, .int (nI nq)], aI G ob 229 f, aH G ocs 4 (fun j => some (kk j)), aQ G ods 256 dec, moC oy r (nI 1) fi se (nI dp) sh sl (nI nq) oh ol w0 w1 w2, aI G (r 0) 256 ckS, aI G (r 1) 256 ckU, aI G (r 2) 176 (bN ff), aI G (r 3) 16 (bN gg), aI G (r 4) 16 (bN mm), aZ G (r 5) 256 ins, aZ G (r 6) 1024 sb, aI G (r 7) 4 per, aJ G (r 8) 4 ph, aJ G (r 9) 4 pl, aI G (r 10) 4 ss, aI G (r 11) 1024 sv, aI G (r 12) 1024 sw, aZ G (r 13) 512 mk2, aI G (r 14) 229 f, aI G (r 15) 1024 hp, aJ G (r 16) 1024 hh, aJ G (r 17) 1024 hl9] ++ tl) H := hP
      have hD : va_D A ([aJ G oq 1 fo, oC ox 7 [.ref oc, .ref ot, .ref oo, .ref oe, .ref op, .ref ocs, .ref ods, .long oh, .long ol], oC ot 6 [.int (nI dp), .long sh, .long sl], oC oc 1 [.ref owd, .long e0, .long f0], aI G owd 44 g, oC oo 2 [.ref om], aZ G om 512 mk, oC oe 4 [.long c0, .long h0, .long l0], oC op 5 [.ref ob, .int (nI nq)], aI G ob 229 f, aH G ocs 4 (fun j => some (kk j)), aQ G ods 256 dec, moC oy r (nI 1) fi se (nI dp) sh sl (nI nq) oh ol w0 w1 w2, aI G (r 0) 256 ckS, aI G (r 1) 256 ckU, aI G (r 2) 176 (bN ff), aI G (r 3) 16 (bN gg), aI G (r 4) 16 (bN mm), aZ G (r 5) 256 ins, aZ G (r 6) 1024 sb, aI G (r 7) 4 per, aJ G (r 8) 4 ph, aJ G (r 9) 4 pl, aI G (r 10) 4 ss, aI G (r 11) 1024 sv, aI G (r 12) 1024 sw, aZ G (r 13) 512 mk2, aI G (r 14) 229 f, aI G (r 15) 1024 hp, aJ G (r 16) 1024 hh, aJ G (r 17) 1024 hl9] ++ tl) := hD
      refine W.cs (cells' := 60 + 4 * j + 4) (slots' := 20000 + 20 * j + 20) rfl rfl ?_
      refine W.eq (g2 := F0 m 1463 ls [.int (nI 1)]) rfl ?_
      refine lv_iload hx hb dLa_law_1463 (lv_at hl 1 rfl) ?_
      refine lv_icmp_eq (tgt := 1470) hx hb dLa_law_1465 rfl (fun _ => ?_) (fun h => absurd (rfl) h)
      refine lv_iload hx hb dLa_law_1470 (lv_at hl 1 rfl) ?_
      refine lv_if_ne (tgt := 1487) hx hb dLa_law_1472 rfl (fun _ => ?_) (fun h => absurd h (by decide))
      refine lv_goto (tgt := 1641) hx hb dLa_law_1487 rfl ?_
      refine lv_iinc (v := nI (9 * (j + 1))) (lv' := [(4, .int (nI (9 * (j + 1)))), (6, .int (nI 0)), (5, .int (nI 1)), (0, .ref b), (1, .ref ox), (2, .ref oy), (3, .ref oq)]) hx hb dLa_law_1641 hl (k := 6) rfl (nI_add (9 * j) 9) (by decide) rfl (fun ls hl => ?_)
      refine lv_goto (tgt := 23) hx hb dLa_law_1644 rfl ?_
      refine W.cs (cells' := 60 + 4 * (j + 1)) (slots' := 20000 + 20 * (j + 1)) (by omega) (by omega) ?_
      subst htl
      exact ih oh ol dp sh sl g e0 f0 mk c0 h0 l0 nq f dec q sz ch cl fs fv fw T fo (nI 1) fi se w0 w1 w2 ff gg mm ins sb per ph pl ss sv sw mk2 hp hh hl9 _ _ _ hdp1 hdp hR1 hR2 hR3 hR4 hP hD hS (lv_sub hl [3, 4, 5, 6, 0] rfl)
  · have hP : va_P G.1 vwCl ([aJ G oq 1 fo, oC ox 7 [.ref oc, .ref ot, .ref oo, .ref oe, .ref op, .ref ocs, .ref ods, .long oh, .long ol], oC ot 6 [.int (nI dp), .long sh, .long sl], oC oc 1 [.ref owd, .long e0, .long f0], aI G owd 44 g, oC oo 2 [.ref om], aZ G om 512 mk, oC oe 4 [.long c0, .long h0, .long l0], oC op 5 [.ref ob, .int (nI nq)], aI G ob 229 f, aH G ocs 4 (fun j => some (kk j)), aQ G ods 256 dec, moC oy r th fi se (nI dp) sh sl (nI nq) oh ol w0 w1 w2, aI G (r 0) 256 ckS, aI G (r 1) 256 ckU, aI G (r 2) 176 (bN ff), aI G (r 3) 16 (bN gg), aI G (r 4) 16 (bN mm), aZ G (r 5) 256 ins, aZ G (r 6) 1024 sb, aI G (r 7) 4 per, aJ G (r 8) 4 ph, aJ G (r 9) 4 pl, aI G (r 10) 4 ss, aI G (r 11) 1024 sv, aI G (r 12) 1024 sw, aZ G (r 13) 512 mk2, aI G (r 14) 229 f, aI G (r 15) 1024 hp, aJ G (r 16) 1024 hh, aJ G (r 17) 1024 hl9] ++ (chA (chB G kk ks kv kw q sz ch cl fs fv fw) ++ decW G T)) H := hP
    have hD : va_D A ([aJ G oq 1 fo, oC ox 7 [.ref oc, .ref ot, .ref oo, .ref oe, .ref op, .ref ocs, .ref ods, .long oh, .long ol], oC ot 6 [.int (nI dp), .long sh, .long sl], oC oc 1 [.ref owd, .long e0, .long f0], aI G owd 44 g, oC oo 2 [.ref om], aZ G om 512 mk, oC oe 4 [.long c0, .long h0, .long l0], oC op 5 [.ref ob, .int (nI nq)], aI G ob 229 f, aH G ocs 4 (fun j => some (kk j)), aQ G ods 256 dec, moC oy r th fi se (nI dp) sh sl (nI nq) oh ol w0 w1 w2, aI G (r 0) 256 ckS, aI G (r 1) 256 ckU, aI G (r 2) 176 (bN ff), aI G (r 3) 16 (bN gg), aI G (r 4) 16 (bN mm), aZ G (r 5) 256 ins, aZ G (r 6) 1024 sb, aI G (r 7) 4 per, aJ G (r 8) 4 ph, aJ G (r 9) 4 pl, aI G (r 10) 4 ss, aI G (r 11) 1024 sv, aI G (r 12) 1024 sw, aZ G (r 13) 512 mk2, aI G (r 14) 229 f, aI G (r 15) 1024 hp, aJ G (r 16) 1024 hh, aJ G (r 17) 1024 hl9] ++ (chA (chB G kk ks kv kw q sz ch cl fs fv fw) ++ decW G T)) := hD
    generalize htl : (chA (chB G kk ks kv kw q sz ch cl fs fv fw) ++ decW G T) = tl at hP hD
    refine lv_aload_n hx hb dLa_law_1422 rfl (lv_at hl 1 rfl) ?_
    refine lv_aload_n hx hb dLa_law_1423 rfl (lv_at hl 0 rfl) ?_
    refine lv_iload hx hb dLa_law_1424 (lv_at hl 4 rfl) ?_
    refine lv_iconst (v := nI 1) hx hb dLa_law_1426 (by decide) ?_
    refine lv_iadd hx hb dLa_law_1427 ?_
    refine ck_sld hx hb hX hbl hbA hS (9 * j + 1) (nI_add _ _) (by omega) (by omega) hy1 dLa_law_1428 ?_
    refine lv_aload_n hx hb dLa_law_1429 rfl (lv_at hl 0 rfl) ?_
    refine lv_iload hx hb dLa_law_1430 (lv_at hl 4 rfl) ?_
    refine lv_iconst (v := nI 2) hx hb dLa_law_1432 (by decide) ?_
    refine lv_iadd hx hb dLa_law_1433 ?_
    refine ck_sld hx hb hX hbl hbA hS (9 * j + 2) (nI_add _ _) (by omega) (by omega) hy2 dLa_law_1434 ?_
    refine lv_aload_n hx hb dLa_law_1435 rfl (lv_at hl 3 rfl) ?_
    refine clLa_141 (As := [.ref ox, .int y1, .int y2, .ref oq]) (rest := []) hx hb hml hown hts (w_La_reach_IOB (wi := [oC ox 7 [.ref oc, .ref ot, .ref oo, .ref oe, .ref op, .ref ocs, .ref ods, .long oh, .long ol], oC ot 6 [.int (nI dp), .long sh, .long sl]]) l G ox oq y1 y2 (x_CK_reach1 l hl0 G ox oc ot oo oe op ocs ods oh ol dp hdp sh sl y1 y2 hd) 0 rfl [0, 1] rfl rfl rfl) hG hA hP hD hS [1, 2] rfl rfl (fun _ => rfl) rfl hl.1 rfl (Nat.le_of_ble_eq_true rfl) ⟨Nat.le_of_ble_eq_true rfl, Nat.le_of_ble_eq_true rfl⟩ ⟨Nat.le_trans (Nat.add_le_add_left (Nat.le_of_ble_eq_true rfl) _) hcf.1, Nat.le_trans (Nat.add_le_add_left (Nat.le_of_ble_eq_true rfl) _) hcf.2⟩ dLa_law_1436 (fun _ H locs _ hP hD hS => ?_)
    have hP : va_P G.1 vwCl ([aJ G oq 1 fo, oC ox 7 [.ref oc, .ref ot, .ref oo, .ref oe, .ref op, .ref ocs, .ref ods, .long oh, .long ol], oC ot 6 [.int (nI dp), .long sh, .long sl], oC oc 1 [.ref owd, .long e0, .long f0], aI G owd 44 g, oC oo 2 [.ref om], aZ G om 512 mk, oC oe 4 [.long c0, .long h0, .long l0], oC op 5 [.ref ob, .int (nI nq)], aI G ob 229 f, aH G ocs 4 (fun j => some (kk j)), aQ G ods 256 dec, moC oy r th fi se (nI dp) sh sl (nI nq) oh ol w0 w1 w2, aI G (r 0) 256 ckS, aI G (r 1) 256 ckU, aI G (r 2) 176 (bN ff), aI G (r 3) 16 (bN gg), aI G (r 4) 16 (bN mm), aZ G (r 5) 256 ins, aZ G (r 6) 1024 sb, aI G (r 7) 4 per, aJ G (r 8) 4 ph, aJ G (r 9) 4 pl, aI G (r 10) 4 ss, aI G (r 11) 1024 sv, aI G (r 12) 1024 sw, aZ G (r 13) 512 mk2, aI G (r 14) 229 f, aI G (r 15) 1024 hp, aJ G (r 16) 1024 hh, aJ G (r 17) 1024 hl9] ++ tl) H := hP
    have hD : va_D A ([aJ G oq 1 fo, oC ox 7 [.ref oc, .ref ot, .ref oo, .ref oe, .ref op, .ref ocs, .ref ods, .long oh, .long ol], oC ot 6 [.int (nI dp), .long sh, .long sl], oC oc 1 [.ref owd, .long e0, .long f0], aI G owd 44 g, oC oo 2 [.ref om], aZ G om 512 mk, oC oe 4 [.long c0, .long h0, .long l0], oC op 5 [.ref ob, .int (nI nq)], aI G ob 229 f, aH G ocs 4 (fun j => some (kk j)), aQ G ods 256 dec, moC oy r th fi se (nI dp) sh sl (nI nq) oh ol w0 w1 w2, aI G (r 0) 256 ckS, aI G (r 1) 256 ckU, aI G (r 2) 176 (bN ff), aI G (r 3) 16 (bN gg), aI G (r 4) 16 (bN mm), aZ G (r 5) 256 ins, aZ G (r 6) 1024 sb, aI G (r 7) 4 per, aJ G (r 8) 4 ph, aJ G (r 9) 4 pl, aI G (r 10) 4 ss, aI G (r 11) 1024 sv, aI G (r 12) 1024 sw, aZ G (r 13) 512 mk2, aI G (r 14) 229 f, aI G (r 15) 1024 hp, aJ G (r 16) 1024 hh, aJ G (r 17) 1024 hl9] ++ tl) := hD
    refine W.widen (k := 60 + 4 * j + 4) (n := 20000 + 20 * j + 20) (Nat.add_le_add_left (Nat.le_of_ble_eq_true rfl) _) (Nat.add_le_add_left (Nat.le_of_ble_eq_true rfl) _) ?_
    refine W.eq (g2 := F0 m 1439 ls [.int (nI 1)]) rfl ?_
    refine lv_istore (lv' := [(5, .int (nI 1)), (0, .ref b), (1, .ref ox), (2, .ref oy), (3, .ref oq), (4, .int (nI (9 * j)))]) hx hb dLa_law_1439 hl (by decide) rfl (fun ls hl => ?_)
    refine lv_aload_n hx hb dLa_law_1441 rfl (lv_at hl 3 rfl) ?_
    refine lv_aload_n hx hb dLa_law_1442 rfl (lv_at hl 1 rfl) ?_
    refine lv_iload hx hb dLa_law_1443 (lv_at hl 5 rfl) ?_
    refine lv_iconst (v := nI 1) hx hb dLa_law_1445 (by decide) ?_
    refine lv_iadd hx hb dLa_law_1446 ?_
    refine ck_sld hx hb hX hbl hbA hS (9 * j + 1) (nI_add _ _) (by omega) (by omega) hy1 dLa_law_1447 ?_
    refine lv_aload_n hx hb dLa_law_1448 rfl (lv_at hl 1 rfl) ?_
    refine lv_iload hx hb dLa_law_1449 (lv_at hl 5 rfl) ?_
    refine lv_iconst (v := nI 2) hx hb dLa_law_1451 (by decide) ?_
    refine lv_iadd hx hb dLa_law_1452 ?_
    refine ck_sld hx hb hX hbl hbA hS (9 * j + 2) (nI_add _ _) (by omega) (by omega) hy2 dLa_law_1453 ?_
    refine clLa_143 (As := [.int y1, .int y2]) (rest := []) hx hb hml hown hts (k_Mo_reach_e1 l G oy r th fi se dp hdp sh sl (nI nq) oh ol w0 w1 w2 y1 y2 (by rw [hd]; rfl)) hG hA hP hD hS 12 rfl [12] rfl rfl (fun _ => rfl) rfl hl.1 rfl (Nat.le_of_ble_eq_true rfl) ⟨Nat.le_of_ble_eq_true rfl, Nat.le_of_ble_eq_true rfl⟩ ⟨hcf.1, hcf.2⟩ dLa_law_1454 (fun _ H locs _ hP hD hS => ?_)
    have hP : va_P G.1 vwCl ([aJ G oq 1 fo, oC ox 7 [.ref oc, .ref ot, .ref oo, .ref oe, .ref op, .ref ocs, .ref ods, .long oh, .long ol], oC ot 6 [.int (nI dp), .long sh, .long sl], oC oc 1 [.ref owd, .long e0, .long f0], aI G owd 44 g, oC oo 2 [.ref om], aZ G om 512 mk, oC oe 4 [.long c0, .long h0, .long l0], oC op 5 [.ref ob, .int (nI nq)], aI G ob 229 f, aH G ocs 4 (fun j => some (kk j)), aQ G ods 256 dec, moC oy r (nI 1) fi se (nI dp) sh sl (nI nq) oh ol w0 w1 w2, aI G (r 0) 256 ckS, aI G (r 1) 256 ckU, aI G (r 2) 176 (bN ff), aI G (r 3) 16 (bN gg), aI G (r 4) 16 (bN mm), aZ G (r 5) 256 ins, aZ G (r 6) 1024 sb, aI G (r 7) 4 per, aJ G (r 8) 4 ph, aJ G (r 9) 4 pl, aI G (r 10) 4 ss, aI G (r 11) 1024 sv, aI G (r 12) 1024 sw, aZ G (r 13) 512 mk2, aI G (r 14) 229 f, aI G (r 15) 1024 hp, aJ G (r 16) 1024 hh, aJ G (r 17) 1024 hl9] ++ tl) H := hP
    have hD : va_D A ([aJ G oq 1 fo, oC ox 7 [.ref oc, .ref ot, .ref oo, .ref oe, .ref op, .ref ocs, .ref ods, .long oh, .long ol], oC ot 6 [.int (nI dp), .long sh, .long sl], oC oc 1 [.ref owd, .long e0, .long f0], aI G owd 44 g, oC oo 2 [.ref om], aZ G om 512 mk, oC oe 4 [.long c0, .long h0, .long l0], oC op 5 [.ref ob, .int (nI nq)], aI G ob 229 f, aH G ocs 4 (fun j => some (kk j)), aQ G ods 256 dec, moC oy r (nI 1) fi se (nI dp) sh sl (nI nq) oh ol w0 w1 w2, aI G (r 0) 256 ckS, aI G (r 1) 256 ckU, aI G (r 2) 176 (bN ff), aI G (r 3) 16 (bN gg), aI G (r 4) 16 (bN mm), aZ G (r 5) 256 ins, aZ G (r 6) 1024 sb, aI G (r 7) 4 per, aJ G (r 8) 4 ph, aJ G (r 9) 4 pl, aI G (r 10) 4 ss, aI G (r 11) 1024 sv, aI G (r 12) 1024 sw, aZ G (r 13) 512 mk2, aI G (r 14) 229 f, aI G (r 15) 1024 hp, aJ G (r 16) 1024 hh, aJ G (r 17) 1024 hl9] ++ tl) := hD
    refine W.cs (cells' := 60 + 4 * j + 4) (slots' := 20000 + 20 * j + 20) rfl rfl ?_
    refine W.eq (g2 := F0 m 1457 ls [.int (nI 0)]) rfl ?_
    refine lv_istore (lv' := [(6, .int (nI 0)), (5, .int (nI 1)), (0, .ref b), (1, .ref ox), (2, .ref oy), (3, .ref oq), (4, .int (nI (9 * j)))]) hx hb dLa_law_1457 hl (by decide) rfl (fun ls hl => ?_)
    refine lv_aload_n hx hb dLa_law_1459 rfl (lv_at hl 4 rfl) ?_
    refine clLa_88 (As := []) (rest := []) hx hb hml hown hts (k_Mo_thrown l G oy r (nI 1) fi se (nI dp) sh sl (nI nq) oh ol w0 w1 w2) hG hA hP hD hS 12 rfl [12] rfl rfl (fun _ => rfl) rfl hl.1 rfl (Nat.le_of_ble_eq_true rfl) ⟨Nat.le_of_ble_eq_true rfl, Nat.le_of_ble_eq_true rfl⟩ ⟨hcf.1, hcf.2⟩ dLa_law_1460 (fun _ H locs _ hP hD hS => ?_)
    have hP : va_P G.1 vwCl ([aJ G oq 1 fo, oC ox 7 [.ref oc, .ref ot, .ref oo, .ref oe, .ref op, .ref ocs, .ref ods, .long oh, .long ol], oC ot 6 [.int (nI dp), .long sh, .long sl], oC oc 1 [.ref owd, .long e0, .long f0], aI G owd 44 g, oC oo 2 [.ref om], aZ G om 512 mk, oC oe 4 [.long c0, .long h0, .long l0], oC op 5 [.ref ob, .int (nI nq)], aI G ob 229 f, aH G ocs 4 (fun j => some (kk j)), aQ G ods 256 dec, moC oy r (nI 1) fi se (nI dp) sh sl (nI nq) oh ol w0 w1 w2, aI G (r 0) 256 ckS, aI G (r 1) 256 ckU, aI G (r 2) 176 (bN ff), aI G (r 3) 16 (bN gg), aI G (r 4) 16 (bN mm), aZ G (r 5) 256 ins, aZ G (r 6) 1024 sb, aI G (r 7) 4 per, aJ G (r 8) 4 ph, aJ G (r 9) 4 pl, aI G (r 10) 4 ss, aI G (r 11) 1024 sv, aI G (r 12) 1024 sw, aZ G (r 13) 512 mk2, aI G (r 14) 229 f, aI G (r 15) 1024 hp, aJ G (r 16) 1024 hh, aJ G (r 17) 1024 hl9] ++ tl) H := hP
    have hD : va_D A ([aJ G oq 1 fo, oC ox 7 [.ref oc, .ref ot, .ref oo, .ref oe, .ref op, .ref ocs, .ref ods, .long oh, .long ol], oC ot 6 [.int (nI dp), .long sh, .long sl], oC oc 1 [.ref owd, .long e0, .long f0], aI G owd 44 g, oC oo 2 [.ref om], aZ G om 512 mk, oC oe 4 [.long c0, .long h0, .long l0], oC op 5 [.ref ob, .int (nI nq)], aI G ob 229 f, aH G ocs 4 (fun j => some (kk j)), aQ G ods 256 dec, moC oy r (nI 1) fi se (nI dp) sh sl (nI nq) oh ol w0 w1 w2, aI G (r 0) 256 ckS, aI G (r 1) 256 ckU, aI G (r 2) 176 (bN ff), aI G (r 3) 16 (bN gg), aI G (r 4) 16 (bN mm), aZ G (r 5) 256 ins, aZ G (r 6) 1024 sb, aI G (r 7) 4 per, aJ G (r 8) 4 ph, aJ G (r 9) 4 pl, aI G (r 10) 4 ss, aI G (r 11) 1024 sv, aI G (r 12) 1024 sw, aZ G (r 13) 512 mk2, aI G (r 14) 229 f, aI G (r 15) 1024 hp, aJ G (r 16) 1024 hh, aJ G (r 17) 1024 hl9] ++ tl) := hD
    refine W.cs (cells' := 60 + 4 * j + 4) (slots' := 20000 + 20 * j + 20) rfl rfl ?_
    refine W.eq (g2 := F0 m 1463 ls [.int (nI 1)]) rfl ?_
    refine lv_iload hx hb dLa_law_1463 (lv_at hl 1 rfl) ?_
    refine lv_icmp_eq (tgt := 1470) hx hb dLa_law_1465 rfl (fun _ => ?_) (fun h => absurd (rfl) h)
    refine lv_iload hx hb dLa_law_1470 (lv_at hl 1 rfl) ?_
    refine lv_if_ne (tgt := 1487) hx hb dLa_law_1472 rfl (fun _ => ?_) (fun h => absurd h (by decide))
    refine lv_goto (tgt := 1641) hx hb dLa_law_1487 rfl ?_
    refine lv_iinc (v := nI (9 * (j + 1))) (lv' := [(4, .int (nI (9 * (j + 1)))), (6, .int (nI 0)), (5, .int (nI 1)), (0, .ref b), (1, .ref ox), (2, .ref oy), (3, .ref oq)]) hx hb dLa_law_1641 hl (k := 6) rfl (nI_add (9 * j) 9) (by decide) rfl (fun ls hl => ?_)
    refine lv_goto (tgt := 23) hx hb dLa_law_1644 rfl ?_
    refine W.cs (cells' := 60 + 4 * (j + 1)) (slots' := 20000 + 20 * (j + 1)) (by omega) (by omega) ?_
    subst htl
    exact ih oh ol dp sh sl g e0 f0 mk c0 h0 l0 nq f dec q sz ch cl fs fv fw T fo (nI 1) fi se w0 w1 w2 ff gg mm ins sb per ph pl ss sv sw mk2 hp hh hl9 _ _ _ hdp1 hdp hR1 hR2 hR3 hR4 hP hD hS (lv_sub hl [3, 4, 5, 6, 0] rfl)
set_option maxHeartbeats 1500000 in
set_option maxRecDepth 100000 in
theorem law_count {p : Program} {l : Launch} {e : Env} {s : State} {m : MethodId} {below : List Frame} {meth : Method} {c : Code} {A : Nat → Prop} {G : gG} {b : Nat} {L : Nat} {xs : Nat → Int32} {ox oc owd ot oo om oe op ob ocs ods oq oy : Nat} {kk ks kv kw r : Nat → Nat} (hC0 : LC p l s m c A G b L xs) {j : Nat} (hj : 9 * j + 9 ≤ L) (ih : LAp p l e s m below meth c A G b ox oc owd ot oo om oe op ob ocs ods oq oy kk ks kv kw r 23 (j + 1)) : LAp p l e s m below meth c A G b ox oc owd ot oo om oe op ob ocs ods oq oy kk ks kv kw r 1585 j := by
  intro oh ol dp sh sl g e0 f0 mk c0 h0 l0 nq f dec q sz ch cl fs fv fw T fo th fi se w0 w1 w2 ff gg mm ins sb per ph pl ss sv sw mk2 hp hh hl9 H locs ls hdp1 hdp hR1 hR2 hR3 hR4 hP hD hS hl
  obtain ⟨hx, hb, hml, hown, hts, hG, hA, hX, hbl, hbA, hl0, hLN⟩ := hC0
  have hcf : 60 + 4 * j + 4 ≤ room_1.cells ∧ 20000 + 20 * j + 20 ≤ room_1.slots := ⟨by show _ ≤ 601024; omega, by show _ ≤ 7293034; omega⟩
  have hp2 := p2_le hdp
  have hp1 := Nat.two_pow_pos dp
  have hl : lv_has ls 8 [(0, .ref b), (1, .ref ox), (2, .ref oy), (3, .ref oq), (4, .int (nI (9 * j)))] := hl
  obtain ⟨y1, hy1⟩ : ∃ y, xs (9 * j + 1) = y := ⟨_, rfl⟩
  rcases Bool.eq_false_or_eq_true (jIn 8 y1) with hc | hc
  · obtain ⟨x1, hx1, rfl⟩ := jIn_t (by decide) hc
    rcases (show x1 = 0 ∨ x1 = 1 ∨ x1 = 2 ∨ x1 = 3 ∨ 4 ≤ x1 by omega) with rfl | rfl | rfl | rfl | hx4
    · have hP : va_P G.1 vwCl ([aJ G oq 1 fo, oC ox 7 [.ref oc, .ref ot, .ref oo, .ref oe, .ref op, .ref ocs, .ref ods, .long oh, .long ol], oC ot 6 [.int (nI dp), .long sh, .long sl], oC oc 1 [.ref owd, .long e0, .long f0], aI G owd 44 g, oC oo 2 [.ref om], aZ G om 512 mk, oC oe 4 [.long c0, .long h0, .long l0], oC op 5 [.ref ob, .int (nI nq)], aI G ob 229 f, aH G ocs 4 (fun j => some (kk j)), aQ G ods 256 dec, moC oy r th fi se (nI dp) sh sl (nI nq) oh ol w0 w1 w2, aI G (r 0) 256 ckS, aI G (r 1) 256 ckU, aI G (r 2) 176 (bN ff), aI G (r 3) 16 (bN gg), aI G (r 4) 16 (bN mm), aZ G (r 5) 256 ins, aZ G (r 6) 1024 sb, aI G (r 7) 4 per, aJ G (r 8) 4 ph, aJ G (r 9) 4 pl, aI G (r 10) 4 ss, aI G (r 11) 1024 sv, aI G (r 12) 1024 sw, aZ G (r 13) 512 mk2, aI G (r 14) 229 f, aI G (r 15) 1024 hp, aJ G (r 16) 1024 hh, aJ G (r 17) 1024 hl9] ++ (chA (chB G kk ks kv kw q sz ch cl fs fv fw) ++ decW G T)) H := hP
      have hD : va_D A ([aJ G oq 1 fo, oC ox 7 [.ref oc, .ref ot, .ref oo, .ref oe, .ref op, .ref ocs, .ref ods, .long oh, .long ol], oC ot 6 [.int (nI dp), .long sh, .long sl], oC oc 1 [.ref owd, .long e0, .long f0], aI G owd 44 g, oC oo 2 [.ref om], aZ G om 512 mk, oC oe 4 [.long c0, .long h0, .long l0], oC op 5 [.ref ob, .int (nI nq)], aI G ob 229 f, aH G ocs 4 (fun j => some (kk j)), aQ G ods 256 dec, moC oy r th fi se (nI dp) sh sl (nI nq) oh ol w0 w1 w2, aI G (r 0) 256 ckS, aI G (r 1) 256 ckU, aI G (r 2) 176 (bN ff), aI G (r 3) 16 (bN gg), aI G (r 4) 16 (bN mm), aZ G (r 5) 256 ins, aZ G (r 6) 1024 sb, aI G (r 7) 4 per, aJ G (r 8) 4 ph, aJ G (r 9) 4 pl, aI G (r 10) 4 ss, aI G (r 11) 1024 sv, aI G (r 12) 1024 sw, aZ G (r 13) 512 mk2, aI G (r 14) 229 f, aI G (r 15) 1024 hp, aJ G (r 16) 1024 hh, aJ G (r 17) 1024 hl9] ++ (chA (chB G kk ks kv kw q sz ch cl fs fv fw) ++ decW G T)) := hD
      generalize htl : (chA (chB G kk ks kv kw q sz ch cl fs fv fw) ++ decW G T) = tl at hP hD
      refine lv_aload_n hx hb dLa_law_1585 rfl (lv_at hl 1 rfl) ?_
      refine lv_aload_n hx hb dLa_law_1586 rfl (lv_at hl 0 rfl) ?_
      refine lv_iload hx hb dLa_law_1587 (lv_at hl 4 rfl) ?_
      refine lv_iconst (v := nI 1) hx hb dLa_law_1589 (by decide) ?_
      refine lv_iadd hx hb dLa_law_1590 ?_
      refine ck_sld hx hb hX hbl hbA hS (9 * j + 1) (nI_add _ _) (by omega) (by omega) hy1 dLa_law_1591 ?_
      refine lv_aload_n hx hb dLa_law_1592 rfl (lv_at hl 3 rfl) ?_
      refine clLa_147 (As := [.ref ox, .int (nI 0), .ref oq]) (rest := []) hx hb hml hown hts (w_La_count l G ox oq (nI 0) fo _ (k_CK_count0 l G ox oc ot oo oe op ocs ods oh ol (nI dp) sh sl) rfl (fun _ => rfl)) hG hA hP hD hS [0, 1, 2] rfl rfl (fun _ => rfl) rfl hl.1 rfl (Nat.le_of_ble_eq_true rfl) ⟨Nat.le_of_ble_eq_true rfl, Nat.le_of_ble_eq_true rfl⟩ ⟨Nat.le_trans (Nat.add_le_add_left (Nat.le_of_ble_eq_true rfl) _) hcf.1, Nat.le_trans (Nat.add_le_add_left (Nat.le_of_ble_eq_true rfl) _) hcf.2⟩ dLa_law_1593 (fun _ H locs _ hP hD hS => ?_)
      have hP : va_P G.1 vwCl ([aJ G oq 1 (vp_updL fo 0 (nI dp).toInt64), oC ox 7 [.ref oc, .ref ot, .ref oo, .ref oe, .ref op, .ref ocs, .ref ods, .long oh, .long ol], oC ot 6 [.int (nI dp), .long sh, .long sl], oC oc 1 [.ref owd, .long e0, .long f0], aI G owd 44 g, oC oo 2 [.ref om], aZ G om 512 mk, oC oe 4 [.long c0, .long h0, .long l0], oC op 5 [.ref ob, .int (nI nq)], aI G ob 229 f, aH G ocs 4 (fun j => some (kk j)), aQ G ods 256 dec, moC oy r th fi se (nI dp) sh sl (nI nq) oh ol w0 w1 w2, aI G (r 0) 256 ckS, aI G (r 1) 256 ckU, aI G (r 2) 176 (bN ff), aI G (r 3) 16 (bN gg), aI G (r 4) 16 (bN mm), aZ G (r 5) 256 ins, aZ G (r 6) 1024 sb, aI G (r 7) 4 per, aJ G (r 8) 4 ph, aJ G (r 9) 4 pl, aI G (r 10) 4 ss, aI G (r 11) 1024 sv, aI G (r 12) 1024 sw, aZ G (r 13) 512 mk2, aI G (r 14) 229 f, aI G (r 15) 1024 hp, aJ G (r 16) 1024 hh, aJ G (r 17) 1024 hl9] ++ tl) H := hP
      have hD : va_D A ([aJ G oq 1 (vp_updL fo 0 (nI dp).toInt64), oC ox 7 [.ref oc, .ref ot, .ref oo, .ref oe, .ref op, .ref ocs, .ref ods, .long oh, .long ol], oC ot 6 [.int (nI dp), .long sh, .long sl], oC oc 1 [.ref owd, .long e0, .long f0], aI G owd 44 g, oC oo 2 [.ref om], aZ G om 512 mk, oC oe 4 [.long c0, .long h0, .long l0], oC op 5 [.ref ob, .int (nI nq)], aI G ob 229 f, aH G ocs 4 (fun j => some (kk j)), aQ G ods 256 dec, moC oy r th fi se (nI dp) sh sl (nI nq) oh ol w0 w1 w2, aI G (r 0) 256 ckS, aI G (r 1) 256 ckU, aI G (r 2) 176 (bN ff), aI G (r 3) 16 (bN gg), aI G (r 4) 16 (bN mm), aZ G (r 5) 256 ins, aZ G (r 6) 1024 sb, aI G (r 7) 4 per, aJ G (r 8) 4 ph, aJ G (r 9) 4 pl, aI G (r 10) 4 ss, aI G (r 11) 1024 sv, aI G (r 12) 1024 sw, aZ G (r 13) 512 mk2, aI G (r 14) 229 f, aI G (r 15) 1024 hp, aJ G (r 16) 1024 hh, aJ G (r 17) 1024 hl9] ++ tl) := hD
      refine W.widen (k := 60 + 4 * j + 4) (n := 20000 + 20 * j + 20) (Nat.add_le_add_left (Nat.le_of_ble_eq_true rfl) _) (Nat.add_le_add_left (Nat.le_of_ble_eq_true rfl) _) ?_
      refine W.eq (g2 := F0 m 1596 ls [.int (nI 0)]) rfl ?_
      refine lv_istore (lv' := [(5, .int (nI 0)), (0, .ref b), (1, .ref ox), (2, .ref oy), (3, .ref oq), (4, .int (nI (9 * j)))]) hx hb dLa_law_1596 hl (by decide) rfl (fun ls hl => ?_)
      refine lv_aload_n hx hb dLa_law_1598 rfl (lv_at hl 3 rfl) ?_
      refine lv_aload_n hx hb dLa_law_1599 rfl (lv_at hl 1 rfl) ?_
      refine lv_iload hx hb dLa_law_1600 (lv_at hl 5 rfl) ?_
      refine lv_iconst (v := nI 1) hx hb dLa_law_1602 (by decide) ?_
      refine lv_iadd hx hb dLa_law_1603 ?_
      refine ck_sld hx hb hX hbl hbA hS (9 * j + 1) (nI_add _ _) (by omega) (by omega) hy1 dLa_law_1604 ?_
      refine clLa_149 (As := [.int (nI 0)]) (rest := []) hx hb hml hown hts (k_Mo_count l G oy r th fi se (nI dp) sh sl (nI nq) oh ol w0 w1 w2 ins sb per 0 (by omega)) hG hA hP hD hS 12 rfl [12, 18, 19, 20] rfl rfl (fun _ => rfl) rfl hl.1 rfl (Nat.le_of_ble_eq_true rfl) ⟨Nat.le_of_ble_eq_true rfl, Nat.le_of_ble_eq_true rfl⟩ ⟨hcf.1, hcf.2⟩ dLa_law_1605 (fun _ H locs _ hP hD hS => ?_)
      have hP : va_P G.1 vwCl ([aJ G oq 1 (vp_updL fo 0 (nI dp).toInt64), oC ox 7 [.ref oc, .ref ot, .ref oo, .ref oe, .ref op, .ref ocs, .ref ods, .long oh, .long ol], oC ot 6 [.int (nI dp), .long sh, .long sl], oC oc 1 [.ref owd, .long e0, .long f0], aI G owd 44 g, oC oo 2 [.ref om], aZ G om 512 mk, oC oe 4 [.long c0, .long h0, .long l0], oC op 5 [.ref ob, .int (nI nq)], aI G ob 229 f, aH G ocs 4 (fun j => some (kk j)), aQ G ods 256 dec, moC oy r (nI 0) fi se (nI dp) sh sl (nI nq) oh ol w0 w1 w2, aI G (r 0) 256 ckS, aI G (r 1) 256 ckU, aI G (r 2) 176 (bN ff), aI G (r 3) 16 (bN gg), aI G (r 4) 16 (bN mm), aZ G (r 5) 256 ins, aZ G (r 6) 1024 sb, aI G (r 7) 4 per, aJ G (r 8) 4 ph, aJ G (r 9) 4 pl, aI G (r 10) 4 ss, aI G (r 11) 1024 sv, aI G (r 12) 1024 sw, aZ G (r 13) 512 mk2, aI G (r 14) 229 f, aI G (r 15) 1024 hp, aJ G (r 16) 1024 hh, aJ G (r 17) 1024 hl9] ++ tl) H := hP
      have hD : va_D A ([aJ G oq 1 (vp_updL fo 0 (nI dp).toInt64), oC ox 7 [.ref oc, .ref ot, .ref oo, .ref oe, .ref op, .ref ocs, .ref ods, .long oh, .long ol], oC ot 6 [.int (nI dp), .long sh, .long sl], oC oc 1 [.ref owd, .long e0, .long f0], aI G owd 44 g, oC oo 2 [.ref om], aZ G om 512 mk, oC oe 4 [.long c0, .long h0, .long l0], oC op 5 [.ref ob, .int (nI nq)], aI G ob 229 f, aH G ocs 4 (fun j => some (kk j)), aQ G ods 256 dec, moC oy r (nI 0) fi se (nI dp) sh sl (nI nq) oh ol w0 w1 w2, aI G (r 0) 256 ckS, aI G (r 1) 256 ckU, aI G (r 2) 176 (bN ff), aI G (r 3) 16 (bN gg), aI G (r 4) 16 (bN mm), aZ G (r 5) 256 ins, aZ G (r 6) 1024 sb, aI G (r 7) 4 per, aJ G (r 8) 4 ph, aJ G (r 9) 4 pl, aI G (r 10) 4 ss, aI G (r 11) 1024 sv, aI G (r 12) 1024 sw, aZ G (r 13) 512 mk2, aI G (r 14) 229 f, aI G (r 15) 1024 hp, aJ G (r 16) 1024 hh, aJ G (r 17) 1024 hl9] ++ tl) := hD
      refine W.cs (cells' := 60 + 4 * j + 4) (slots' := 20000 + 20 * j + 20) rfl rfl ?_
      refine W.eq (g2 := F0 m 1608 ls [.int (rCnt (nI dp) (nI nq) ins sb per 0)]) rfl ?_
      refine ck_ri (y := nI dp) (rfl) ?_
      refine lv_istore (lv' := [(6, .int (nI dp)), (5, .int (nI 0)), (0, .ref b), (1, .ref ox), (2, .ref oy), (3, .ref oq), (4, .int (nI (9 * j)))]) hx hb dLa_law_1608 hl (by decide) rfl (fun ls hl => ?_)
      refine lv_aload_n hx hb dLa_law_1610 rfl (lv_at hl 4 rfl) ?_
      refine clLa_88 (As := []) (rest := []) hx hb hml hown hts (k_Mo_thrown l G oy r (nI 0) fi se (nI dp) sh sl (nI nq) oh ol w0 w1 w2) hG hA hP hD hS 12 rfl [12] rfl rfl (fun _ => rfl) rfl hl.1 rfl (Nat.le_of_ble_eq_true rfl) ⟨Nat.le_of_ble_eq_true rfl, Nat.le_of_ble_eq_true rfl⟩ ⟨hcf.1, hcf.2⟩ dLa_law_1611 (fun _ H locs _ hP hD hS => ?_)
      have hP : va_P G.1 vwCl ([aJ G oq 1 (vp_updL fo 0 (nI dp).toInt64), oC ox 7 [.ref oc, .ref ot, .ref oo, .ref oe, .ref op, .ref ocs, .ref ods, .long oh, .long ol], oC ot 6 [.int (nI dp), .long sh, .long sl], oC oc 1 [.ref owd, .long e0, .long f0], aI G owd 44 g, oC oo 2 [.ref om], aZ G om 512 mk, oC oe 4 [.long c0, .long h0, .long l0], oC op 5 [.ref ob, .int (nI nq)], aI G ob 229 f, aH G ocs 4 (fun j => some (kk j)), aQ G ods 256 dec, moC oy r (nI 0) fi se (nI dp) sh sl (nI nq) oh ol w0 w1 w2, aI G (r 0) 256 ckS, aI G (r 1) 256 ckU, aI G (r 2) 176 (bN ff), aI G (r 3) 16 (bN gg), aI G (r 4) 16 (bN mm), aZ G (r 5) 256 ins, aZ G (r 6) 1024 sb, aI G (r 7) 4 per, aJ G (r 8) 4 ph, aJ G (r 9) 4 pl, aI G (r 10) 4 ss, aI G (r 11) 1024 sv, aI G (r 12) 1024 sw, aZ G (r 13) 512 mk2, aI G (r 14) 229 f, aI G (r 15) 1024 hp, aJ G (r 16) 1024 hh, aJ G (r 17) 1024 hl9] ++ tl) H := hP
      have hD : va_D A ([aJ G oq 1 (vp_updL fo 0 (nI dp).toInt64), oC ox 7 [.ref oc, .ref ot, .ref oo, .ref oe, .ref op, .ref ocs, .ref ods, .long oh, .long ol], oC ot 6 [.int (nI dp), .long sh, .long sl], oC oc 1 [.ref owd, .long e0, .long f0], aI G owd 44 g, oC oo 2 [.ref om], aZ G om 512 mk, oC oe 4 [.long c0, .long h0, .long l0], oC op 5 [.ref ob, .int (nI nq)], aI G ob 229 f, aH G ocs 4 (fun j => some (kk j)), aQ G ods 256 dec, moC oy r (nI 0) fi se (nI dp) sh sl (nI nq) oh ol w0 w1 w2, aI G (r 0) 256 ckS, aI G (r 1) 256 ckU, aI G (r 2) 176 (bN ff), aI G (r 3) 16 (bN gg), aI G (r 4) 16 (bN mm), aZ G (r 5) 256 ins, aZ G (r 6) 1024 sb, aI G (r 7) 4 per, aJ G (r 8) 4 ph, aJ G (r 9) 4 pl, aI G (r 10) 4 ss, aI G (r 11) 1024 sv, aI G (r 12) 1024 sw, aZ G (r 13) 512 mk2, aI G (r 14) 229 f, aI G (r 15) 1024 hp, aJ G (r 16) 1024 hh, aJ G (r 17) 1024 hl9] ++ tl) := hD
      refine W.cs (cells' := 60 + 4 * j + 4) (slots' := 20000 + 20 * j + 20) rfl rfl ?_
      refine W.eq (g2 := F0 m 1614 ls [.int (nI 0)]) rfl ?_
      refine lv_iload hx hb dLa_law_1614 (lv_at hl 1 rfl) ?_
      refine lv_icmp_eq (tgt := 1621) hx hb dLa_law_1616 rfl (fun _ => ?_) (fun h => absurd (rfl) h)
      refine lv_iload hx hb dLa_law_1621 (lv_at hl 1 rfl) ?_
      refine lv_if_ne (tgt := 1638) hx hb dLa_law_1623 rfl (fun h => absurd (rfl) h) (fun _ => ?_)
      refine lv_aload_n hx hb dLa_law_1626 rfl (lv_at hl 5 rfl) ?_
      refine lv_iconst (v := nI 0) hx hb dLa_law_1627 (by decide) ?_
      refine ck_lald hx hb hG hP 0 rfl (by decide) 0 (rfl) (by decide) dLa_law_1628 ?_
      refine ck_rl (y := (nI dp).toInt64) (rfl) ?_
      refine lv_iload hx hb dLa_law_1629 (lv_at hl 0 rfl) ?_
      refine lv_i2l (v := (nI dp).toInt64) hx hb dLa_law_1631 rfl ?_
      refine W.lcmp hx hb dLa_law_1632 ?_
      refine lv_if_eq (tgt := 1638) hx hb dLa_law_1633 rfl (fun _ => ?_) (fun h => absurd ((lg_cmp_0 _ _).mpr (rfl)) h)
      refine lv_goto (tgt := 1641) hx hb dLa_law_1638 rfl ?_
      refine lv_iinc (v := nI (9 * (j + 1))) (lv' := [(4, .int (nI (9 * (j + 1)))), (6, .int (nI dp)), (5, .int (nI 0)), (0, .ref b), (1, .ref ox), (2, .ref oy), (3, .ref oq)]) hx hb dLa_law_1641 hl (k := 6) rfl (nI_add (9 * j) 9) (by decide) rfl (fun ls hl => ?_)
      refine lv_goto (tgt := 23) hx hb dLa_law_1644 rfl ?_
      refine W.cs (cells' := 60 + 4 * (j + 1)) (slots' := 20000 + 20 * (j + 1)) (by omega) (by omega) ?_
      subst htl
      exact ih oh ol dp sh sl g e0 f0 mk c0 h0 l0 nq f dec q sz ch cl fs fv fw T (vp_updL fo 0 (nI dp).toInt64) (nI 0) fi se w0 w1 w2 ff gg mm ins sb per ph pl ss sv sw mk2 hp hh hl9 _ _ _ hdp1 hdp hR1 hR2 hR3 hR4 hP hD hS (lv_sub hl [3, 4, 5, 6, 0] rfl)
    · have hP : va_P G.1 vwCl ([aJ G oq 1 fo, oC ox 7 [.ref oc, .ref ot, .ref oo, .ref oe, .ref op, .ref ocs, .ref ods, .long oh, .long ol], oC ot 6 [.int (nI dp), .long sh, .long sl], oC oc 1 [.ref owd, .long e0, .long f0], aI G owd 44 g, oC oo 2 [.ref om], aZ G om 512 mk, oC oe 4 [.long c0, .long h0, .long l0], oC op 5 [.ref ob, .int (nI nq)], aI G ob 229 f, aH G ocs 4 (fun j => some (kk j)), aQ G ods 256 dec, moC oy r th fi se (nI dp) sh sl (nI nq) oh ol w0 w1 w2, aI G (r 0) 256 ckS, aI G (r 1) 256 ckU, aI G (r 2) 176 (bN ff), aI G (r 3) 16 (bN gg), aI G (r 4) 16 (bN mm), aZ G (r 5) 256 ins, aZ G (r 6) 1024 sb, aI G (r 7) 4 per, aJ G (r 8) 4 ph, aJ G (r 9) 4 pl, aI G (r 10) 4 ss, aI G (r 11) 1024 sv, aI G (r 12) 1024 sw, aZ G (r 13) 512 mk2, aI G (r 14) 229 f, aI G (r 15) 1024 hp, aJ G (r 16) 1024 hh, aJ G (r 17) 1024 hl9] ++ (chA (chB G kk ks kv kw q sz ch cl fs fv fw) ++ decW G T)) H := hP
      have hD : va_D A ([aJ G oq 1 fo, oC ox 7 [.ref oc, .ref ot, .ref oo, .ref oe, .ref op, .ref ocs, .ref ods, .long oh, .long ol], oC ot 6 [.int (nI dp), .long sh, .long sl], oC oc 1 [.ref owd, .long e0, .long f0], aI G owd 44 g, oC oo 2 [.ref om], aZ G om 512 mk, oC oe 4 [.long c0, .long h0, .long l0], oC op 5 [.ref ob, .int (nI nq)], aI G ob 229 f, aH G ocs 4 (fun j => some (kk j)), aQ G ods 256 dec, moC oy r th fi se (nI dp) sh sl (nI nq) oh ol w0 w1 w2, aI G (r 0) 256 ckS, aI G (r 1) 256 ckU, aI G (r 2) 176 (bN ff), aI G (r 3) 16 (bN gg), aI G (r 4) 16 (bN mm), aZ G (r 5) 256 ins, aZ G (r 6) 1024 sb, aI G (r 7) 4 per, aJ G (r 8) 4 ph, aJ G (r 9) 4 pl, aI G (r 10) 4 ss, aI G (r 11) 1024 sv, aI G (r 12) 1024 sw, aZ G (r 13) 512 mk2, aI G (r 14) 229 f, aI G (r 15) 1024 hp, aJ G (r 16) 1024 hh, aJ G (r 17) 1024 hl9] ++ (chA (chB G kk ks kv kw q sz ch cl fs fv fw) ++ decW G T)) := hD
      generalize htl : (chA (chB G kk ks kv kw q sz ch cl fs fv fw) ++ decW G T) = tl at hP hD
      refine lv_aload_n hx hb dLa_law_1585 rfl (lv_at hl 1 rfl) ?_
      refine lv_aload_n hx hb dLa_law_1586 rfl (lv_at hl 0 rfl) ?_
      refine lv_iload hx hb dLa_law_1587 (lv_at hl 4 rfl) ?_
      refine lv_iconst (v := nI 1) hx hb dLa_law_1589 (by decide) ?_
      refine lv_iadd hx hb dLa_law_1590 ?_
      refine ck_sld hx hb hX hbl hbA hS (9 * j + 1) (nI_add _ _) (by omega) (by omega) hy1 dLa_law_1591 ?_
      refine lv_aload_n hx hb dLa_law_1592 rfl (lv_at hl 3 rfl) ?_
      refine clLa_147 (As := [.ref ox, .int (nI 1), .ref oq]) (rest := []) hx hb hml hown hts (w_La_count l G ox oq (nI 1) fo _ (k_CK_count1 l G ox oc ot oo oe op ocs ods oh ol dec) rfl (fun _ => rfl)) hG hA hP hD hS [0, 1, 11] rfl rfl (fun _ => rfl) rfl hl.1 rfl (Nat.le_of_ble_eq_true rfl) ⟨Nat.le_of_ble_eq_true rfl, Nat.le_of_ble_eq_true rfl⟩ ⟨Nat.le_trans (Nat.add_le_add_left (Nat.le_of_ble_eq_true rfl) _) hcf.1, Nat.le_trans (Nat.add_le_add_left (Nat.le_of_ble_eq_true rfl) _) hcf.2⟩ dLa_law_1593 (fun _ H locs _ hP hD hS => ?_)
      have hP : va_P G.1 vwCl ([aJ G oq 1 (vp_updL fo 0 (nI (cntD dec 256)).toInt64), oC ox 7 [.ref oc, .ref ot, .ref oo, .ref oe, .ref op, .ref ocs, .ref ods, .long oh, .long ol], oC ot 6 [.int (nI dp), .long sh, .long sl], oC oc 1 [.ref owd, .long e0, .long f0], aI G owd 44 g, oC oo 2 [.ref om], aZ G om 512 mk, oC oe 4 [.long c0, .long h0, .long l0], oC op 5 [.ref ob, .int (nI nq)], aI G ob 229 f, aH G ocs 4 (fun j => some (kk j)), aQ G ods 256 dec, moC oy r th fi se (nI dp) sh sl (nI nq) oh ol w0 w1 w2, aI G (r 0) 256 ckS, aI G (r 1) 256 ckU, aI G (r 2) 176 (bN ff), aI G (r 3) 16 (bN gg), aI G (r 4) 16 (bN mm), aZ G (r 5) 256 ins, aZ G (r 6) 1024 sb, aI G (r 7) 4 per, aJ G (r 8) 4 ph, aJ G (r 9) 4 pl, aI G (r 10) 4 ss, aI G (r 11) 1024 sv, aI G (r 12) 1024 sw, aZ G (r 13) 512 mk2, aI G (r 14) 229 f, aI G (r 15) 1024 hp, aJ G (r 16) 1024 hh, aJ G (r 17) 1024 hl9] ++ tl) H := hP
      have hD : va_D A ([aJ G oq 1 (vp_updL fo 0 (nI (cntD dec 256)).toInt64), oC ox 7 [.ref oc, .ref ot, .ref oo, .ref oe, .ref op, .ref ocs, .ref ods, .long oh, .long ol], oC ot 6 [.int (nI dp), .long sh, .long sl], oC oc 1 [.ref owd, .long e0, .long f0], aI G owd 44 g, oC oo 2 [.ref om], aZ G om 512 mk, oC oe 4 [.long c0, .long h0, .long l0], oC op 5 [.ref ob, .int (nI nq)], aI G ob 229 f, aH G ocs 4 (fun j => some (kk j)), aQ G ods 256 dec, moC oy r th fi se (nI dp) sh sl (nI nq) oh ol w0 w1 w2, aI G (r 0) 256 ckS, aI G (r 1) 256 ckU, aI G (r 2) 176 (bN ff), aI G (r 3) 16 (bN gg), aI G (r 4) 16 (bN mm), aZ G (r 5) 256 ins, aZ G (r 6) 1024 sb, aI G (r 7) 4 per, aJ G (r 8) 4 ph, aJ G (r 9) 4 pl, aI G (r 10) 4 ss, aI G (r 11) 1024 sv, aI G (r 12) 1024 sw, aZ G (r 13) 512 mk2, aI G (r 14) 229 f, aI G (r 15) 1024 hp, aJ G (r 16) 1024 hh, aJ G (r 17) 1024 hl9] ++ tl) := hD
      refine W.widen (k := 60 + 4 * j + 4) (n := 20000 + 20 * j + 20) (Nat.add_le_add_left (Nat.le_of_ble_eq_true rfl) _) (Nat.add_le_add_left (Nat.le_of_ble_eq_true rfl) _) ?_
      refine W.eq (g2 := F0 m 1596 ls [.int (nI 0)]) rfl ?_
      refine lv_istore (lv' := [(5, .int (nI 0)), (0, .ref b), (1, .ref ox), (2, .ref oy), (3, .ref oq), (4, .int (nI (9 * j)))]) hx hb dLa_law_1596 hl (by decide) rfl (fun ls hl => ?_)
      refine lv_aload_n hx hb dLa_law_1598 rfl (lv_at hl 3 rfl) ?_
      refine lv_aload_n hx hb dLa_law_1599 rfl (lv_at hl 1 rfl) ?_
      refine lv_iload hx hb dLa_law_1600 (lv_at hl 5 rfl) ?_
      refine lv_iconst (v := nI 1) hx hb dLa_law_1602 (by decide) ?_
      refine lv_iadd hx hb dLa_law_1603 ?_
      refine ck_sld hx hb hX hbl hbA hS (9 * j + 1) (nI_add _ _) (by omega) (by omega) hy1 dLa_law_1604 ?_
      refine clLa_149 (As := [.int (nI 1)]) (rest := []) hx hb hml hown hts (k_Mo_count l G oy r th fi se (nI dp) sh sl (nI nq) oh ol w0 w1 w2 ins sb per 1 (by omega)) hG hA hP hD hS 12 rfl [12, 18, 19, 20] rfl rfl (fun _ => rfl) rfl hl.1 rfl (Nat.le_of_ble_eq_true rfl) ⟨Nat.le_of_ble_eq_true rfl, Nat.le_of_ble_eq_true rfl⟩ ⟨hcf.1, hcf.2⟩ dLa_law_1605 (fun _ H locs _ hP hD hS => ?_)
      have hP : va_P G.1 vwCl ([aJ G oq 1 (vp_updL fo 0 (nI (cntD dec 256)).toInt64), oC ox 7 [.ref oc, .ref ot, .ref oo, .ref oe, .ref op, .ref ocs, .ref ods, .long oh, .long ol], oC ot 6 [.int (nI dp), .long sh, .long sl], oC oc 1 [.ref owd, .long e0, .long f0], aI G owd 44 g, oC oo 2 [.ref om], aZ G om 512 mk, oC oe 4 [.long c0, .long h0, .long l0], oC op 5 [.ref ob, .int (nI nq)], aI G ob 229 f, aH G ocs 4 (fun j => some (kk j)), aQ G ods 256 dec, moC oy r (nI 0) fi se (nI dp) sh sl (nI nq) oh ol w0 w1 w2, aI G (r 0) 256 ckS, aI G (r 1) 256 ckU, aI G (r 2) 176 (bN ff), aI G (r 3) 16 (bN gg), aI G (r 4) 16 (bN mm), aZ G (r 5) 256 ins, aZ G (r 6) 1024 sb, aI G (r 7) 4 per, aJ G (r 8) 4 ph, aJ G (r 9) 4 pl, aI G (r 10) 4 ss, aI G (r 11) 1024 sv, aI G (r 12) 1024 sw, aZ G (r 13) 512 mk2, aI G (r 14) 229 f, aI G (r 15) 1024 hp, aJ G (r 16) 1024 hh, aJ G (r 17) 1024 hl9] ++ tl) H := hP
      have hD : va_D A ([aJ G oq 1 (vp_updL fo 0 (nI (cntD dec 256)).toInt64), oC ox 7 [.ref oc, .ref ot, .ref oo, .ref oe, .ref op, .ref ocs, .ref ods, .long oh, .long ol], oC ot 6 [.int (nI dp), .long sh, .long sl], oC oc 1 [.ref owd, .long e0, .long f0], aI G owd 44 g, oC oo 2 [.ref om], aZ G om 512 mk, oC oe 4 [.long c0, .long h0, .long l0], oC op 5 [.ref ob, .int (nI nq)], aI G ob 229 f, aH G ocs 4 (fun j => some (kk j)), aQ G ods 256 dec, moC oy r (nI 0) fi se (nI dp) sh sl (nI nq) oh ol w0 w1 w2, aI G (r 0) 256 ckS, aI G (r 1) 256 ckU, aI G (r 2) 176 (bN ff), aI G (r 3) 16 (bN gg), aI G (r 4) 16 (bN mm), aZ G (r 5) 256 ins, aZ G (r 6) 1024 sb, aI G (r 7) 4 per, aJ G (r 8) 4 ph, aJ G (r 9) 4 pl, aI G (r 10) 4 ss, aI G (r 11) 1024 sv, aI G (r 12) 1024 sw, aZ G (r 13) 512 mk2, aI G (r 14) 229 f, aI G (r 15) 1024 hp, aJ G (r 16) 1024 hh, aJ G (r 17) 1024 hl9] ++ tl) := hD
      refine W.cs (cells' := 60 + 4 * j + 4) (slots' := 20000 + 20 * j + 20) rfl rfl ?_
      refine W.eq (g2 := F0 m 1608 ls [.int (rCnt (nI dp) (nI nq) ins sb per 1)]) rfl ?_
      refine ck_ri (y := nI (cntD dec 256)) (by rw [cntDZ 256 (fun d hd => hR3.1 d hd)]; rfl) ?_
      refine lv_istore (lv' := [(6, .int (nI (cntD dec 256))), (5, .int (nI 0)), (0, .ref b), (1, .ref ox), (2, .ref oy), (3, .ref oq), (4, .int (nI (9 * j)))]) hx hb dLa_law_1608 hl (by decide) rfl (fun ls hl => ?_)
      refine lv_aload_n hx hb dLa_law_1610 rfl (lv_at hl 4 rfl) ?_
      refine clLa_88 (As := []) (rest := []) hx hb hml hown hts (k_Mo_thrown l G oy r (nI 0) fi se (nI dp) sh sl (nI nq) oh ol w0 w1 w2) hG hA hP hD hS 12 rfl [12] rfl rfl (fun _ => rfl) rfl hl.1 rfl (Nat.le_of_ble_eq_true rfl) ⟨Nat.le_of_ble_eq_true rfl, Nat.le_of_ble_eq_true rfl⟩ ⟨hcf.1, hcf.2⟩ dLa_law_1611 (fun _ H locs _ hP hD hS => ?_)
      have hP : va_P G.1 vwCl ([aJ G oq 1 (vp_updL fo 0 (nI (cntD dec 256)).toInt64), oC ox 7 [.ref oc, .ref ot, .ref oo, .ref oe, .ref op, .ref ocs, .ref ods, .long oh, .long ol], oC ot 6 [.int (nI dp), .long sh, .long sl], oC oc 1 [.ref owd, .long e0, .long f0], aI G owd 44 g, oC oo 2 [.ref om], aZ G om 512 mk, oC oe 4 [.long c0, .long h0, .long l0], oC op 5 [.ref ob, .int (nI nq)], aI G ob 229 f, aH G ocs 4 (fun j => some (kk j)), aQ G ods 256 dec, moC oy r (nI 0) fi se (nI dp) sh sl (nI nq) oh ol w0 w1 w2, aI G (r 0) 256 ckS, aI G (r 1) 256 ckU, aI G (r 2) 176 (bN ff), aI G (r 3) 16 (bN gg), aI G (r 4) 16 (bN mm), aZ G (r 5) 256 ins, aZ G (r 6) 1024 sb, aI G (r 7) 4 per, aJ G (r 8) 4 ph, aJ G (r 9) 4 pl, aI G (r 10) 4 ss, aI G (r 11) 1024 sv, aI G (r 12) 1024 sw, aZ G (r 13) 512 mk2, aI G (r 14) 229 f, aI G (r 15) 1024 hp, aJ G (r 16) 1024 hh, aJ G (r 17) 1024 hl9] ++ tl) H := hP
      have hD : va_D A ([aJ G oq 1 (vp_updL fo 0 (nI (cntD dec 256)).toInt64), oC ox 7 [.ref oc, .ref ot, .ref oo, .ref oe, .ref op, .ref ocs, .ref ods, .long oh, .long ol], oC ot 6 [.int (nI dp), .long sh, .long sl], oC oc 1 [.ref owd, .long e0, .long f0], aI G owd 44 g, oC oo 2 [.ref om], aZ G om 512 mk, oC oe 4 [.long c0, .long h0, .long l0], oC op 5 [.ref ob, .int (nI nq)], aI G ob 229 f, aH G ocs 4 (fun j => some (kk j)), aQ G ods 256 dec, moC oy r (nI 0) fi se (nI dp) sh sl (nI nq) oh ol w0 w1 w2, aI G (r 0) 256 ckS, aI G (r 1) 256 ckU, aI G (r 2) 176 (bN ff), aI G (r 3) 16 (bN gg), aI G (r 4) 16 (bN mm), aZ G (r 5) 256 ins, aZ G (r 6) 1024 sb, aI G (r 7) 4 per, aJ G (r 8) 4 ph, aJ G (r 9) 4 pl, aI G (r 10) 4 ss, aI G (r 11) 1024 sv, aI G (r 12) 1024 sw, aZ G (r 13) 512 mk2, aI G (r 14) 229 f, aI G (r 15) 1024 hp, aJ G (r 16) 1024 hh, aJ G (r 17) 1024 hl9] ++ tl) := hD
      refine W.cs (cells' := 60 + 4 * j + 4) (slots' := 20000 + 20 * j + 20) rfl rfl ?_
      refine W.eq (g2 := F0 m 1614 ls [.int (nI 0)]) rfl ?_
      refine lv_iload hx hb dLa_law_1614 (lv_at hl 1 rfl) ?_
      refine lv_icmp_eq (tgt := 1621) hx hb dLa_law_1616 rfl (fun _ => ?_) (fun h => absurd (rfl) h)
      refine lv_iload hx hb dLa_law_1621 (lv_at hl 1 rfl) ?_
      refine lv_if_ne (tgt := 1638) hx hb dLa_law_1623 rfl (fun h => absurd (rfl) h) (fun _ => ?_)
      refine lv_aload_n hx hb dLa_law_1626 rfl (lv_at hl 5 rfl) ?_
      refine lv_iconst (v := nI 0) hx hb dLa_law_1627 (by decide) ?_
      refine ck_lald hx hb hG hP 0 rfl (by decide) 0 (rfl) (by decide) dLa_law_1628 ?_
      refine ck_rl (y := (nI (cntD dec 256)).toInt64) (rfl) ?_
      refine lv_iload hx hb dLa_law_1629 (lv_at hl 0 rfl) ?_
      refine lv_i2l (v := (nI (cntD dec 256)).toInt64) hx hb dLa_law_1631 rfl ?_
      refine W.lcmp hx hb dLa_law_1632 ?_
      refine lv_if_eq (tgt := 1638) hx hb dLa_law_1633 rfl (fun _ => ?_) (fun h => absurd ((lg_cmp_0 _ _).mpr (rfl)) h)
      refine lv_goto (tgt := 1641) hx hb dLa_law_1638 rfl ?_
      refine lv_iinc (v := nI (9 * (j + 1))) (lv' := [(4, .int (nI (9 * (j + 1)))), (6, .int (nI (cntD dec 256))), (5, .int (nI 0)), (0, .ref b), (1, .ref ox), (2, .ref oy), (3, .ref oq)]) hx hb dLa_law_1641 hl (k := 6) rfl (nI_add (9 * j) 9) (by decide) rfl (fun ls hl => ?_)
      refine lv_goto (tgt := 23) hx hb dLa_law_1644 rfl ?_
      refine W.cs (cells' := 60 + 4 * (j + 1)) (slots' := 20000 + 20 * (j + 1)) (by omega) (by omega) ?_
      subst htl
      exact ih oh ol dp sh sl g e0 f0 mk c0 h0 l0 nq f dec q sz ch cl fs fv fw T (vp_updL fo 0 (nI (cntD dec 256)).toInt64) (nI 0) fi se w0 w1 w2 ff gg mm ins sb per ph pl ss sv sw mk2 hp hh hl9 _ _ _ hdp1 hdp hR1 hR2 hR3 hR4 hP hD hS (lv_sub hl [3, 4, 5, 6, 0] rfl)
    · have hP : va_P G.1 vwCl ([aJ G oq 1 fo, oC ox 7 [.ref oc, .ref ot, .ref oo, .ref oe, .ref op, .ref ocs, .ref ods, .long oh, .long ol], oC ot 6 [.int (nI dp), .long sh, .long sl], oC oc 1 [.ref owd, .long e0, .long f0], aI G owd 44 g, oC oo 2 [.ref om], aZ G om 512 mk, oC oe 4 [.long c0, .long h0, .long l0], oC op 5 [.ref ob, .int (nI nq)], aI G ob 229 f, aH G ocs 4 (fun j => some (kk j)), aQ G ods 256 dec, moC oy r th fi se (nI dp) sh sl (nI nq) oh ol w0 w1 w2, aI G (r 0) 256 ckS, aI G (r 1) 256 ckU, aI G (r 2) 176 (bN ff), aI G (r 3) 16 (bN gg), aI G (r 4) 16 (bN mm), aZ G (r 5) 256 ins, aZ G (r 6) 1024 sb, aI G (r 7) 4 per, aJ G (r 8) 4 ph, aJ G (r 9) 4 pl, aI G (r 10) 4 ss, aI G (r 11) 1024 sv, aI G (r 12) 1024 sw, aZ G (r 13) 512 mk2, aI G (r 14) 229 f, aI G (r 15) 1024 hp, aJ G (r 16) 1024 hh, aJ G (r 17) 1024 hl9, oC (kk 0) 0 [.ref (ks 0), .ref (kv 0), .ref (kw 0), .int (nI (q 0)), .int (nI (sz 0)), .long (ch 0), .long (cl 0)], aZ G (ks 0) 256 (fs 0), aI G (kv 0) 128 (fv 0), aI G (kw 0) 128 (fw 0), oC (kk 1) 0 [.ref (ks 1), .ref (kv 1), .ref (kw 1), .int (nI (q 1)), .int (nI (sz 1)), .long (ch 1), .long (cl 1)], aZ G (ks 1) 256 (fs 1), aI G (kv 1) 128 (fv 1), aI G (kw 1) 128 (fw 1), oC (kk 2) 0 [.ref (ks 2), .ref (kv 2), .ref (kw 2), .int (nI (q 2)), .int (nI (sz 2)), .long (ch 2), .long (cl 2)], aZ G (ks 2) 256 (fs 2), aI G (kv 2) 128 (fv 2), aI G (kw 2) 128 (fw 2), oC (kk 3) 0 [.ref (ks 3), .ref (kv 3), .ref (kw 3), .int (nI (q 3)), .int (nI (sz 3)), .long (ch 3), .long (cl 3)], aZ G (ks 3) 256 (fs 3), aI G (kv 3) 128 (fv 3), aI G (kw 3) 128 (fw 3)] ++ decW G T) H := hP
      have hD : va_D A ([aJ G oq 1 fo, oC ox 7 [.ref oc, .ref ot, .ref oo, .ref oe, .ref op, .ref ocs, .ref ods, .long oh, .long ol], oC ot 6 [.int (nI dp), .long sh, .long sl], oC oc 1 [.ref owd, .long e0, .long f0], aI G owd 44 g, oC oo 2 [.ref om], aZ G om 512 mk, oC oe 4 [.long c0, .long h0, .long l0], oC op 5 [.ref ob, .int (nI nq)], aI G ob 229 f, aH G ocs 4 (fun j => some (kk j)), aQ G ods 256 dec, moC oy r th fi se (nI dp) sh sl (nI nq) oh ol w0 w1 w2, aI G (r 0) 256 ckS, aI G (r 1) 256 ckU, aI G (r 2) 176 (bN ff), aI G (r 3) 16 (bN gg), aI G (r 4) 16 (bN mm), aZ G (r 5) 256 ins, aZ G (r 6) 1024 sb, aI G (r 7) 4 per, aJ G (r 8) 4 ph, aJ G (r 9) 4 pl, aI G (r 10) 4 ss, aI G (r 11) 1024 sv, aI G (r 12) 1024 sw, aZ G (r 13) 512 mk2, aI G (r 14) 229 f, aI G (r 15) 1024 hp, aJ G (r 16) 1024 hh, aJ G (r 17) 1024 hl9, oC (kk 0) 0 [.ref (ks 0), .ref (kv 0), .ref (kw 0), .int (nI (q 0)), .int (nI (sz 0)), .long (ch 0), .long (cl 0)], aZ G (ks 0) 256 (fs 0), aI G (kv 0) 128 (fv 0), aI G (kw 0) 128 (fw 0), oC (kk 1) 0 [.ref (ks 1), .ref (kv 1), .ref (kw 1), .int (nI (q 1)), .int (nI (sz 1)), .long (ch 1), .long (cl 1)], aZ G (ks 1) 256 (fs 1), aI G (kv 1) 128 (fv 1), aI G (kw 1) 128 (fw 1), oC (kk 2) 0 [.ref (ks 2), .ref (kv 2), .ref (kw 2), .int (nI (q 2)), .int (nI (sz 2)), .long (ch 2), .long (cl 2)], aZ G (ks 2) 256 (fs 2), aI G (kv 2) 128 (fv 2), aI G (kw 2) 128 (fw 2), oC (kk 3) 0 [.ref (ks 3), .ref (kv 3), .ref (kw 3), .int (nI (q 3)), .int (nI (sz 3)), .long (ch 3), .long (cl 3)], aZ G (ks 3) 256 (fs 3), aI G (kv 3) 128 (fv 3), aI G (kw 3) 128 (fw 3)] ++ decW G T) := hD
      generalize htl : decW G T = tl at hP hD
      refine lv_aload_n hx hb dLa_law_1585 rfl (lv_at hl 1 rfl) ?_
      refine lv_aload_n hx hb dLa_law_1586 rfl (lv_at hl 0 rfl) ?_
      refine lv_iload hx hb dLa_law_1587 (lv_at hl 4 rfl) ?_
      refine lv_iconst (v := nI 1) hx hb dLa_law_1589 (by decide) ?_
      refine lv_iadd hx hb dLa_law_1590 ?_
      refine ck_sld hx hb hX hbl hbA hS (9 * j + 1) (nI_add _ _) (by omega) (by omega) hy1 dLa_law_1591 ?_
      refine lv_aload_n hx hb dLa_law_1592 rfl (lv_at hl 3 rfl) ?_
      refine clLa_147 (As := [.ref ox, .int (nI 2), .ref oq]) (rest := []) hx hb hml hown hts (w_La_count l G ox oq (nI 2) fo _ (k_CK_count2 l G ox oc ot oo oe op ocs ods oh ol kk ks kv kw (fun c => nI (q c)) (fun c => nI (sz c)) ch cl fs) rfl (fun _ => rfl)) hG hA hP hD hS [0, 1, 10, 31, 32, 35, 36, 39, 40, 43, 44] rfl rfl (fun _ => rfl) rfl hl.1 rfl (Nat.le_of_ble_eq_true rfl) ⟨Nat.le_of_ble_eq_true rfl, Nat.le_of_ble_eq_true rfl⟩ ⟨Nat.le_trans (Nat.add_le_add_left (Nat.le_of_ble_eq_true rfl) _) hcf.1, Nat.le_trans (Nat.add_le_add_left (Nat.le_of_ble_eq_true rfl) _) hcf.2⟩ dLa_law_1593 (fun _ H locs _ hP hD hS => ?_)
      have hP : va_P G.1 vwCl ([aJ G oq 1 (vp_updL fo 0 (nI (cntZ (fs 0) 256 + cntZ (fs 1) 256 + cntZ (fs 2) 256 + cntZ (fs 3) 256)).toInt64), oC ox 7 [.ref oc, .ref ot, .ref oo, .ref oe, .ref op, .ref ocs, .ref ods, .long oh, .long ol], oC ot 6 [.int (nI dp), .long sh, .long sl], oC oc 1 [.ref owd, .long e0, .long f0], aI G owd 44 g, oC oo 2 [.ref om], aZ G om 512 mk, oC oe 4 [.long c0, .long h0, .long l0], oC op 5 [.ref ob, .int (nI nq)], aI G ob 229 f, aH G ocs 4 (fun j => some (kk j)), aQ G ods 256 dec, moC oy r th fi se (nI dp) sh sl (nI nq) oh ol w0 w1 w2, aI G (r 0) 256 ckS, aI G (r 1) 256 ckU, aI G (r 2) 176 (bN ff), aI G (r 3) 16 (bN gg), aI G (r 4) 16 (bN mm), aZ G (r 5) 256 ins, aZ G (r 6) 1024 sb, aI G (r 7) 4 per, aJ G (r 8) 4 ph, aJ G (r 9) 4 pl, aI G (r 10) 4 ss, aI G (r 11) 1024 sv, aI G (r 12) 1024 sw, aZ G (r 13) 512 mk2, aI G (r 14) 229 f, aI G (r 15) 1024 hp, aJ G (r 16) 1024 hh, aJ G (r 17) 1024 hl9, oC (kk 0) 0 [.ref (ks 0), .ref (kv 0), .ref (kw 0), .int (nI (q 0)), .int (nI (sz 0)), .long (ch 0), .long (cl 0)], aZ G (ks 0) 256 (fs 0), aI G (kv 0) 128 (fv 0), aI G (kw 0) 128 (fw 0), oC (kk 1) 0 [.ref (ks 1), .ref (kv 1), .ref (kw 1), .int (nI (q 1)), .int (nI (sz 1)), .long (ch 1), .long (cl 1)], aZ G (ks 1) 256 (fs 1), aI G (kv 1) 128 (fv 1), aI G (kw 1) 128 (fw 1), oC (kk 2) 0 [.ref (ks 2), .ref (kv 2), .ref (kw 2), .int (nI (q 2)), .int (nI (sz 2)), .long (ch 2), .long (cl 2)], aZ G (ks 2) 256 (fs 2), aI G (kv 2) 128 (fv 2), aI G (kw 2) 128 (fw 2), oC (kk 3) 0 [.ref (ks 3), .ref (kv 3), .ref (kw 3), .int (nI (q 3)), .int (nI (sz 3)), .long (ch 3), .long (cl 3)], aZ G (ks 3) 256 (fs 3), aI G (kv 3) 128 (fv 3), aI G (kw 3) 128 (fw 3)] ++ tl) H := hP
      have hD : va_D A ([aJ G oq 1 (vp_updL fo 0 (nI (cntZ (fs 0) 256 + cntZ (fs 1) 256 + cntZ (fs 2) 256 + cntZ (fs 3) 256)).toInt64), oC ox 7 [.ref oc, .ref ot, .ref oo, .ref oe, .ref op, .ref ocs, .ref ods, .long oh, .long ol], oC ot 6 [.int (nI dp), .long sh, .long sl], oC oc 1 [.ref owd, .long e0, .long f0], aI G owd 44 g, oC oo 2 [.ref om], aZ G om 512 mk, oC oe 4 [.long c0, .long h0, .long l0], oC op 5 [.ref ob, .int (nI nq)], aI G ob 229 f, aH G ocs 4 (fun j => some (kk j)), aQ G ods 256 dec, moC oy r th fi se (nI dp) sh sl (nI nq) oh ol w0 w1 w2, aI G (r 0) 256 ckS, aI G (r 1) 256 ckU, aI G (r 2) 176 (bN ff), aI G (r 3) 16 (bN gg), aI G (r 4) 16 (bN mm), aZ G (r 5) 256 ins, aZ G (r 6) 1024 sb, aI G (r 7) 4 per, aJ G (r 8) 4 ph, aJ G (r 9) 4 pl, aI G (r 10) 4 ss, aI G (r 11) 1024 sv, aI G (r 12) 1024 sw, aZ G (r 13) 512 mk2, aI G (r 14) 229 f, aI G (r 15) 1024 hp, aJ G (r 16) 1024 hh, aJ G (r 17) 1024 hl9, oC (kk 0) 0 [.ref (ks 0), .ref (kv 0), .ref (kw 0), .int (nI (q 0)), .int (nI (sz 0)), .long (ch 0), .long (cl 0)], aZ G (ks 0) 256 (fs 0), aI G (kv 0) 128 (fv 0), aI G (kw 0) 128 (fw 0), oC (kk 1) 0 [.ref (ks 1), .ref (kv 1), .ref (kw 1), .int (nI (q 1)), .int (nI (sz 1)), .long (ch 1), .long (cl 1)], aZ G (ks 1) 256 (fs 1), aI G (kv 1) 128 (fv 1), aI G (kw 1) 128 (fw 1), oC (kk 2) 0 [.ref (ks 2), .ref (kv 2), .ref (kw 2), .int (nI (q 2)), .int (nI (sz 2)), .long (ch 2), .long (cl 2)], aZ G (ks 2) 256 (fs 2), aI G (kv 2) 128 (fv 2), aI G (kw 2) 128 (fw 2), oC (kk 3) 0 [.ref (ks 3), .ref (kv 3), .ref (kw 3), .int (nI (q 3)), .int (nI (sz 3)), .long (ch 3), .long (cl 3)], aZ G (ks 3) 256 (fs 3), aI G (kv 3) 128 (fv 3), aI G (kw 3) 128 (fw 3)] ++ tl) := hD
      refine W.widen (k := 60 + 4 * j + 4) (n := 20000 + 20 * j + 20) (Nat.add_le_add_left (Nat.le_of_ble_eq_true rfl) _) (Nat.add_le_add_left (Nat.le_of_ble_eq_true rfl) _) ?_
      refine W.eq (g2 := F0 m 1596 ls [.int (nI 0)]) rfl ?_
      refine lv_istore (lv' := [(5, .int (nI 0)), (0, .ref b), (1, .ref ox), (2, .ref oy), (3, .ref oq), (4, .int (nI (9 * j)))]) hx hb dLa_law_1596 hl (by decide) rfl (fun ls hl => ?_)
      refine lv_aload_n hx hb dLa_law_1598 rfl (lv_at hl 3 rfl) ?_
      refine lv_aload_n hx hb dLa_law_1599 rfl (lv_at hl 1 rfl) ?_
      refine lv_iload hx hb dLa_law_1600 (lv_at hl 5 rfl) ?_
      refine lv_iconst (v := nI 1) hx hb dLa_law_1602 (by decide) ?_
      refine lv_iadd hx hb dLa_law_1603 ?_
      refine ck_sld hx hb hX hbl hbA hS (9 * j + 1) (nI_add _ _) (by omega) (by omega) hy1 dLa_law_1604 ?_
      refine clLa_149 (As := [.int (nI 2)]) (rest := []) hx hb hml hown hts (k_Mo_count l G oy r th fi se (nI dp) sh sl (nI nq) oh ol w0 w1 w2 ins sb per 2 (by omega)) hG hA hP hD hS 12 rfl [12, 18, 19, 20] rfl rfl (fun _ => rfl) rfl hl.1 rfl (Nat.le_of_ble_eq_true rfl) ⟨Nat.le_of_ble_eq_true rfl, Nat.le_of_ble_eq_true rfl⟩ ⟨hcf.1, hcf.2⟩ dLa_law_1605 (fun _ H locs _ hP hD hS => ?_)
      have hP : va_P G.1 vwCl ([aJ G oq 1 (vp_updL fo 0 (nI (cntZ (fs 0) 256 + cntZ (fs 1) 256 + cntZ (fs 2) 256 + cntZ (fs 3) 256)).toInt64), oC ox 7 [.ref oc, .ref ot, .ref oo, .ref oe, .ref op, .ref ocs, .ref ods, .long oh, .long ol], oC ot 6 [.int (nI dp), .long sh, .long sl], oC oc 1 [.ref owd, .long e0, .long f0], aI G owd 44 g, oC oo 2 [.ref om], aZ G om 512 mk, oC oe 4 [.long c0, .long h0, .long l0], oC op 5 [.ref ob, .int (nI nq)], aI G ob 229 f, aH G ocs 4 (fun j => some (kk j)), aQ G ods 256 dec, moC oy r (nI 0) fi se (nI dp) sh sl (nI nq) oh ol w0 w1 w2, aI G (r 0) 256 ckS, aI G (r 1) 256 ckU, aI G (r 2) 176 (bN ff), aI G (r 3) 16 (bN gg), aI G (r 4) 16 (bN mm), aZ G (r 5) 256 ins, aZ G (r 6) 1024 sb, aI G (r 7) 4 per, aJ G (r 8) 4 ph, aJ G (r 9) 4 pl, aI G (r 10) 4 ss, aI G (r 11) 1024 sv, aI G (r 12) 1024 sw, aZ G (r 13) 512 mk2, aI G (r 14) 229 f, aI G (r 15) 1024 hp, aJ G (r 16) 1024 hh, aJ G (r 17) 1024 hl9, oC (kk 0) 0 [.ref (ks 0), .ref (kv 0), .ref (kw 0), .int (nI (q 0)), .int (nI (sz 0)), .long (ch 0), .long (cl 0)], aZ G (ks 0) 256 (fs 0), aI G (kv 0) 128 (fv 0), aI G (kw 0) 128 (fw 0), oC (kk 1) 0 [.ref (ks 1), .ref (kv 1), .ref (kw 1), .int (nI (q 1)), .int (nI (sz 1)), .long (ch 1), .long (cl 1)], aZ G (ks 1) 256 (fs 1), aI G (kv 1) 128 (fv 1), aI G (kw 1) 128 (fw 1), oC (kk 2) 0 [.ref (ks 2), .ref (kv 2), .ref (kw 2), .int (nI (q 2)), .int (nI (sz 2)), .long (ch 2), .long (cl 2)], aZ G (ks 2) 256 (fs 2), aI G (kv 2) 128 (fv 2), aI G (kw 2) 128 (fw 2), oC (kk 3) 0 [.ref (ks 3), .ref (kv 3), .ref (kw 3), .int (nI (q 3)), .int (nI (sz 3)), .long (ch 3), .long (cl 3)], aZ G (ks 3) 256 (fs 3), aI G (kv 3) 128 (fv 3), aI G (kw 3) 128 (fw 3)] ++ tl) H := hP
      have hD : va_D A ([aJ G oq 1 (vp_updL fo 0 (nI (cntZ (fs 0) 256 + cntZ (fs 1) 256 + cntZ (fs 2) 256 + cntZ (fs 3) 256)).toInt64), oC ox 7 [.ref oc, .ref ot, .ref oo, .ref oe, .ref op, .ref ocs, .ref ods, .long oh, .long ol], oC ot 6 [.int (nI dp), .long sh, .long sl], oC oc 1 [.ref owd, .long e0, .long f0], aI G owd 44 g, oC oo 2 [.ref om], aZ G om 512 mk, oC oe 4 [.long c0, .long h0, .long l0], oC op 5 [.ref ob, .int (nI nq)], aI G ob 229 f, aH G ocs 4 (fun j => some (kk j)), aQ G ods 256 dec, moC oy r (nI 0) fi se (nI dp) sh sl (nI nq) oh ol w0 w1 w2, aI G (r 0) 256 ckS, aI G (r 1) 256 ckU, aI G (r 2) 176 (bN ff), aI G (r 3) 16 (bN gg), aI G (r 4) 16 (bN mm), aZ G (r 5) 256 ins, aZ G (r 6) 1024 sb, aI G (r 7) 4 per, aJ G (r 8) 4 ph, aJ G (r 9) 4 pl, aI G (r 10) 4 ss, aI G (r 11) 1024 sv, aI G (r 12) 1024 sw, aZ G (r 13) 512 mk2, aI G (r 14) 229 f, aI G (r 15) 1024 hp, aJ G (r 16) 1024 hh, aJ G (r 17) 1024 hl9, oC (kk 0) 0 [.ref (ks 0), .ref (kv 0), .ref (kw 0), .int (nI (q 0)), .int (nI (sz 0)), .long (ch 0), .long (cl 0)], aZ G (ks 0) 256 (fs 0), aI G (kv 0) 128 (fv 0), aI G (kw 0) 128 (fw 0), oC (kk 1) 0 [.ref (ks 1), .ref (kv 1), .ref (kw 1), .int (nI (q 1)), .int (nI (sz 1)), .long (ch 1), .long (cl 1)], aZ G (ks 1) 256 (fs 1), aI G (kv 1) 128 (fv 1), aI G (kw 1) 128 (fw 1), oC (kk 2) 0 [.ref (ks 2), .ref (kv 2), .ref (kw 2), .int (nI (q 2)), .int (nI (sz 2)), .long (ch 2), .long (cl 2)], aZ G (ks 2) 256 (fs 2), aI G (kv 2) 128 (fv 2), aI G (kw 2) 128 (fw 2), oC (kk 3) 0 [.ref (ks 3), .ref (kv 3), .ref (kw 3), .int (nI (q 3)), .int (nI (sz 3)), .long (ch 3), .long (cl 3)], aZ G (ks 3) 256 (fs 3), aI G (kv 3) 128 (fv 3), aI G (kw 3) 128 (fw 3)] ++ tl) := hD
      refine W.cs (cells' := 60 + 4 * j + 4) (slots' := 20000 + 20 * j + 20) rfl rfl ?_
      refine W.eq (g2 := F0 m 1608 ls [.int (rCnt (nI dp) (nI nq) ins sb per 2)]) rfl ?_
      refine ck_ri (y := nI (cntZ (fs 0) 256 + cntZ (fs 1) 256 + cntZ (fs 2) 256 + cntZ (fs 3) 256)) (by rw [cntZ_4 hR2]; rfl) ?_
      refine lv_istore (lv' := [(6, .int (nI (cntZ (fs 0) 256 + cntZ (fs 1) 256 + cntZ (fs 2) 256 + cntZ (fs 3) 256))), (5, .int (nI 0)), (0, .ref b), (1, .ref ox), (2, .ref oy), (3, .ref oq), (4, .int (nI (9 * j)))]) hx hb dLa_law_1608 hl (by decide) rfl (fun ls hl => ?_)
      refine lv_aload_n hx hb dLa_law_1610 rfl (lv_at hl 4 rfl) ?_
      refine clLa_88 (As := []) (rest := []) hx hb hml hown hts (k_Mo_thrown l G oy r (nI 0) fi se (nI dp) sh sl (nI nq) oh ol w0 w1 w2) hG hA hP hD hS 12 rfl [12] rfl rfl (fun _ => rfl) rfl hl.1 rfl (Nat.le_of_ble_eq_true rfl) ⟨Nat.le_of_ble_eq_true rfl, Nat.le_of_ble_eq_true rfl⟩ ⟨hcf.1, hcf.2⟩ dLa_law_1611 (fun _ H locs _ hP hD hS => ?_)
      have hP : va_P G.1 vwCl ([aJ G oq 1 (vp_updL fo 0 (nI (cntZ (fs 0) 256 + cntZ (fs 1) 256 + cntZ (fs 2) 256 + cntZ (fs 3) 256)).toInt64), oC ox 7 [.ref oc, .ref ot, .ref oo, .ref oe, .ref op, .ref ocs, .ref ods, .long oh, .long ol], oC ot 6 [.int (nI dp), .long sh, .long sl], oC oc 1 [.ref owd, .long e0, .long f0], aI G owd 44 g, oC oo 2 [.ref om], aZ G om 512 mk, oC oe 4 [.long c0, .long h0, .long l0], oC op 5 [.ref ob, .int (nI nq)], aI G ob 229 f, aH G ocs 4 (fun j => some (kk j)), aQ G ods 256 dec, moC oy r (nI 0) fi se (nI dp) sh sl (nI nq) oh ol w0 w1 w2, aI G (r 0) 256 ckS, aI G (r 1) 256 ckU, aI G (r 2) 176 (bN ff), aI G (r 3) 16 (bN gg), aI G (r 4) 16 (bN mm), aZ G (r 5) 256 ins, aZ G (r 6) 1024 sb, aI G (r 7) 4 per, aJ G (r 8) 4 ph, aJ G (r 9) 4 pl, aI G (r 10) 4 ss, aI G (r 11) 1024 sv, aI G (r 12) 1024 sw, aZ G (r 13) 512 mk2, aI G (r 14) 229 f, aI G (r 15) 1024 hp, aJ G (r 16) 1024 hh, aJ G (r 17) 1024 hl9, oC (kk 0) 0 [.ref (ks 0), .ref (kv 0), .ref (kw 0), .int (nI (q 0)), .int (nI (sz 0)), .long (ch 0), .long (cl 0)], aZ G (ks 0) 256 (fs 0), aI G (kv 0) 128 (fv 0), aI G (kw 0) 128 (fw 0), oC (kk 1) 0 [.ref (ks 1), .ref (kv 1), .ref (kw 1), .int (nI (q 1)), .int (nI (sz 1)), .long (ch 1), .long (cl 1)], aZ G (ks 1) 256 (fs 1), aI G (kv 1) 128 (fv 1), aI G (kw 1) 128 (fw 1), oC (kk 2) 0 [.ref (ks 2), .ref (kv 2), .ref (kw 2), .int (nI (q 2)), .int (nI (sz 2)), .long (ch 2), .long (cl 2)], aZ G (ks 2) 256 (fs 2), aI G (kv 2) 128 (fv 2), aI G (kw 2) 128 (fw 2), oC (kk 3) 0 [.ref (ks 3), .ref (kv 3), .ref (kw 3), .int (nI (q 3)), .int (nI (sz 3)), .long (ch 3), .long (cl 3)], aZ G (ks 3) 256 (fs 3), aI G (kv 3) 128 (fv 3), aI G (kw 3) 128 (fw 3)] ++ tl) H := hP
      have hD : va_D A ([aJ G oq 1 (vp_updL fo 0 (nI (cntZ (fs 0) 256 + cntZ (fs 1) 256 + cntZ (fs 2) 256 + cntZ (fs 3) 256)).toInt64), oC ox 7 [.ref oc, .ref ot, .ref oo, .ref oe, .ref op, .ref ocs, .ref ods, .long oh, .long ol], oC ot 6 [.int (nI dp), .long sh, .long sl], oC oc 1 [.ref owd, .long e0, .long f0], aI G owd 44 g, oC oo 2 [.ref om], aZ G om 512 mk, oC oe 4 [.long c0, .long h0, .long l0], oC op 5 [.ref ob, .int (nI nq)], aI G ob 229 f, aH G ocs 4 (fun j => some (kk j)), aQ G ods 256 dec, moC oy r (nI 0) fi se (nI dp) sh sl (nI nq) oh ol w0 w1 w2, aI G (r 0) 256 ckS, aI G (r 1) 256 ckU, aI G (r 2) 176 (bN ff), aI G (r 3) 16 (bN gg), aI G (r 4) 16 (bN mm), aZ G (r 5) 256 ins, aZ G (r 6) 1024 sb, aI G (r 7) 4 per, aJ G (r 8) 4 ph, aJ G (r 9) 4 pl, aI G (r 10) 4 ss, aI G (r 11) 1024 sv, aI G (r 12) 1024 sw, aZ G (r 13) 512 mk2, aI G (r 14) 229 f, aI G (r 15) 1024 hp, aJ G (r 16) 1024 hh, aJ G (r 17) 1024 hl9, oC (kk 0) 0 [.ref (ks 0), .ref (kv 0), .ref (kw 0), .int (nI (q 0)), .int (nI (sz 0)), .long (ch 0), .long (cl 0)], aZ G (ks 0) 256 (fs 0), aI G (kv 0) 128 (fv 0), aI G (kw 0) 128 (fw 0), oC (kk 1) 0 [.ref (ks 1), .ref (kv 1), .ref (kw 1), .int (nI (q 1)), .int (nI (sz 1)), .long (ch 1), .long (cl 1)], aZ G (ks 1) 256 (fs 1), aI G (kv 1) 128 (fv 1), aI G (kw 1) 128 (fw 1), oC (kk 2) 0 [.ref (ks 2), .ref (kv 2), .ref (kw 2), .int (nI (q 2)), .int (nI (sz 2)), .long (ch 2), .long (cl 2)], aZ G (ks 2) 256 (fs 2), aI G (kv 2) 128 (fv 2), aI G (kw 2) 128 (fw 2), oC (kk 3) 0 [.ref (ks 3), .ref (kv 3), .ref (kw 3), .int (nI (q 3)), .int (nI (sz 3)), .long (ch 3), .long (cl 3)], aZ G (ks 3) 256 (fs 3), aI G (kv 3) 128 (fv 3), aI G (kw 3) 128 (fw 3)] ++ tl) := hD
      refine W.cs (cells' := 60 + 4 * j + 4) (slots' := 20000 + 20 * j + 20) rfl rfl ?_
      refine W.eq (g2 := F0 m 1614 ls [.int (nI 0)]) rfl ?_
      refine lv_iload hx hb dLa_law_1614 (lv_at hl 1 rfl) ?_
      refine lv_icmp_eq (tgt := 1621) hx hb dLa_law_1616 rfl (fun _ => ?_) (fun h => absurd (rfl) h)
      refine lv_iload hx hb dLa_law_1621 (lv_at hl 1 rfl) ?_
      refine lv_if_ne (tgt := 1638) hx hb dLa_law_1623 rfl (fun h => absurd (rfl) h) (fun _ => ?_)
      refine lv_aload_n hx hb dLa_law_1626 rfl (lv_at hl 5 rfl) ?_
      refine lv_iconst (v := nI 0) hx hb dLa_law_1627 (by decide) ?_
      refine ck_lald hx hb hG hP 0 rfl (by decide) 0 (rfl) (by decide) dLa_law_1628 ?_
      refine ck_rl (y := (nI (cntZ (fs 0) 256 + cntZ (fs 1) 256 + cntZ (fs 2) 256 + cntZ (fs 3) 256)).toInt64) (rfl) ?_
      refine lv_iload hx hb dLa_law_1629 (lv_at hl 0 rfl) ?_
      refine lv_i2l (v := (nI (cntZ (fs 0) 256 + cntZ (fs 1) 256 + cntZ (fs 2) 256 + cntZ (fs 3) 256)).toInt64) hx hb dLa_law_1631 rfl ?_
      refine W.lcmp hx hb dLa_law_1632 ?_
      refine lv_if_eq (tgt := 1638) hx hb dLa_law_1633 rfl (fun _ => ?_) (fun h => absurd ((lg_cmp_0 _ _).mpr (rfl)) h)
      refine lv_goto (tgt := 1641) hx hb dLa_law_1638 rfl ?_
      refine lv_iinc (v := nI (9 * (j + 1))) (lv' := [(4, .int (nI (9 * (j + 1)))), (6, .int (nI (cntZ (fs 0) 256 + cntZ (fs 1) 256 + cntZ (fs 2) 256 + cntZ (fs 3) 256))), (5, .int (nI 0)), (0, .ref b), (1, .ref ox), (2, .ref oy), (3, .ref oq)]) hx hb dLa_law_1641 hl (k := 6) rfl (nI_add (9 * j) 9) (by decide) rfl (fun ls hl => ?_)
      refine lv_goto (tgt := 23) hx hb dLa_law_1644 rfl ?_
      refine W.cs (cells' := 60 + 4 * (j + 1)) (slots' := 20000 + 20 * (j + 1)) (by omega) (by omega) ?_
      subst htl
      exact ih oh ol dp sh sl g e0 f0 mk c0 h0 l0 nq f dec q sz ch cl fs fv fw T (vp_updL fo 0 (nI (cntZ (fs 0) 256 + cntZ (fs 1) 256 + cntZ (fs 2) 256 + cntZ (fs 3) 256)).toInt64) (nI 0) fi se w0 w1 w2 ff gg mm ins sb per ph pl ss sv sw mk2 hp hh hl9 _ _ _ hdp1 hdp hR1 hR2 hR3 hR4 hP hD hS (lv_sub hl [3, 4, 5, 6, 0] rfl)
    · have hP : va_P G.1 vwCl ([aJ G oq 1 fo, oC ox 7 [.ref oc, .ref ot, .ref oo, .ref oe, .ref op, .ref ocs, .ref ods, .long oh, .long ol], oC ot 6 [.int (nI dp), .long sh, .long sl], oC oc 1 [.ref owd, .long e0, .long f0], aI G owd 44 g, oC oo 2 [.ref om], aZ G om 512 mk, oC oe 4 [.long c0, .long h0, .long l0], oC op 5 [.ref ob, .int (nI nq)], aI G ob 229 f, aH G ocs 4 (fun j => some (kk j)), aQ G ods 256 dec, moC oy r th fi se (nI dp) sh sl (nI nq) oh ol w0 w1 w2, aI G (r 0) 256 ckS, aI G (r 1) 256 ckU, aI G (r 2) 176 (bN ff), aI G (r 3) 16 (bN gg), aI G (r 4) 16 (bN mm), aZ G (r 5) 256 ins, aZ G (r 6) 1024 sb, aI G (r 7) 4 per, aJ G (r 8) 4 ph, aJ G (r 9) 4 pl, aI G (r 10) 4 ss, aI G (r 11) 1024 sv, aI G (r 12) 1024 sw, aZ G (r 13) 512 mk2, aI G (r 14) 229 f, aI G (r 15) 1024 hp, aJ G (r 16) 1024 hh, aJ G (r 17) 1024 hl9] ++ (chA (chB G kk ks kv kw q sz ch cl fs fv fw) ++ decW G T)) H := hP
      have hD : va_D A ([aJ G oq 1 fo, oC ox 7 [.ref oc, .ref ot, .ref oo, .ref oe, .ref op, .ref ocs, .ref ods, .long oh, .long ol], oC ot 6 [.int (nI dp), .long sh, .long sl], oC oc 1 [.ref owd, .long e0, .long f0], aI G owd 44 g, oC oo 2 [.ref om], aZ G om 512 mk, oC oe 4 [.long c0, .long h0, .long l0], oC op 5 [.ref ob, .int (nI nq)], aI G ob 229 f, aH G ocs 4 (fun j => some (kk j)), aQ G ods 256 dec, moC oy r th fi se (nI dp) sh sl (nI nq) oh ol w0 w1 w2, aI G (r 0) 256 ckS, aI G (r 1) 256 ckU, aI G (r 2) 176 (bN ff), aI G (r 3) 16 (bN gg), aI G (r 4) 16 (bN mm), aZ G (r 5) 256 ins, aZ G (r 6) 1024 sb, aI G (r 7) 4 per, aJ G (r 8) 4 ph, aJ G (r 9) 4 pl, aI G (r 10) 4 ss, aI G (r 11) 1024 sv, aI G (r 12) 1024 sw, aZ G (r 13) 512 mk2, aI G (r 14) 229 f, aI G (r 15) 1024 hp, aJ G (r 16) 1024 hh, aJ G (r 17) 1024 hl9] ++ (chA (chB G kk ks kv kw q sz ch cl fs fv fw) ++ decW G T)) := hD
      generalize htl : (chA (chB G kk ks kv kw q sz ch cl fs fv fw) ++ decW G T) = tl at hP hD
      refine lv_aload_n hx hb dLa_law_1585 rfl (lv_at hl 1 rfl) ?_
      refine lv_aload_n hx hb dLa_law_1586 rfl (lv_at hl 0 rfl) ?_
      refine lv_iload hx hb dLa_law_1587 (lv_at hl 4 rfl) ?_
      refine lv_iconst (v := nI 1) hx hb dLa_law_1589 (by decide) ?_
      refine lv_iadd hx hb dLa_law_1590 ?_
      refine ck_sld hx hb hX hbl hbA hS (9 * j + 1) (nI_add _ _) (by omega) (by omega) hy1 dLa_law_1591 ?_
      refine lv_aload_n hx hb dLa_law_1592 rfl (lv_at hl 3 rfl) ?_
      refine clLa_147 (As := [.ref ox, .int (nI 3), .ref oq]) (rest := []) hx hb hml hown hts (w_La_count l G ox oq (nI 3) fo _ (k_CK_count3 l G ox oc ot oo oe op ocs ods oh ol ob (nI nq)) rfl (fun _ => rfl)) hG hA hP hD hS [0, 1, 8] rfl rfl (fun _ => rfl) rfl hl.1 rfl (Nat.le_of_ble_eq_true rfl) ⟨Nat.le_of_ble_eq_true rfl, Nat.le_of_ble_eq_true rfl⟩ ⟨Nat.le_trans (Nat.add_le_add_left (Nat.le_of_ble_eq_true rfl) _) hcf.1, Nat.le_trans (Nat.add_le_add_left (Nat.le_of_ble_eq_true rfl) _) hcf.2⟩ dLa_law_1593 (fun _ H locs _ hP hD hS => ?_)
      have hP : va_P G.1 vwCl ([aJ G oq 1 (vp_updL fo 0 (nI nq).toInt64), oC ox 7 [.ref oc, .ref ot, .ref oo, .ref oe, .ref op, .ref ocs, .ref ods, .long oh, .long ol], oC ot 6 [.int (nI dp), .long sh, .long sl], oC oc 1 [.ref owd, .long e0, .long f0], aI G owd 44 g, oC oo 2 [.ref om], aZ G om 512 mk, oC oe 4 [.long c0, .long h0, .long l0], oC op 5 [.ref ob, .int (nI nq)], aI G ob 229 f, aH G ocs 4 (fun j => some (kk j)), aQ G ods 256 dec, moC oy r th fi se (nI dp) sh sl (nI nq) oh ol w0 w1 w2, aI G (r 0) 256 ckS, aI G (r 1) 256 ckU, aI G (r 2) 176 (bN ff), aI G (r 3) 16 (bN gg), aI G (r 4) 16 (bN mm), aZ G (r 5) 256 ins, aZ G (r 6) 1024 sb, aI G (r 7) 4 per, aJ G (r 8) 4 ph, aJ G (r 9) 4 pl, aI G (r 10) 4 ss, aI G (r 11) 1024 sv, aI G (r 12) 1024 sw, aZ G (r 13) 512 mk2, aI G (r 14) 229 f, aI G (r 15) 1024 hp, aJ G (r 16) 1024 hh, aJ G (r 17) 1024 hl9] ++ tl) H := hP
      have hD : va_D A ([aJ G oq 1 (vp_updL fo 0 (nI nq).toInt64), oC ox 7 [.ref oc, .ref ot, .ref oo, .ref oe, .ref op, .ref ocs, .ref ods, .long oh, .long ol], oC ot 6 [.int (nI dp), .long sh, .long sl], oC oc 1 [.ref owd, .long e0, .long f0], aI G owd 44 g, oC oo 2 [.ref om], aZ G om 512 mk, oC oe 4 [.long c0, .long h0, .long l0], oC op 5 [.ref ob, .int (nI nq)], aI G ob 229 f, aH G ocs 4 (fun j => some (kk j)), aQ G ods 256 dec, moC oy r th fi se (nI dp) sh sl (nI nq) oh ol w0 w1 w2, aI G (r 0) 256 ckS, aI G (r 1) 256 ckU, aI G (r 2) 176 (bN ff), aI G (r 3) 16 (bN gg), aI G (r 4) 16 (bN mm), aZ G (r 5) 256 ins, aZ G (r 6) 1024 sb, aI G (r 7) 4 per, aJ G (r 8) 4 ph, aJ G (r 9) 4 pl, aI G (r 10) 4 ss, aI G (r 11) 1024 sv, aI G (r 12) 1024 sw, aZ G (r 13) 512 mk2, aI G (r 14) 229 f, aI G (r 15) 1024 hp, aJ G (r 16) 1024 hh, aJ G (r 17) 1024 hl9] ++ tl) := hD
      refine W.widen (k := 60 + 4 * j + 4) (n := 20000 + 20 * j + 20) (Nat.add_le_add_left (Nat.le_of_ble_eq_true rfl) _) (Nat.add_le_add_left (Nat.le_of_ble_eq_true rfl) _) ?_
      refine W.eq (g2 := F0 m 1596 ls [.int (nI 0)]) rfl ?_
      refine lv_istore (lv' := [(5, .int (nI 0)), (0, .ref b), (1, .ref ox), (2, .ref oy), (3, .ref oq), (4, .int (nI (9 * j)))]) hx hb dLa_law_1596 hl (by decide) rfl (fun ls hl => ?_)
      refine lv_aload_n hx hb dLa_law_1598 rfl (lv_at hl 3 rfl) ?_
      refine lv_aload_n hx hb dLa_law_1599 rfl (lv_at hl 1 rfl) ?_
      refine lv_iload hx hb dLa_law_1600 (lv_at hl 5 rfl) ?_
      refine lv_iconst (v := nI 1) hx hb dLa_law_1602 (by decide) ?_
      refine lv_iadd hx hb dLa_law_1603 ?_
      refine ck_sld hx hb hX hbl hbA hS (9 * j + 1) (nI_add _ _) (by omega) (by omega) hy1 dLa_law_1604 ?_
      refine clLa_149 (As := [.int (nI 3)]) (rest := []) hx hb hml hown hts (k_Mo_count l G oy r th fi se (nI dp) sh sl (nI nq) oh ol w0 w1 w2 ins sb per 3 (by omega)) hG hA hP hD hS 12 rfl [12, 18, 19, 20] rfl rfl (fun _ => rfl) rfl hl.1 rfl (Nat.le_of_ble_eq_true rfl) ⟨Nat.le_of_ble_eq_true rfl, Nat.le_of_ble_eq_true rfl⟩ ⟨hcf.1, hcf.2⟩ dLa_law_1605 (fun _ H locs _ hP hD hS => ?_)
      have hP : va_P G.1 vwCl ([aJ G oq 1 (vp_updL fo 0 (nI nq).toInt64), oC ox 7 [.ref oc, .ref ot, .ref oo, .ref oe, .ref op, .ref ocs, .ref ods, .long oh, .long ol], oC ot 6 [.int (nI dp), .long sh, .long sl], oC oc 1 [.ref owd, .long e0, .long f0], aI G owd 44 g, oC oo 2 [.ref om], aZ G om 512 mk, oC oe 4 [.long c0, .long h0, .long l0], oC op 5 [.ref ob, .int (nI nq)], aI G ob 229 f, aH G ocs 4 (fun j => some (kk j)), aQ G ods 256 dec, moC oy r (nI 0) fi se (nI dp) sh sl (nI nq) oh ol w0 w1 w2, aI G (r 0) 256 ckS, aI G (r 1) 256 ckU, aI G (r 2) 176 (bN ff), aI G (r 3) 16 (bN gg), aI G (r 4) 16 (bN mm), aZ G (r 5) 256 ins, aZ G (r 6) 1024 sb, aI G (r 7) 4 per, aJ G (r 8) 4 ph, aJ G (r 9) 4 pl, aI G (r 10) 4 ss, aI G (r 11) 1024 sv, aI G (r 12) 1024 sw, aZ G (r 13) 512 mk2, aI G (r 14) 229 f, aI G (r 15) 1024 hp, aJ G (r 16) 1024 hh, aJ G (r 17) 1024 hl9] ++ tl) H := hP
      have hD : va_D A ([aJ G oq 1 (vp_updL fo 0 (nI nq).toInt64), oC ox 7 [.ref oc, .ref ot, .ref oo, .ref oe, .ref op, .ref ocs, .ref ods, .long oh, .long ol], oC ot 6 [.int (nI dp), .long sh, .long sl], oC oc 1 [.ref owd, .long e0, .long f0], aI G owd 44 g, oC oo 2 [.ref om], aZ G om 512 mk, oC oe 4 [.long c0, .long h0, .long l0], oC op 5 [.ref ob, .int (nI nq)], aI G ob 229 f, aH G ocs 4 (fun j => some (kk j)), aQ G ods 256 dec, moC oy r (nI 0) fi se (nI dp) sh sl (nI nq) oh ol w0 w1 w2, aI G (r 0) 256 ckS, aI G (r 1) 256 ckU, aI G (r 2) 176 (bN ff), aI G (r 3) 16 (bN gg), aI G (r 4) 16 (bN mm), aZ G (r 5) 256 ins, aZ G (r 6) 1024 sb, aI G (r 7) 4 per, aJ G (r 8) 4 ph, aJ G (r 9) 4 pl, aI G (r 10) 4 ss, aI G (r 11) 1024 sv, aI G (r 12) 1024 sw, aZ G (r 13) 512 mk2, aI G (r 14) 229 f, aI G (r 15) 1024 hp, aJ G (r 16) 1024 hh, aJ G (r 17) 1024 hl9] ++ tl) := hD
      refine W.cs (cells' := 60 + 4 * j + 4) (slots' := 20000 + 20 * j + 20) rfl rfl ?_
      refine W.eq (g2 := F0 m 1608 ls [.int (rCnt (nI dp) (nI nq) ins sb per 3)]) rfl ?_
      refine ck_ri (y := nI nq) (rfl) ?_
      refine lv_istore (lv' := [(6, .int (nI nq)), (5, .int (nI 0)), (0, .ref b), (1, .ref ox), (2, .ref oy), (3, .ref oq), (4, .int (nI (9 * j)))]) hx hb dLa_law_1608 hl (by decide) rfl (fun ls hl => ?_)
      refine lv_aload_n hx hb dLa_law_1610 rfl (lv_at hl 4 rfl) ?_
      refine clLa_88 (As := []) (rest := []) hx hb hml hown hts (k_Mo_thrown l G oy r (nI 0) fi se (nI dp) sh sl (nI nq) oh ol w0 w1 w2) hG hA hP hD hS 12 rfl [12] rfl rfl (fun _ => rfl) rfl hl.1 rfl (Nat.le_of_ble_eq_true rfl) ⟨Nat.le_of_ble_eq_true rfl, Nat.le_of_ble_eq_true rfl⟩ ⟨hcf.1, hcf.2⟩ dLa_law_1611 (fun _ H locs _ hP hD hS => ?_)
      have hP : va_P G.1 vwCl ([aJ G oq 1 (vp_updL fo 0 (nI nq).toInt64), oC ox 7 [.ref oc, .ref ot, .ref oo, .ref oe, .ref op, .ref ocs, .ref ods, .long oh, .long ol], oC ot 6 [.int (nI dp), .long sh, .long sl], oC oc 1 [.ref owd, .long e0, .long f0], aI G owd 44 g, oC oo 2 [.ref om], aZ G om 512 mk, oC oe 4 [.long c0, .long h0, .long l0], oC op 5 [.ref ob, .int (nI nq)], aI G ob 229 f, aH G ocs 4 (fun j => some (kk j)), aQ G ods 256 dec, moC oy r (nI 0) fi se (nI dp) sh sl (nI nq) oh ol w0 w1 w2, aI G (r 0) 256 ckS, aI G (r 1) 256 ckU, aI G (r 2) 176 (bN ff), aI G (r 3) 16 (bN gg), aI G (r 4) 16 (bN mm), aZ G (r 5) 256 ins, aZ G (r 6) 1024 sb, aI G (r 7) 4 per, aJ G (r 8) 4 ph, aJ G (r 9) 4 pl, aI G (r 10) 4 ss, aI G (r 11) 1024 sv, aI G (r 12) 1024 sw, aZ G (r 13) 512 mk2, aI G (r 14) 229 f, aI G (r 15) 1024 hp, aJ G (r 16) 1024 hh, aJ G (r 17) 1024 hl9] ++ tl) H := hP
      have hD : va_D A ([aJ G oq 1 (vp_updL fo 0 (nI nq).toInt64), oC ox 7 [.ref oc, .ref ot, .ref oo, .ref oe, .ref op, .ref ocs, .ref ods, .long oh, .long ol], oC ot 6 [.int (nI dp), .long sh, .long sl], oC oc 1 [.ref owd, .long e0, .long f0], aI G owd 44 g, oC oo 2 [.ref om], aZ G om 512 mk, oC oe 4 [.long c0, .long h0, .long l0], oC op 5 [.ref ob, .int (nI nq)], aI G ob 229 f, aH G ocs 4 (fun j => some (kk j)), aQ G ods 256 dec, moC oy r (nI 0) fi se (nI dp) sh sl (nI nq) oh ol w0 w1 w2, aI G (r 0) 256 ckS, aI G (r 1) 256 ckU, aI G (r 2) 176 (bN ff), aI G (r 3) 16 (bN gg), aI G (r 4) 16 (bN mm), aZ G (r 5) 256 ins, aZ G (r 6) 1024 sb, aI G (r 7) 4 per, aJ G (r 8) 4 ph, aJ G (r 9) 4 pl, aI G (r 10) 4 ss, aI G (r 11) 1024 sv, aI G (r 12) 1024 sw, aZ G (r 13) 512 mk2, aI G (r 14) 229 f, aI G (r 15) 1024 hp, aJ G (r 16) 1024 hh, aJ G (r 17) 1024 hl9] ++ tl) := hD
      refine W.cs (cells' := 60 + 4 * j + 4) (slots' := 20000 + 20 * j + 20) rfl rfl ?_
      refine W.eq (g2 := F0 m 1614 ls [.int (nI 0)]) rfl ?_
      refine lv_iload hx hb dLa_law_1614 (lv_at hl 1 rfl) ?_
      refine lv_icmp_eq (tgt := 1621) hx hb dLa_law_1616 rfl (fun _ => ?_) (fun h => absurd (rfl) h)
      refine lv_iload hx hb dLa_law_1621 (lv_at hl 1 rfl) ?_
      refine lv_if_ne (tgt := 1638) hx hb dLa_law_1623 rfl (fun h => absurd (rfl) h) (fun _ => ?_)
      refine lv_aload_n hx hb dLa_law_1626 rfl (lv_at hl 5 rfl) ?_
      refine lv_iconst (v := nI 0) hx hb dLa_law_1627 (by decide) ?_
      refine ck_lald hx hb hG hP 0 rfl (by decide) 0 (rfl) (by decide) dLa_law_1628 ?_
      refine ck_rl (y := (nI nq).toInt64) (rfl) ?_
      refine lv_iload hx hb dLa_law_1629 (lv_at hl 0 rfl) ?_
      refine lv_i2l (v := (nI nq).toInt64) hx hb dLa_law_1631 rfl ?_
      refine W.lcmp hx hb dLa_law_1632 ?_
      refine lv_if_eq (tgt := 1638) hx hb dLa_law_1633 rfl (fun _ => ?_) (fun h => absurd ((lg_cmp_0 _ _).mpr (rfl)) h)
      refine lv_goto (tgt := 1641) hx hb dLa_law_1638 rfl ?_
      refine lv_iinc (v := nI (9 * (j + 1))) (lv' := [(4, .int (nI (9 * (j + 1)))), (6, .int (nI nq)), (5, .int (nI 0)), (0, .ref b), (1, .ref ox), (2, .ref oy), (3, .ref oq)]) hx hb dLa_law_1641 hl (k := 6) rfl (nI_add (9 * j) 9) (by decide) rfl (fun ls hl => ?_)
      refine lv_goto (tgt := 23) hx hb dLa_law_1644 rfl ?_
      refine W.cs (cells' := 60 + 4 * (j + 1)) (slots' := 20000 + 20 * (j + 1)) (by omega) (by omega) ?_
      subst htl
      exact ih oh ol dp sh sl g e0 f0 mk c0 h0 l0 nq f dec q sz ch cl fs fv fw T (vp_updL fo 0 (nI nq).toInt64) (nI 0) fi se w0 w1 w2 ff gg mm ins sb per ph pl ss sv sw mk2 hp hh hl9 _ _ _ hdp1 hdp hR1 hR2 hR3 hR4 hP hD hS (lv_sub hl [3, 4, 5, 6, 0] rfl)
    · obtain ⟨c4, hc4, rfl⟩ : ∃ c4, c4 < 4 ∧ x1 = c4 + 4 := ⟨x1 - 4, by omega, by omega⟩
      obtain ⟨r1, r2, r3, r4, r5, r6, r7⟩ := hR1 c4 hc4
      have hP := P_perm (pmB [aJ G oq 1 fo, oC ox 7 [.ref oc, .ref ot, .ref oo, .ref oe, .ref op, .ref ocs, .ref ods, .long oh, .long ol], oC ot 6 [.int (nI dp), .long sh, .long sl], oC oc 1 [.ref owd, .long e0, .long f0], aI G owd 44 g, oC oo 2 [.ref om], aZ G om 512 mk, oC oe 4 [.long c0, .long h0, .long l0], oC op 5 [.ref ob, .int (nI nq)], aI G ob 229 f, aH G ocs 4 (fun j => some (kk j)), aQ G ods 256 dec, moC oy r th fi se (nI dp) sh sl (nI nq) oh ol w0 w1 w2, aI G (r 0) 256 ckS, aI G (r 1) 256 ckU, aI G (r 2) 176 (bN ff), aI G (r 3) 16 (bN gg), aI G (r 4) 16 (bN mm), aZ G (r 5) 256 ins, aZ G (r 6) 1024 sb, aI G (r 7) 4 per, aJ G (r 8) 4 ph, aJ G (r 9) 4 pl, aI G (r 10) 4 ss, aI G (r 11) 1024 sv, aI G (r 12) 1024 sw, aZ G (r 13) 512 mk2, aI G (r 14) 229 f, aI G (r 15) 1024 hp, aJ G (r 16) 1024 hh, aJ G (r 17) 1024 hl9] (chB G kk ks kv kw q sz ch cl fs fv fw) (decW G T) hc4) hP
      have hD := D_perm (pmB [aJ G oq 1 fo, oC ox 7 [.ref oc, .ref ot, .ref oo, .ref oe, .ref op, .ref ocs, .ref ods, .long oh, .long ol], oC ot 6 [.int (nI dp), .long sh, .long sl], oC oc 1 [.ref owd, .long e0, .long f0], aI G owd 44 g, oC oo 2 [.ref om], aZ G om 512 mk, oC oe 4 [.long c0, .long h0, .long l0], oC op 5 [.ref ob, .int (nI nq)], aI G ob 229 f, aH G ocs 4 (fun j => some (kk j)), aQ G ods 256 dec, moC oy r th fi se (nI dp) sh sl (nI nq) oh ol w0 w1 w2, aI G (r 0) 256 ckS, aI G (r 1) 256 ckU, aI G (r 2) 176 (bN ff), aI G (r 3) 16 (bN gg), aI G (r 4) 16 (bN mm), aZ G (r 5) 256 ins, aZ G (r 6) 1024 sb, aI G (r 7) 4 per, aJ G (r 8) 4 ph, aJ G (r 9) 4 pl, aI G (r 10) 4 ss, aI G (r 11) 1024 sv, aI G (r 12) 1024 sw, aZ G (r 13) 512 mk2, aI G (r 14) 229 f, aI G (r 15) 1024 hp, aJ G (r 16) 1024 hh, aJ G (r 17) 1024 hl9] (chB G kk ks kv kw q sz ch cl fs fv fw) (decW G T) hc4) hD
      have hP : va_P G.1 vwCl ([aJ G oq 1 fo, oC ox 7 [.ref oc, .ref ot, .ref oo, .ref oe, .ref op, .ref ocs, .ref ods, .long oh, .long ol], oC ot 6 [.int (nI dp), .long sh, .long sl], oC oc 1 [.ref owd, .long e0, .long f0], aI G owd 44 g, oC oo 2 [.ref om], aZ G om 512 mk, oC oe 4 [.long c0, .long h0, .long l0], oC op 5 [.ref ob, .int (nI nq)], aI G ob 229 f, aH G ocs 4 (fun j => some (kk j)), aQ G ods 256 dec, moC oy r th fi se (nI dp) sh sl (nI nq) oh ol w0 w1 w2, aI G (r 0) 256 ckS, aI G (r 1) 256 ckU, aI G (r 2) 176 (bN ff), aI G (r 3) 16 (bN gg), aI G (r 4) 16 (bN mm), aZ G (r 5) 256 ins, aZ G (r 6) 1024 sb, aI G (r 7) 4 per, aJ G (r 8) 4 ph, aJ G (r 9) 4 pl, aI G (r 10) 4 ss, aI G (r 11) 1024 sv, aI G (r 12) 1024 sw, aZ G (r 13) 512 mk2, aI G (r 14) 229 f, aI G (r 15) 1024 hp, aJ G (r 16) 1024 hh, aJ G (r 17) 1024 hl9, oC (kk c4) 0 [.ref (ks c4), .ref (kv c4), .ref (kw c4), .int (nI (q c4)), .int (nI (sz c4)), .long (ch c4), .long (cl c4)], aZ G (ks c4) 256 (fs c4), aI G (kv c4) 128 (fv c4), aI G (kw c4) 128 (fw c4)] ++ (chO (chB G kk ks kv kw q sz ch cl fs fv fw) c4 ++ decW G T)) H := hP
      have hD : va_D A ([aJ G oq 1 fo, oC ox 7 [.ref oc, .ref ot, .ref oo, .ref oe, .ref op, .ref ocs, .ref ods, .long oh, .long ol], oC ot 6 [.int (nI dp), .long sh, .long sl], oC oc 1 [.ref owd, .long e0, .long f0], aI G owd 44 g, oC oo 2 [.ref om], aZ G om 512 mk, oC oe 4 [.long c0, .long h0, .long l0], oC op 5 [.ref ob, .int (nI nq)], aI G ob 229 f, aH G ocs 4 (fun j => some (kk j)), aQ G ods 256 dec, moC oy r th fi se (nI dp) sh sl (nI nq) oh ol w0 w1 w2, aI G (r 0) 256 ckS, aI G (r 1) 256 ckU, aI G (r 2) 176 (bN ff), aI G (r 3) 16 (bN gg), aI G (r 4) 16 (bN mm), aZ G (r 5) 256 ins, aZ G (r 6) 1024 sb, aI G (r 7) 4 per, aJ G (r 8) 4 ph, aJ G (r 9) 4 pl, aI G (r 10) 4 ss, aI G (r 11) 1024 sv, aI G (r 12) 1024 sw, aZ G (r 13) 512 mk2, aI G (r 14) 229 f, aI G (r 15) 1024 hp, aJ G (r 16) 1024 hh, aJ G (r 17) 1024 hl9, oC (kk c4) 0 [.ref (ks c4), .ref (kv c4), .ref (kw c4), .int (nI (q c4)), .int (nI (sz c4)), .long (ch c4), .long (cl c4)], aZ G (ks c4) 256 (fs c4), aI G (kv c4) 128 (fv c4), aI G (kw c4) 128 (fw c4)] ++ (chO (chB G kk ks kv kw q sz ch cl fs fv fw) c4 ++ decW G T)) := hD
      generalize htl : (chO (chB G kk ks kv kw q sz ch cl fs fv fw) c4 ++ decW G T) = tl at hP hD
      refine lv_aload_n hx hb dLa_law_1585 rfl (lv_at hl 1 rfl) ?_
      refine lv_aload_n hx hb dLa_law_1586 rfl (lv_at hl 0 rfl) ?_
      refine lv_iload hx hb dLa_law_1587 (lv_at hl 4 rfl) ?_
      refine lv_iconst (v := nI 1) hx hb dLa_law_1589 (by decide) ?_
      refine lv_iadd hx hb dLa_law_1590 ?_
      refine ck_sld hx hb hX hbl hbA hS (9 * j + 1) (nI_add _ _) (by omega) (by omega) hy1 dLa_law_1591 ?_
      refine lv_aload_n hx hb dLa_law_1592 rfl (lv_at hl 3 rfl) ?_
      refine clLa_147 (As := [.ref ox, .int (nI (c4 + 4)), .ref oq]) (rest := []) hx hb hml hown hts (w_La_count l G ox oq (nI (c4 + 4)) fo _ (k_CK_count4 l G ox oc ot oo oe op ocs ods oh ol kk (ks c4) (kv c4) (kw c4) c4 hc4 (nI (q c4)) (nI (sz c4)) (ch c4) (cl c4)) rfl (fun _ => rfl)) hG hA hP hD hS [0, 1, 10, 31] rfl rfl (fun _ => rfl) rfl hl.1 rfl (Nat.le_of_ble_eq_true rfl) ⟨Nat.le_of_ble_eq_true rfl, Nat.le_of_ble_eq_true rfl⟩ ⟨Nat.le_trans (Nat.add_le_add_left (Nat.le_of_ble_eq_true rfl) _) hcf.1, Nat.le_trans (Nat.add_le_add_left (Nat.le_of_ble_eq_true rfl) _) hcf.2⟩ dLa_law_1593 (fun _ H locs _ hP hD hS => ?_)
      have hP : va_P G.1 vwCl ([aJ G oq 1 (vp_updL fo 0 (nI (q c4)).toInt64), oC ox 7 [.ref oc, .ref ot, .ref oo, .ref oe, .ref op, .ref ocs, .ref ods, .long oh, .long ol], oC ot 6 [.int (nI dp), .long sh, .long sl], oC oc 1 [.ref owd, .long e0, .long f0], aI G owd 44 g, oC oo 2 [.ref om], aZ G om 512 mk, oC oe 4 [.long c0, .long h0, .long l0], oC op 5 [.ref ob, .int (nI nq)], aI G ob 229 f, aH G ocs 4 (fun j => some (kk j)), aQ G ods 256 dec, moC oy r th fi se (nI dp) sh sl (nI nq) oh ol w0 w1 w2, aI G (r 0) 256 ckS, aI G (r 1) 256 ckU, aI G (r 2) 176 (bN ff), aI G (r 3) 16 (bN gg), aI G (r 4) 16 (bN mm), aZ G (r 5) 256 ins, aZ G (r 6) 1024 sb, aI G (r 7) 4 per, aJ G (r 8) 4 ph, aJ G (r 9) 4 pl, aI G (r 10) 4 ss, aI G (r 11) 1024 sv, aI G (r 12) 1024 sw, aZ G (r 13) 512 mk2, aI G (r 14) 229 f, aI G (r 15) 1024 hp, aJ G (r 16) 1024 hh, aJ G (r 17) 1024 hl9, oC (kk c4) 0 [.ref (ks c4), .ref (kv c4), .ref (kw c4), .int (nI (q c4)), .int (nI (sz c4)), .long (ch c4), .long (cl c4)], aZ G (ks c4) 256 (fs c4), aI G (kv c4) 128 (fv c4), aI G (kw c4) 128 (fw c4)] ++ tl) H := hP
      have hD : va_D A ([aJ G oq 1 (vp_updL fo 0 (nI (q c4)).toInt64), oC ox 7 [.ref oc, .ref ot, .ref oo, .ref oe, .ref op, .ref ocs, .ref ods, .long oh, .long ol], oC ot 6 [.int (nI dp), .long sh, .long sl], oC oc 1 [.ref owd, .long e0, .long f0], aI G owd 44 g, oC oo 2 [.ref om], aZ G om 512 mk, oC oe 4 [.long c0, .long h0, .long l0], oC op 5 [.ref ob, .int (nI nq)], aI G ob 229 f, aH G ocs 4 (fun j => some (kk j)), aQ G ods 256 dec, moC oy r th fi se (nI dp) sh sl (nI nq) oh ol w0 w1 w2, aI G (r 0) 256 ckS, aI G (r 1) 256 ckU, aI G (r 2) 176 (bN ff), aI G (r 3) 16 (bN gg), aI G (r 4) 16 (bN mm), aZ G (r 5) 256 ins, aZ G (r 6) 1024 sb, aI G (r 7) 4 per, aJ G (r 8) 4 ph, aJ G (r 9) 4 pl, aI G (r 10) 4 ss, aI G (r 11) 1024 sv, aI G (r 12) 1024 sw, aZ G (r 13) 512 mk2, aI G (r 14) 229 f, aI G (r 15) 1024 hp, aJ G (r 16) 1024 hh, aJ G (r 17) 1024 hl9, oC (kk c4) 0 [.ref (ks c4), .ref (kv c4), .ref (kw c4), .int (nI (q c4)), .int (nI (sz c4)), .long (ch c4), .long (cl c4)], aZ G (ks c4) 256 (fs c4), aI G (kv c4) 128 (fv c4), aI G (kw c4) 128 (fw c4)] ++ tl) := hD
      refine W.widen (k := 60 + 4 * j + 4) (n := 20000 + 20 * j + 20) (Nat.add_le_add_left (Nat.le_of_ble_eq_true rfl) _) (Nat.add_le_add_left (Nat.le_of_ble_eq_true rfl) _) ?_
      refine W.eq (g2 := F0 m 1596 ls [.int (nI 0)]) rfl ?_
      refine lv_istore (lv' := [(5, .int (nI 0)), (0, .ref b), (1, .ref ox), (2, .ref oy), (3, .ref oq), (4, .int (nI (9 * j)))]) hx hb dLa_law_1596 hl (by decide) rfl (fun ls hl => ?_)
      refine lv_aload_n hx hb dLa_law_1598 rfl (lv_at hl 3 rfl) ?_
      refine lv_aload_n hx hb dLa_law_1599 rfl (lv_at hl 1 rfl) ?_
      refine lv_iload hx hb dLa_law_1600 (lv_at hl 5 rfl) ?_
      refine lv_iconst (v := nI 1) hx hb dLa_law_1602 (by decide) ?_
      refine lv_iadd hx hb dLa_law_1603 ?_
      refine ck_sld hx hb hX hbl hbA hS (9 * j + 1) (nI_add _ _) (by omega) (by omega) hy1 dLa_law_1604 ?_
      refine clLa_149 (As := [.int (nI (c4 + 4))]) (rest := []) hx hb hml hown hts (k_Mo_count l G oy r th fi se (nI dp) sh sl (nI nq) oh ol w0 w1 w2 ins sb per (c4 + 4) (by omega)) hG hA hP hD hS 12 rfl [12, 18, 19, 20] rfl rfl (fun _ => rfl) rfl hl.1 rfl (Nat.le_of_ble_eq_true rfl) ⟨Nat.le_of_ble_eq_true rfl, Nat.le_of_ble_eq_true rfl⟩ ⟨hcf.1, hcf.2⟩ dLa_law_1605 (fun _ H locs _ hP hD hS => ?_)
      have hP : va_P G.1 vwCl ([aJ G oq 1 (vp_updL fo 0 (nI (q c4)).toInt64), oC ox 7 [.ref oc, .ref ot, .ref oo, .ref oe, .ref op, .ref ocs, .ref ods, .long oh, .long ol], oC ot 6 [.int (nI dp), .long sh, .long sl], oC oc 1 [.ref owd, .long e0, .long f0], aI G owd 44 g, oC oo 2 [.ref om], aZ G om 512 mk, oC oe 4 [.long c0, .long h0, .long l0], oC op 5 [.ref ob, .int (nI nq)], aI G ob 229 f, aH G ocs 4 (fun j => some (kk j)), aQ G ods 256 dec, moC oy r (nI 0) fi se (nI dp) sh sl (nI nq) oh ol w0 w1 w2, aI G (r 0) 256 ckS, aI G (r 1) 256 ckU, aI G (r 2) 176 (bN ff), aI G (r 3) 16 (bN gg), aI G (r 4) 16 (bN mm), aZ G (r 5) 256 ins, aZ G (r 6) 1024 sb, aI G (r 7) 4 per, aJ G (r 8) 4 ph, aJ G (r 9) 4 pl, aI G (r 10) 4 ss, aI G (r 11) 1024 sv, aI G (r 12) 1024 sw, aZ G (r 13) 512 mk2, aI G (r 14) 229 f, aI G (r 15) 1024 hp, aJ G (r 16) 1024 hh, aJ G (r 17) 1024 hl9, oC (kk c4) 0 [.ref (ks c4), .ref (kv c4), .ref (kw c4), .int (nI (q c4)), .int (nI (sz c4)), .long (ch c4), .long (cl c4)], aZ G (ks c4) 256 (fs c4), aI G (kv c4) 128 (fv c4), aI G (kw c4) 128 (fw c4)] ++ tl) H := hP
      have hD : va_D A ([aJ G oq 1 (vp_updL fo 0 (nI (q c4)).toInt64), oC ox 7 [.ref oc, .ref ot, .ref oo, .ref oe, .ref op, .ref ocs, .ref ods, .long oh, .long ol], oC ot 6 [.int (nI dp), .long sh, .long sl], oC oc 1 [.ref owd, .long e0, .long f0], aI G owd 44 g, oC oo 2 [.ref om], aZ G om 512 mk, oC oe 4 [.long c0, .long h0, .long l0], oC op 5 [.ref ob, .int (nI nq)], aI G ob 229 f, aH G ocs 4 (fun j => some (kk j)), aQ G ods 256 dec, moC oy r (nI 0) fi se (nI dp) sh sl (nI nq) oh ol w0 w1 w2, aI G (r 0) 256 ckS, aI G (r 1) 256 ckU, aI G (r 2) 176 (bN ff), aI G (r 3) 16 (bN gg), aI G (r 4) 16 (bN mm), aZ G (r 5) 256 ins, aZ G (r 6) 1024 sb, aI G (r 7) 4 per, aJ G (r 8) 4 ph, aJ G (r 9) 4 pl, aI G (r 10) 4 ss, aI G (r 11) 1024 sv, aI G (r 12) 1024 sw, aZ G (r 13) 512 mk2, aI G (r 14) 229 f, aI G (r 15) 1024 hp, aJ G (r 16) 1024 hh, aJ G (r 17) 1024 hl9, oC (kk c4) 0 [.ref (ks c4), .ref (kv c4), .ref (kw c4), .int (nI (q c4)), .int (nI (sz c4)), .long (ch c4), .long (cl c4)], aZ G (ks c4) 256 (fs c4), aI G (kv c4) 128 (fv c4), aI G (kw c4) 128 (fw c4)] ++ tl) := hD
      refine W.cs (cells' := 60 + 4 * j + 4) (slots' := 20000 + 20 * j + 20) rfl rfl ?_
      refine W.eq (g2 := F0 m 1608 ls [.int (rCnt (nI dp) (nI nq) ins sb per (c4 + 4))]) rfl ?_
      refine ck_ri (y := nI (q c4)) (by show per (c4 + 4 - 4) = _; rw [Nat.add_sub_cancel]; exact r1) ?_
      refine lv_istore (lv' := [(6, .int (nI (q c4))), (5, .int (nI 0)), (0, .ref b), (1, .ref ox), (2, .ref oy), (3, .ref oq), (4, .int (nI (9 * j)))]) hx hb dLa_law_1608 hl (by decide) rfl (fun ls hl => ?_)
      refine lv_aload_n hx hb dLa_law_1610 rfl (lv_at hl 4 rfl) ?_
      refine clLa_88 (As := []) (rest := []) hx hb hml hown hts (k_Mo_thrown l G oy r (nI 0) fi se (nI dp) sh sl (nI nq) oh ol w0 w1 w2) hG hA hP hD hS 12 rfl [12] rfl rfl (fun _ => rfl) rfl hl.1 rfl (Nat.le_of_ble_eq_true rfl) ⟨Nat.le_of_ble_eq_true rfl, Nat.le_of_ble_eq_true rfl⟩ ⟨hcf.1, hcf.2⟩ dLa_law_1611 (fun _ H locs _ hP hD hS => ?_)
      have hP : va_P G.1 vwCl ([aJ G oq 1 (vp_updL fo 0 (nI (q c4)).toInt64), oC ox 7 [.ref oc, .ref ot, .ref oo, .ref oe, .ref op, .ref ocs, .ref ods, .long oh, .long ol], oC ot 6 [.int (nI dp), .long sh, .long sl], oC oc 1 [.ref owd, .long e0, .long f0], aI G owd 44 g, oC oo 2 [.ref om], aZ G om 512 mk, oC oe 4 [.long c0, .long h0, .long l0], oC op 5 [.ref ob, .int (nI nq)], aI G ob 229 f, aH G ocs 4 (fun j => some (kk j)), aQ G ods 256 dec, moC oy r (nI 0) fi se (nI dp) sh sl (nI nq) oh ol w0 w1 w2, aI G (r 0) 256 ckS, aI G (r 1) 256 ckU, aI G (r 2) 176 (bN ff), aI G (r 3) 16 (bN gg), aI G (r 4) 16 (bN mm), aZ G (r 5) 256 ins, aZ G (r 6) 1024 sb, aI G (r 7) 4 per, aJ G (r 8) 4 ph, aJ G (r 9) 4 pl, aI G (r 10) 4 ss, aI G (r 11) 1024 sv, aI G (r 12) 1024 sw, aZ G (r 13) 512 mk2, aI G (r 14) 229 f, aI G (r 15) 1024 hp, aJ G (r 16) 1024 hh, aJ G (r 17) 1024 hl9, oC (kk c4) 0 [.ref (ks c4), .ref (kv c4), .ref (kw c4), .int (nI (q c4)), .int (nI (sz c4)), .long (ch c4), .long (cl c4)], aZ G (ks c4) 256 (fs c4), aI G (kv c4) 128 (fv c4), aI G (kw c4) 128 (fw c4)] ++ tl) H := hP
      have hD : va_D A ([aJ G oq 1 (vp_updL fo 0 (nI (q c4)).toInt64), oC ox 7 [.ref oc, .ref ot, .ref oo, .ref oe, .ref op, .ref ocs, .ref ods, .long oh, .long ol], oC ot 6 [.int (nI dp), .long sh, .long sl], oC oc 1 [.ref owd, .long e0, .long f0], aI G owd 44 g, oC oo 2 [.ref om], aZ G om 512 mk, oC oe 4 [.long c0, .long h0, .long l0], oC op 5 [.ref ob, .int (nI nq)], aI G ob 229 f, aH G ocs 4 (fun j => some (kk j)), aQ G ods 256 dec, moC oy r (nI 0) fi se (nI dp) sh sl (nI nq) oh ol w0 w1 w2, aI G (r 0) 256 ckS, aI G (r 1) 256 ckU, aI G (r 2) 176 (bN ff), aI G (r 3) 16 (bN gg), aI G (r 4) 16 (bN mm), aZ G (r 5) 256 ins, aZ G (r 6) 1024 sb, aI G (r 7) 4 per, aJ G (r 8) 4 ph, aJ G (r 9) 4 pl, aI G (r 10) 4 ss, aI G (r 11) 1024 sv, aI G (r 12) 1024 sw, aZ G (r 13) 512 mk2, aI G (r 14) 229 f, aI G (r 15) 1024 hp, aJ G (r 16) 1024 hh, aJ G (r 17) 1024 hl9, oC (kk c4) 0 [.ref (ks c4), .ref (kv c4), .ref (kw c4), .int (nI (q c4)), .int (nI (sz c4)), .long (ch c4), .long (cl c4)], aZ G (ks c4) 256 (fs c4), aI G (kv c4) 128 (fv c4), aI G (kw c4) 128 (fw c4)] ++ tl) := hD
      refine W.cs (cells' := 60 + 4 * j + 4) (slots' := 20000 + 20 * j + 20) rfl rfl ?_
      refine W.eq (g2 := F0 m 1614 ls [.int (nI 0)]) rfl ?_
      refine lv_iload hx hb dLa_law_1614 (lv_at hl 1 rfl) ?_
      refine lv_icmp_eq (tgt := 1621) hx hb dLa_law_1616 rfl (fun _ => ?_) (fun h => absurd (rfl) h)
      refine lv_iload hx hb dLa_law_1621 (lv_at hl 1 rfl) ?_
      refine lv_if_ne (tgt := 1638) hx hb dLa_law_1623 rfl (fun h => absurd (rfl) h) (fun _ => ?_)
      refine lv_aload_n hx hb dLa_law_1626 rfl (lv_at hl 5 rfl) ?_
      refine lv_iconst (v := nI 0) hx hb dLa_law_1627 (by decide) ?_
      refine ck_lald hx hb hG hP 0 rfl (by decide) 0 (rfl) (by decide) dLa_law_1628 ?_
      refine ck_rl (y := (nI (q c4)).toInt64) (rfl) ?_
      refine lv_iload hx hb dLa_law_1629 (lv_at hl 0 rfl) ?_
      refine lv_i2l (v := (nI (q c4)).toInt64) hx hb dLa_law_1631 rfl ?_
      refine W.lcmp hx hb dLa_law_1632 ?_
      refine lv_if_eq (tgt := 1638) hx hb dLa_law_1633 rfl (fun _ => ?_) (fun h => absurd ((lg_cmp_0 _ _).mpr (rfl)) h)
      refine lv_goto (tgt := 1641) hx hb dLa_law_1638 rfl ?_
      refine lv_iinc (v := nI (9 * (j + 1))) (lv' := [(4, .int (nI (9 * (j + 1)))), (6, .int (nI (q c4))), (5, .int (nI 0)), (0, .ref b), (1, .ref ox), (2, .ref oy), (3, .ref oq)]) hx hb dLa_law_1641 hl (k := 6) rfl (nI_add (9 * j) 9) (by decide) rfl (fun ls hl => ?_)
      refine lv_goto (tgt := 23) hx hb dLa_law_1644 rfl ?_
      refine W.cs (cells' := 60 + 4 * (j + 1)) (slots' := 20000 + 20 * (j + 1)) (by omega) (by omega) ?_
      subst htl
      have hP := P_perm (pmB' (B := chB G kk ks kv kw q sz ch cl fs fv fw) (B' := chB G kk ks kv kw q sz ch cl fs fv fw) [aJ G oq 1 (vp_updL fo 0 (nI (q c4)).toInt64), oC ox 7 [.ref oc, .ref ot, .ref oo, .ref oe, .ref op, .ref ocs, .ref ods, .long oh, .long ol], oC ot 6 [.int (nI dp), .long sh, .long sl], oC oc 1 [.ref owd, .long e0, .long f0], aI G owd 44 g, oC oo 2 [.ref om], aZ G om 512 mk, oC oe 4 [.long c0, .long h0, .long l0], oC op 5 [.ref ob, .int (nI nq)], aI G ob 229 f, aH G ocs 4 (fun j => some (kk j)), aQ G ods 256 dec, moC oy r (nI 0) fi se (nI dp) sh sl (nI nq) oh ol w0 w1 w2, aI G (r 0) 256 ckS, aI G (r 1) 256 ckU, aI G (r 2) 176 (bN ff), aI G (r 3) 16 (bN gg), aI G (r 4) 16 (bN mm), aZ G (r 5) 256 ins, aZ G (r 6) 1024 sb, aI G (r 7) 4 per, aJ G (r 8) 4 ph, aJ G (r 9) 4 pl, aI G (r 10) 4 ss, aI G (r 11) 1024 sv, aI G (r 12) 1024 sw, aZ G (r 13) 512 mk2, aI G (r 14) 229 f, aI G (r 15) 1024 hp, aJ G (r 16) 1024 hh, aJ G (r 17) 1024 hl9] (decW G T) hc4 (fun _ _ _ => rfl)) hP
      have hD := D_perm (pmB' (B := chB G kk ks kv kw q sz ch cl fs fv fw) (B' := chB G kk ks kv kw q sz ch cl fs fv fw) [aJ G oq 1 (vp_updL fo 0 (nI (q c4)).toInt64), oC ox 7 [.ref oc, .ref ot, .ref oo, .ref oe, .ref op, .ref ocs, .ref ods, .long oh, .long ol], oC ot 6 [.int (nI dp), .long sh, .long sl], oC oc 1 [.ref owd, .long e0, .long f0], aI G owd 44 g, oC oo 2 [.ref om], aZ G om 512 mk, oC oe 4 [.long c0, .long h0, .long l0], oC op 5 [.ref ob, .int (nI nq)], aI G ob 229 f, aH G ocs 4 (fun j => some (kk j)), aQ G ods 256 dec, moC oy r (nI 0) fi se (nI dp) sh sl (nI nq) oh ol w0 w1 w2, aI G (r 0) 256 ckS, aI G (r 1) 256 ckU, aI G (r 2) 176 (bN ff), aI G (r 3) 16 (bN gg), aI G (r 4) 16 (bN mm), aZ G (r 5) 256 ins, aZ G (r 6) 1024 sb, aI G (r 7) 4 per, aJ G (r 8) 4 ph, aJ G (r 9) 4 pl, aI G (r 10) 4 ss, aI G (r 11) 1024 sv, aI G (r 12) 1024 sw, aZ G (r 13) 512 mk2, aI G (r 14) 229 f, aI G (r 15) 1024 hp, aJ G (r 16) 1024 hh, aJ G (r 17) 1024 hl9] (decW G T) hc4 (fun _ _ _ => rfl)) hD
      exact ih oh ol dp sh sl g e0 f0 mk c0 h0 l0 nq f dec q sz ch cl fs fv fw T (vp_updL fo 0 (nI (q c4)).toInt64) (nI 0) fi se w0 w1 w2 ff gg mm ins sb per ph pl ss sv sw mk2 hp hh hl9 _ _ _ hdp1 hdp hR1 hR2 hR3 hR4 hP hD hS (lv_sub hl [3, 4, 5, 6, 0] rfl)
  · have hP : va_P G.1 vwCl ([aJ G oq 1 fo, oC ox 7 [.ref oc, .ref ot, .ref oo, .ref oe, .ref op, .ref ocs, .ref ods, .long oh, .long ol], oC ot 6 [.int (nI dp), .long sh, .long sl], oC oc 1 [.ref owd, .long e0, .long f0], aI G owd 44 g, oC oo 2 [.ref om], aZ G om 512 mk, oC oe 4 [.long c0, .long h0, .long l0], oC op 5 [.ref ob, .int (nI nq)], aI G ob 229 f, aH G ocs 4 (fun j => some (kk j)), aQ G ods 256 dec, moC oy r th fi se (nI dp) sh sl (nI nq) oh ol w0 w1 w2, aI G (r 0) 256 ckS, aI G (r 1) 256 ckU, aI G (r 2) 176 (bN ff), aI G (r 3) 16 (bN gg), aI G (r 4) 16 (bN mm), aZ G (r 5) 256 ins, aZ G (r 6) 1024 sb, aI G (r 7) 4 per, aJ G (r 8) 4 ph, aJ G (r 9) 4 pl, aI G (r 10) 4 ss, aI G (r 11) 1024 sv, aI G (r 12) 1024 sw, aZ G (r 13) 512 mk2, aI G (r 14) 229 f, aI G (r 15) 1024 hp, aJ G (r 16) 1024 hh, aJ G (r 17) 1024 hl9] ++ (chA (chB G kk ks kv kw q sz ch cl fs fv fw) ++ decW G T)) H := hP
    have hD : va_D A ([aJ G oq 1 fo, oC ox 7 [.ref oc, .ref ot, .ref oo, .ref oe, .ref op, .ref ocs, .ref ods, .long oh, .long ol], oC ot 6 [.int (nI dp), .long sh, .long sl], oC oc 1 [.ref owd, .long e0, .long f0], aI G owd 44 g, oC oo 2 [.ref om], aZ G om 512 mk, oC oe 4 [.long c0, .long h0, .long l0], oC op 5 [.ref ob, .int (nI nq)], aI G ob 229 f, aH G ocs 4 (fun j => some (kk j)), aQ G ods 256 dec, moC oy r th fi se (nI dp) sh sl (nI nq) oh ol w0 w1 w2, aI G (r 0) 256 ckS, aI G (r 1) 256 ckU, aI G (r 2) 176 (bN ff), aI G (r 3) 16 (bN gg), aI G (r 4) 16 (bN mm), aZ G (r 5) 256 ins, aZ G (r 6) 1024 sb, aI G (r 7) 4 per, aJ G (r 8) 4 ph, aJ G (r 9) 4 pl, aI G (r 10) 4 ss, aI G (r 11) 1024 sv, aI G (r 12) 1024 sw, aZ G (r 13) 512 mk2, aI G (r 14) 229 f, aI G (r 15) 1024 hp, aJ G (r 16) 1024 hh, aJ G (r 17) 1024 hl9] ++ (chA (chB G kk ks kv kw q sz ch cl fs fv fw) ++ decW G T)) := hD
    generalize htl : (chA (chB G kk ks kv kw q sz ch cl fs fv fw) ++ decW G T) = tl at hP hD
    refine lv_aload_n hx hb dLa_law_1585 rfl (lv_at hl 1 rfl) ?_
    refine lv_aload_n hx hb dLa_law_1586 rfl (lv_at hl 0 rfl) ?_
    refine lv_iload hx hb dLa_law_1587 (lv_at hl 4 rfl) ?_
    refine lv_iconst (v := nI 1) hx hb dLa_law_1589 (by decide) ?_
    refine lv_iadd hx hb dLa_law_1590 ?_
    refine ck_sld hx hb hX hbl hbA hS (9 * j + 1) (nI_add _ _) (by omega) (by omega) hy1 dLa_law_1591 ?_
    refine lv_aload_n hx hb dLa_law_1592 rfl (lv_at hl 3 rfl) ?_
    refine clLa_147 (As := [.ref ox, .int y1, .ref oq]) (rest := []) hx hb hml hown hts (w_La_count_IAE (wi := [oC ox 7 [.ref oc, .ref ot, .ref oo, .ref oe, .ref op, .ref ocs, .ref ods, .long oh, .long ol]]) l G ox oq y1 (x_CK_count l hl0 G ox y1 hc) 0 rfl [] rfl rfl rfl) hG hA hP hD hS [1] rfl rfl (fun _ => rfl) rfl hl.1 rfl (Nat.le_of_ble_eq_true rfl) ⟨Nat.le_of_ble_eq_true rfl, Nat.le_of_ble_eq_true rfl⟩ ⟨Nat.le_trans (Nat.add_le_add_left (Nat.le_of_ble_eq_true rfl) _) hcf.1, Nat.le_trans (Nat.add_le_add_left (Nat.le_of_ble_eq_true rfl) _) hcf.2⟩ dLa_law_1593 (fun _ H locs _ hP hD hS => ?_)
    have hP : va_P G.1 vwCl ([aJ G oq 1 fo, oC ox 7 [.ref oc, .ref ot, .ref oo, .ref oe, .ref op, .ref ocs, .ref ods, .long oh, .long ol], oC ot 6 [.int (nI dp), .long sh, .long sl], oC oc 1 [.ref owd, .long e0, .long f0], aI G owd 44 g, oC oo 2 [.ref om], aZ G om 512 mk, oC oe 4 [.long c0, .long h0, .long l0], oC op 5 [.ref ob, .int (nI nq)], aI G ob 229 f, aH G ocs 4 (fun j => some (kk j)), aQ G ods 256 dec, moC oy r th fi se (nI dp) sh sl (nI nq) oh ol w0 w1 w2, aI G (r 0) 256 ckS, aI G (r 1) 256 ckU, aI G (r 2) 176 (bN ff), aI G (r 3) 16 (bN gg), aI G (r 4) 16 (bN mm), aZ G (r 5) 256 ins, aZ G (r 6) 1024 sb, aI G (r 7) 4 per, aJ G (r 8) 4 ph, aJ G (r 9) 4 pl, aI G (r 10) 4 ss, aI G (r 11) 1024 sv, aI G (r 12) 1024 sw, aZ G (r 13) 512 mk2, aI G (r 14) 229 f, aI G (r 15) 1024 hp, aJ G (r 16) 1024 hh, aJ G (r 17) 1024 hl9] ++ tl) H := hP
    have hD : va_D A ([aJ G oq 1 fo, oC ox 7 [.ref oc, .ref ot, .ref oo, .ref oe, .ref op, .ref ocs, .ref ods, .long oh, .long ol], oC ot 6 [.int (nI dp), .long sh, .long sl], oC oc 1 [.ref owd, .long e0, .long f0], aI G owd 44 g, oC oo 2 [.ref om], aZ G om 512 mk, oC oe 4 [.long c0, .long h0, .long l0], oC op 5 [.ref ob, .int (nI nq)], aI G ob 229 f, aH G ocs 4 (fun j => some (kk j)), aQ G ods 256 dec, moC oy r th fi se (nI dp) sh sl (nI nq) oh ol w0 w1 w2, aI G (r 0) 256 ckS, aI G (r 1) 256 ckU, aI G (r 2) 176 (bN ff), aI G (r 3) 16 (bN gg), aI G (r 4) 16 (bN mm), aZ G (r 5) 256 ins, aZ G (r 6) 1024 sb, aI G (r 7) 4 per, aJ G (r 8) 4 ph, aJ G (r 9) 4 pl, aI G (r 10) 4 ss, aI G (r 11) 1024 sv, aI G (r 12) 1024 sw, aZ G (r 13) 512 mk2, aI G (r 14) 229 f, aI G (r 15) 1024 hp, aJ G (r 16) 1024 hh, aJ G (r 17) 1024 hl9] ++ tl) := hD
    refine W.widen (k := 60 + 4 * j + 4) (n := 20000 + 20 * j + 20) (Nat.add_le_add_left (Nat.le_of_ble_eq_true rfl) _) (Nat.add_le_add_left (Nat.le_of_ble_eq_true rfl) _) ?_
    refine W.eq (g2 := F0 m 1596 ls [.int (nI 1)]) rfl ?_
    refine lv_istore (lv' := [(5, .int (nI 1)), (0, .ref b), (1, .ref ox), (2, .ref oy), (3, .ref oq), (4, .int (nI (9 * j)))]) hx hb dLa_law_1596 hl (by decide) rfl (fun ls hl => ?_)
    refine lv_aload_n hx hb dLa_law_1598 rfl (lv_at hl 3 rfl) ?_
    refine lv_aload_n hx hb dLa_law_1599 rfl (lv_at hl 1 rfl) ?_
    refine lv_iload hx hb dLa_law_1600 (lv_at hl 5 rfl) ?_
    refine lv_iconst (v := nI 1) hx hb dLa_law_1602 (by decide) ?_
    refine lv_iadd hx hb dLa_law_1603 ?_
    refine ck_sld hx hb hX hbl hbA hS (9 * j + 1) (nI_add _ _) (by omega) (by omega) hy1 dLa_law_1604 ?_
    refine clLa_149 (As := [.int y1]) (rest := []) hx hb hml hown hts (k_Mo_count_e l G oy r th fi se (nI dp) sh sl (nI nq) oh ol w0 w1 w2 y1 hc) hG hA hP hD hS 12 rfl [12] rfl rfl (fun _ => rfl) rfl hl.1 rfl (Nat.le_of_ble_eq_true rfl) ⟨Nat.le_of_ble_eq_true rfl, Nat.le_of_ble_eq_true rfl⟩ ⟨hcf.1, hcf.2⟩ dLa_law_1605 (fun _ H locs _ hP hD hS => ?_)
    have hP : va_P G.1 vwCl ([aJ G oq 1 fo, oC ox 7 [.ref oc, .ref ot, .ref oo, .ref oe, .ref op, .ref ocs, .ref ods, .long oh, .long ol], oC ot 6 [.int (nI dp), .long sh, .long sl], oC oc 1 [.ref owd, .long e0, .long f0], aI G owd 44 g, oC oo 2 [.ref om], aZ G om 512 mk, oC oe 4 [.long c0, .long h0, .long l0], oC op 5 [.ref ob, .int (nI nq)], aI G ob 229 f, aH G ocs 4 (fun j => some (kk j)), aQ G ods 256 dec, moC oy r (nI 1) fi se (nI dp) sh sl (nI nq) oh ol w0 w1 w2, aI G (r 0) 256 ckS, aI G (r 1) 256 ckU, aI G (r 2) 176 (bN ff), aI G (r 3) 16 (bN gg), aI G (r 4) 16 (bN mm), aZ G (r 5) 256 ins, aZ G (r 6) 1024 sb, aI G (r 7) 4 per, aJ G (r 8) 4 ph, aJ G (r 9) 4 pl, aI G (r 10) 4 ss, aI G (r 11) 1024 sv, aI G (r 12) 1024 sw, aZ G (r 13) 512 mk2, aI G (r 14) 229 f, aI G (r 15) 1024 hp, aJ G (r 16) 1024 hh, aJ G (r 17) 1024 hl9] ++ tl) H := hP
    have hD : va_D A ([aJ G oq 1 fo, oC ox 7 [.ref oc, .ref ot, .ref oo, .ref oe, .ref op, .ref ocs, .ref ods, .long oh, .long ol], oC ot 6 [.int (nI dp), .long sh, .long sl], oC oc 1 [.ref owd, .long e0, .long f0], aI G owd 44 g, oC oo 2 [.ref om], aZ G om 512 mk, oC oe 4 [.long c0, .long h0, .long l0], oC op 5 [.ref ob, .int (nI nq)], aI G ob 229 f, aH G ocs 4 (fun j => some (kk j)), aQ G ods 256 dec, moC oy r (nI 1) fi se (nI dp) sh sl (nI nq) oh ol w0 w1 w2, aI G (r 0) 256 ckS, aI G (r 1) 256 ckU, aI G (r 2) 176 (bN ff), aI G (r 3) 16 (bN gg), aI G (r 4) 16 (bN mm), aZ G (r 5) 256 ins, aZ G (r 6) 1024 sb, aI G (r 7) 4 per, aJ G (r 8) 4 ph, aJ G (r 9) 4 pl, aI G (r 10) 4 ss, aI G (r 11) 1024 sv, aI G (r 12) 1024 sw, aZ G (r 13) 512 mk2, aI G (r 14) 229 f, aI G (r 15) 1024 hp, aJ G (r 16) 1024 hh, aJ G (r 17) 1024 hl9] ++ tl) := hD
    refine W.cs (cells' := 60 + 4 * j + 4) (slots' := 20000 + 20 * j + 20) rfl rfl ?_
    refine W.eq (g2 := F0 m 1608 ls [.int (nI 0)]) rfl ?_
    refine lv_istore (lv' := [(6, .int (nI 0)), (5, .int (nI 1)), (0, .ref b), (1, .ref ox), (2, .ref oy), (3, .ref oq), (4, .int (nI (9 * j)))]) hx hb dLa_law_1608 hl (by decide) rfl (fun ls hl => ?_)
    refine lv_aload_n hx hb dLa_law_1610 rfl (lv_at hl 4 rfl) ?_
    refine clLa_88 (As := []) (rest := []) hx hb hml hown hts (k_Mo_thrown l G oy r (nI 1) fi se (nI dp) sh sl (nI nq) oh ol w0 w1 w2) hG hA hP hD hS 12 rfl [12] rfl rfl (fun _ => rfl) rfl hl.1 rfl (Nat.le_of_ble_eq_true rfl) ⟨Nat.le_of_ble_eq_true rfl, Nat.le_of_ble_eq_true rfl⟩ ⟨hcf.1, hcf.2⟩ dLa_law_1611 (fun _ H locs _ hP hD hS => ?_)
    have hP : va_P G.1 vwCl ([aJ G oq 1 fo, oC ox 7 [.ref oc, .ref ot, .ref oo, .ref oe, .ref op, .ref ocs, .ref ods, .long oh, .long ol], oC ot 6 [.int (nI dp), .long sh, .long sl], oC oc 1 [.ref owd, .long e0, .long f0], aI G owd 44 g, oC oo 2 [.ref om], aZ G om 512 mk, oC oe 4 [.long c0, .long h0, .long l0], oC op 5 [.ref ob, .int (nI nq)], aI G ob 229 f, aH G ocs 4 (fun j => some (kk j)), aQ G ods 256 dec, moC oy r (nI 1) fi se (nI dp) sh sl (nI nq) oh ol w0 w1 w2, aI G (r 0) 256 ckS, aI G (r 1) 256 ckU, aI G (r 2) 176 (bN ff), aI G (r 3) 16 (bN gg), aI G (r 4) 16 (bN mm), aZ G (r 5) 256 ins, aZ G (r 6) 1024 sb, aI G (r 7) 4 per, aJ G (r 8) 4 ph, aJ G (r 9) 4 pl, aI G (r 10) 4 ss, aI G (r 11) 1024 sv, aI G (r 12) 1024 sw, aZ G (r 13) 512 mk2, aI G (r 14) 229 f, aI G (r 15) 1024 hp, aJ G (r 16) 1024 hh, aJ G (r 17) 1024 hl9] ++ tl) H := hP
    have hD : va_D A ([aJ G oq 1 fo, oC ox 7 [.ref oc, .ref ot, .ref oo, .ref oe, .ref op, .ref ocs, .ref ods, .long oh, .long ol], oC ot 6 [.int (nI dp), .long sh, .long sl], oC oc 1 [.ref owd, .long e0, .long f0], aI G owd 44 g, oC oo 2 [.ref om], aZ G om 512 mk, oC oe 4 [.long c0, .long h0, .long l0], oC op 5 [.ref ob, .int (nI nq)], aI G ob 229 f, aH G ocs 4 (fun j => some (kk j)), aQ G ods 256 dec, moC oy r (nI 1) fi se (nI dp) sh sl (nI nq) oh ol w0 w1 w2, aI G (r 0) 256 ckS, aI G (r 1) 256 ckU, aI G (r 2) 176 (bN ff), aI G (r 3) 16 (bN gg), aI G (r 4) 16 (bN mm), aZ G (r 5) 256 ins, aZ G (r 6) 1024 sb, aI G (r 7) 4 per, aJ G (r 8) 4 ph, aJ G (r 9) 4 pl, aI G (r 10) 4 ss, aI G (r 11) 1024 sv, aI G (r 12) 1024 sw, aZ G (r 13) 512 mk2, aI G (r 14) 229 f, aI G (r 15) 1024 hp, aJ G (r 16) 1024 hh, aJ G (r 17) 1024 hl9] ++ tl) := hD
    refine W.cs (cells' := 60 + 4 * j + 4) (slots' := 20000 + 20 * j + 20) rfl rfl ?_
    refine W.eq (g2 := F0 m 1614 ls [.int (nI 1)]) rfl ?_
    refine lv_iload hx hb dLa_law_1614 (lv_at hl 1 rfl) ?_
    refine lv_icmp_eq (tgt := 1621) hx hb dLa_law_1616 rfl (fun _ => ?_) (fun h => absurd (rfl) h)
    refine lv_iload hx hb dLa_law_1621 (lv_at hl 1 rfl) ?_
    refine lv_if_ne (tgt := 1638) hx hb dLa_law_1623 rfl (fun _ => ?_) (fun h => absurd h (by decide))
    refine lv_goto (tgt := 1641) hx hb dLa_law_1638 rfl ?_
    refine lv_iinc (v := nI (9 * (j + 1))) (lv' := [(4, .int (nI (9 * (j + 1)))), (6, .int (nI 0)), (5, .int (nI 1)), (0, .ref b), (1, .ref ox), (2, .ref oy), (3, .ref oq)]) hx hb dLa_law_1641 hl (k := 6) rfl (nI_add (9 * j) 9) (by decide) rfl (fun ls hl => ?_)
    refine lv_goto (tgt := 23) hx hb dLa_law_1644 rfl ?_
    refine W.cs (cells' := 60 + 4 * (j + 1)) (slots' := 20000 + 20 * (j + 1)) (by omega) (by omega) ?_
    subst htl
    exact ih oh ol dp sh sl g e0 f0 mk c0 h0 l0 nq f dec q sz ch cl fs fv fw T fo (nI 1) fi se w0 w1 w2 ff gg mm ins sb per ph pl ss sv sw mk2 hp hh hl9 _ _ _ hdp1 hdp hR1 hR2 hR3 hR4 hP hD hS (lv_sub hl [3, 4, 5, 6, 0] rfl)
