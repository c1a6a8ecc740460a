/-! my names: the words that hold everywhere (ckT), the nest's links (ckNest), methods, classes -/
def ckT : List Cond := lw_tbl.filter goodWord
theorem ck_m {w : Cond} (h : w ∈ tables_1) (g : goodWord w = true) : w ∈ ckT := List.mem_filter.mpr ⟨List.mem_append_right _ h, g⟩
theorem ck_m1 {w : Cond} (h : w ∈ tables_1_1) (g : goodWord w = true) : w ∈ ckT := ck_m (List.mem_append_left _ h) g
theorem ck_m2 {w : Cond} (h : w ∈ tables_1_2) (g : goodWord w = true) : w ∈ ckT := ck_m (List.mem_append_right _ (List.mem_append_left _ h)) g
theorem ck_m3 {w : Cond} (h : w ∈ tables_1_3) (g : goodWord w = true) : w ∈ ckT := ck_m (List.mem_append_right _ (List.mem_append_right _ (List.mem_append_left _ h))) g
theorem ck_m4 {w : Cond} (h : w ∈ tables_1_4) (g : goodWord w = true) : w ∈ ckT := ck_m (List.mem_append_right _ (List.mem_append_right _ (List.mem_append_right _ h))) g
theorem ck_ms {y : MethodName} {n : Nat} (h : (y, n) ∈ lw_privs) (g : goodWord (.selects y.cls y y) = true) : Cond.selects y.cls y y ∈ ckT := List.mem_filter.mpr ⟨List.mem_append_left _ (List.mem_map.mpr ⟨(y, n), h, rfl⟩), g⟩
theorem ck_gd {c c' : Cond} (h : c' ∈ ckT) : GoodIn (c :: ckT) (c' :: ckT) := by
  intro w hw
  have hm : w ∈ ckT := (List.mem_cons.mp hw).elim (fun e => by rw [e]; exact h) id
  exact ⟨List.mem_cons_of_mem _ hm, good_of_word (List.mem_filter.mp hm).2⟩
theorem ck_gd0 {c' : Cond} (h : c' ∈ ckT) : GoodIn ckT (c' :: ckT) := by
  intro w hw
  have hm : w ∈ ckT := (List.mem_cons.mp hw).elim (fun e => by rw [e]; exact h) id
  exact ⟨hm, good_of_word (List.mem_filter.mp hm).2⟩
abbrev yCK_init : MethodName := ⟨"CoverKeys", "<init>", "()V"⟩
abbrev cCK_init : ByteArray := prog_1_method_1_code
abbrev yCi_init : MethodName := ⟨"CoverKeys$Cipher", "<init>", "()V"⟩
abbrev cCi_init : ByteArray := prog_3_method_1_code
abbrev yTr_init : MethodName := ⟨"CoverKeys$Tree", "<init>", "()V"⟩
abbrev cTr_init : ByteArray := prog_8_method_1_code
abbrev yCo_init : MethodName := ⟨"CoverKeys$Cover", "<init>", "()V"⟩
abbrev cCo_init : ByteArray := prog_4_method_1_code
abbrev yEn_init : MethodName := ⟨"CoverKeys$Envelope", "<init>", "()V"⟩
abbrev cEn_init : ByteArray := prog_6_method_1_code
abbrev yPa_init : MethodName := ⟨"CoverKeys$Packet", "<init>", "()V"⟩
abbrev cPa_init : ByteArray := prog_7_method_1_code
abbrev yCh_init : MethodName := ⟨"CoverKeys$Channel", "<init>", "()V"⟩
abbrev cCh_init : ByteArray := prog_2_method_1_code
abbrev yTr_plant : MethodName := ⟨"CoverKeys$Tree", "plant", "(IJJ)V"⟩
abbrev cTr_plant : ByteArray := prog_8_method_2_code
abbrev yCK_out : MethodName := ⟨"CoverKeys", "out", "(Z)J"⟩
abbrev cCK_out : ByteArray := prog_1_method_13_code
abbrev yLa_begin : MethodName := ⟨"CoverKeysLaw", "begin", "(LCoverKeys;IJJ)I"⟩
abbrev cLa_begin : ByteArray := method_3_code
abbrev yCK_begin : MethodName := ⟨"CoverKeys", "begin", "(IJJ)V"⟩
abbrev cCK_begin : ByteArray := prog_1_method_2_code
abbrev yPa_clear : MethodName := ⟨"CoverKeys$Packet", "clear", "()V"⟩
abbrev cPa_clear : ByteArray := prog_7_method_2_code
abbrev yCh_clear : MethodName := ⟨"CoverKeys$Channel", "clear", "()V"⟩
abbrev cCh_clear : ByteArray := prog_2_method_2_code
abbrev yLa_install : MethodName := ⟨"CoverKeysLaw", "install", "(LCoverKeys;I[J)I"⟩
abbrev cLa_install : ByteArray := method_4_code
abbrev yCK_install : MethodName := ⟨"CoverKeys", "install", "(I)I"⟩
abbrev cCK_install : ByteArray := prog_1_method_3_code
abbrev yCK_checkDecoder : MethodName := ⟨"CoverKeys", "checkDecoder", "(I)V"⟩
abbrev cCK_checkDecoder : ByteArray := prog_1_method_21_code
abbrev yTr_leaves : MethodName := ⟨"CoverKeys$Tree", "leaves", "()I"⟩
abbrev cTr_leaves : ByteArray := prog_8_method_3_code
abbrev yDe_init : MethodName := ⟨"CoverKeys$Decoder", "<init>", "()V"⟩
abbrev cDe_init : ByteArray := prog_5_method_1_code
abbrev yTr_labelsEach : MethodName := ⟨"CoverKeys$Tree", "labelsEach", "()I"⟩
abbrev cTr_labelsEach : ByteArray := prog_8_method_4_code
abbrev yLa_subscribe : MethodName := ⟨"CoverKeysLaw", "subscribe", "(LCoverKeys;IIZ[J)I"⟩
abbrev cLa_subscribe : ByteArray := method_5_code
abbrev yCK_subscribe : MethodName := ⟨"CoverKeys", "subscribe", "(IIZ)Z"⟩
abbrev cCK_subscribe : ByteArray := prog_1_method_4_code
abbrev yCK_checkChannel : MethodName := ⟨"CoverKeys", "checkChannel", "(I)V"⟩
abbrev cCK_checkChannel : ByteArray := prog_1_method_20_code
abbrev yCK_isChannel : MethodName := ⟨"CoverKeys", "isChannel", "(I)Z"⟩
abbrev cCK_isChannel : ByteArray := prog_1_method_19_code
abbrev yLa_period : MethodName := ⟨"CoverKeysLaw", "period", "(LCoverKeys;IJJ[J)I"⟩
abbrev cLa_period : ByteArray := method_6_code
abbrev yCK_period : MethodName := ⟨"CoverKeys", "period", "(IJJ)I"⟩
abbrev cCK_period : ByteArray := prog_1_method_5_code
abbrev yCh_beginPeriod : MethodName := ⟨"CoverKeys$Channel", "beginPeriod", "(JJ)V"⟩
abbrev cCh_beginPeriod : ByteArray := prog_2_method_3_code
abbrev yCo_find : MethodName := ⟨"CoverKeys$Cover", "find", "(LCoverKeys$Tree;LCoverKeys$Channel;)V"⟩
abbrev cCo_find : ByteArray := prog_4_method_2_code
abbrev yCo_markNodes : MethodName := ⟨"CoverKeys$Cover", "markNodes", "(I[Z)V"⟩
abbrev cCo_markNodes : ByteArray := prog_4_method_3_code
abbrev yCh_addSubset : MethodName := ⟨"CoverKeys$Channel", "addSubset", "(II)V"⟩
abbrev cCh_addSubset : ByteArray := prog_2_method_4_code
abbrev yCo_lastBelow : MethodName := ⟨"CoverKeys$Cover", "lastBelow", "(II)I"⟩
abbrev cCo_lastBelow : ByteArray := prog_4_method_4_code
abbrev yLa_packet : MethodName := ⟨"CoverKeysLaw", "packet", "(LCoverKeys;II[J)I"⟩
abbrev cLa_packet : ByteArray := method_7_code
abbrev yCK_packet : MethodName := ⟨"CoverKeys", "packet", "(II)I"⟩
abbrev cCK_packet : ByteArray := prog_1_method_6_code
abbrev yCK_checkBegan : MethodName := ⟨"CoverKeys", "checkBegan", "(I)V"⟩
abbrev cCK_checkBegan : ByteArray := prog_1_method_23_code
abbrev yCh_packets : MethodName := ⟨"CoverKeys$Channel", "packets", "()I"⟩
abbrev cCh_packets : ByteArray := prog_2_method_5_code
abbrev yPa_put : MethodName := ⟨"CoverKeys$Packet", "put", "(JI)V"⟩
abbrev cPa_put : ByteArray := prog_7_method_3_code
abbrev yCK_putEntry : MethodName := ⟨"CoverKeys", "putEntry", "(LCoverKeys$Channel;I)V"⟩
abbrev cCK_putEntry : ByteArray := prog_1_method_25_code
abbrev yTr_findKey : MethodName := ⟨"CoverKeys$Tree", "findKey", "(LCoverKeys$Cipher;II)V"⟩
abbrev cTr_findKey : ByteArray := prog_8_method_13_code
abbrev yCi_setKey : MethodName := ⟨"CoverKeys$Cipher", "setKey", "(JJ)V"⟩
abbrev cCi_setKey : ByteArray := prog_3_method_2_code
abbrev yCi_turn : MethodName := ⟨"CoverKeys$Cipher", "turn", "(II)I"⟩
abbrev cCi_turn : ByteArray := prog_3_method_7_code
abbrev yCi_gather : MethodName := ⟨"CoverKeys$Cipher", "gather", "([IIIII)I"⟩
abbrev cCi_gather : ByteArray := prog_3_method_6_code
abbrev yCi_twice : MethodName := ⟨"CoverKeys$Cipher", "twice", "(I)I"⟩
abbrev cCi_twice : ByteArray := prog_3_method_8_code
abbrev yCi_encrypt : MethodName := ⟨"CoverKeys$Cipher", "encrypt", "(JJ)V"⟩
abbrev cCi_encrypt : ByteArray := prog_3_method_3_code
abbrev yCi_mix : MethodName := ⟨"CoverKeys$Cipher", "mix", "(I)I"⟩
abbrev cCi_mix : ByteArray := prog_3_method_9_code
abbrev yCi_keepBlock : MethodName := ⟨"CoverKeys$Cipher", "keepBlock", "(IIII)V"⟩
abbrev cCi_keepBlock : ByteArray := prog_3_method_5_code
abbrev yTr_findLabel : MethodName := ⟨"CoverKeys$Tree", "findLabel", "(LCoverKeys$Cipher;II)V"⟩
abbrev cTr_findLabel : ByteArray := prog_8_method_12_code
abbrev yTr_levelsBelow : MethodName := ⟨"CoverKeys$Tree", "levelsBelow", "(II)I"⟩
abbrev cTr_levelsBelow : ByteArray := prog_8_method_5_code
abbrev yEn_wrap : MethodName := ⟨"CoverKeys$Envelope", "wrap", "(LCoverKeys$Cipher;JJ)V"⟩
abbrev cEn_wrap : ByteArray := prog_6_method_2_code
abbrev yEn_keepHalf : MethodName := ⟨"CoverKeys$Envelope", "keepHalf", "(IJ)V"⟩
abbrev cEn_keepHalf : ByteArray := prog_6_method_4_code
abbrev yLa_air : MethodName := ⟨"CoverKeysLaw", "air", "(LCoverKeys;I[J)I"⟩
abbrev cLa_air : ByteArray := method_8_code
abbrev yCK_air : MethodName := ⟨"CoverKeys", "air", "(I)I"⟩
abbrev cCK_air : ByteArray := prog_1_method_7_code
abbrev yCK_checkByte : MethodName := ⟨"CoverKeys", "checkByte", "(I)V"⟩
abbrev cCK_checkByte : ByteArray := prog_1_method_22_code
abbrev yLa_flip : MethodName := ⟨"CoverKeysLaw", "flip", "(LCoverKeys;II)I"⟩
abbrev cLa_flip : ByteArray := method_9_code
abbrev yCK_flip : MethodName := ⟨"CoverKeys", "flip", "(II)V"⟩
abbrev cCK_flip : ByteArray := prog_1_method_8_code
abbrev yLa_hear : MethodName := ⟨"CoverKeysLaw", "hear", "(LCoverKeys;I[J)I"⟩
abbrev cLa_hear : ByteArray := method_10_code
abbrev yCK_hear : MethodName := ⟨"CoverKeys", "hear", "(I)I"⟩
abbrev cCK_hear : ByteArray := prog_1_method_9_code
abbrev yPa_read : MethodName := ⟨"CoverKeys$Packet", "read", "(II)J"⟩
abbrev cPa_read : ByteArray := prog_7_method_4_code
abbrev yTr_derives : MethodName := ⟨"CoverKeys$Tree", "derives", "(III)Z"⟩
abbrev cTr_derives : ByteArray := prog_8_method_7_code
abbrev yTr_isSubset : MethodName := ⟨"CoverKeys$Tree", "isSubset", "(II)Z"⟩
abbrev cTr_isSubset : ByteArray := prog_8_method_6_code
abbrev yCK_unwrapEntry : MethodName := ⟨"CoverKeys", "unwrapEntry", "(III)Z"⟩
abbrev cCK_unwrapEntry : ByteArray := prog_1_method_26_code
abbrev yEn_unwrap : MethodName := ⟨"CoverKeys$Envelope", "unwrap", "(LCoverKeys$Cipher;)Z"⟩
abbrev cEn_unwrap : ByteArray := prog_6_method_3_code
abbrev yCi_decrypt : MethodName := ⟨"CoverKeys$Cipher", "decrypt", "(JJ)V"⟩
abbrev cCi_decrypt : ByteArray := prog_3_method_4_code
abbrev yCi_unmix : MethodName := ⟨"CoverKeys$Cipher", "unmix", "(I)I"⟩
abbrev cCi_unmix : ByteArray := prog_3_method_10_code
abbrev yDe_keep : MethodName := ⟨"CoverKeys$Decoder", "keep", "(IIJJ)V"⟩
abbrev cDe_keep : ByteArray := prog_5_method_2_code
abbrev yLa_has : MethodName := ⟨"CoverKeysLaw", "has", "(LCoverKeys;II[J)I"⟩
abbrev cLa_has : ByteArray := method_11_code
abbrev yCK_has : MethodName := ⟨"CoverKeys", "has", "(II)I"⟩
abbrev cCK_has : ByteArray := prog_1_method_10_code
abbrev yLa_seal : MethodName := ⟨"CoverKeysLaw", "seal", "(LCoverKeys;IJJJ)I"⟩
abbrev cLa_seal : ByteArray := method_12_code
abbrev yCK_seal : MethodName := ⟨"CoverKeys", "seal", "(IJJJ)V"⟩
abbrev cCK_seal : ByteArray := prog_1_method_11_code
abbrev yCK_maskBlock : MethodName := ⟨"CoverKeys", "maskBlock", "(IIJJJ)V"⟩
abbrev cCK_maskBlock : ByteArray := prog_1_method_27_code
abbrev yLa_open : MethodName := ⟨"CoverKeysLaw", "open", "(LCoverKeys;IIJJJ)I"⟩
abbrev cLa_open : ByteArray := method_13_code
abbrev yCK_open : MethodName := ⟨"CoverKeys", "open", "(IIJJJ)V"⟩
abbrev cCK_open : ByteArray := prog_1_method_12_code
abbrev yLa_subset : MethodName := ⟨"CoverKeysLaw", "subset", "(LCoverKeys;IIZ[J)I"⟩
abbrev cLa_subset : ByteArray := method_14_code
abbrev yCK_subset : MethodName := ⟨"CoverKeys", "subset", "(IIZ)I"⟩
abbrev cCK_subset : ByteArray := prog_1_method_14_code
abbrev yLa_label : MethodName := ⟨"CoverKeysLaw", "label", "(LCoverKeys;III[J)I"⟩
abbrev cLa_label : ByteArray := method_15_code
abbrev yCK_label : MethodName := ⟨"CoverKeys", "label", "(III)J"⟩
abbrev cCK_label : ByteArray := prog_1_method_15_code
abbrev yCK_checkInstalled : MethodName := ⟨"CoverKeys", "checkInstalled", "(I)V"⟩
abbrev cCK_checkInstalled : ByteArray := prog_1_method_24_code
abbrev yTr_labelTop : MethodName := ⟨"CoverKeys$Tree", "labelTop", "(II)I"⟩
abbrev cTr_labelTop : ByteArray := prog_8_method_8_code
abbrev yTr_levelOfTop : MethodName := ⟨"CoverKeys$Tree", "levelOfTop", "(I)I"⟩
abbrev cTr_levelOfTop : ByteArray := prog_8_method_10_code
abbrev yTr_labelsAbove : MethodName := ⟨"CoverKeys$Tree", "labelsAbove", "(I)I"⟩
abbrev cTr_labelsAbove : ByteArray := prog_8_method_11_code
abbrev yTr_labelFoot : MethodName := ⟨"CoverKeys$Tree", "labelFoot", "(II)I"⟩
abbrev cTr_labelFoot : ByteArray := prog_8_method_9_code
abbrev yLa_reach : MethodName := ⟨"CoverKeysLaw", "reach", "(LCoverKeys;II[J)I"⟩
abbrev cLa_reach : ByteArray := method_16_code
abbrev yCK_reach : MethodName := ⟨"CoverKeys", "reach", "(II)I"⟩
abbrev cCK_reach : ByteArray := prog_1_method_16_code
abbrev yLa_key : MethodName := ⟨"CoverKeysLaw", "key", "(LCoverKeys;IIZ[J)I"⟩
abbrev cLa_key : ByteArray := method_17_code
abbrev yCK_key : MethodName := ⟨"CoverKeys", "key", "(IIZ)J"⟩
abbrev cCK_key : ByteArray := prog_1_method_17_code
abbrev yLa_count : MethodName := ⟨"CoverKeysLaw", "count", "(LCoverKeys;I[J)I"⟩
abbrev cLa_count : ByteArray := method_18_code
abbrev yCK_count : MethodName := ⟨"CoverKeys", "count", "(I)I"⟩
abbrev cCK_count : ByteArray := prog_1_method_18_code
abbrev yCK_installedDecoders : MethodName := ⟨"CoverKeys", "installedDecoders", "()I"⟩
abbrev cCK_installedDecoders : ByteArray := prog_1_method_28_code
abbrev yCK_subscribersOfAll : MethodName := ⟨"CoverKeys", "subscribersOfAll", "()I"⟩
abbrev cCK_subscribersOfAll : ByteArray := prog_1_method_29_code
abbrev yMo_init : MethodName := ⟨"CoverKeysModel", "<init>", "()V"⟩
abbrev cMo_init : ByteArray := prog_10_method_1_code
abbrev yMo_inverse : MethodName := ⟨"CoverKeysModel", "inverse", "(I)I"⟩
abbrev cMo_inverse : ByteArray := prog_10_method_4_code
abbrev yMo_product : MethodName := ⟨"CoverKeysModel", "product", "(II)I"⟩
abbrev cMo_product : ByteArray := prog_10_method_3_code
abbrev yMo_clear : MethodName := ⟨"CoverKeysModel", "clear", "(IJJ)V"⟩
abbrev cMo_clear : ByteArray := prog_10_method_15_code
abbrev yMo_thrown : MethodName := ⟨"CoverKeysModel", "thrown", "()I"⟩
abbrev cMo_thrown : ByteArray := prog_10_method_2_code
abbrev yMo_begin : MethodName := ⟨"CoverKeysModel", "begin", "(IJJ)V"⟩
abbrev cMo_begin : ByteArray := prog_10_method_24_code
abbrev yMo_install : MethodName := ⟨"CoverKeysModel", "install", "(I)I"⟩
abbrev cMo_install : ByteArray := prog_10_method_27_code
abbrev yMo_isDecoder : MethodName := ⟨"CoverKeysModel", "isDecoder", "(I)Z"⟩
abbrev cMo_isDecoder : ByteArray := prog_10_method_25_code
abbrev yMo_leaves : MethodName := ⟨"CoverKeysModel", "leaves", "()I"⟩
abbrev cMo_leaves : ByteArray := prog_10_method_16_code
abbrev yMo_subscribe : MethodName := ⟨"CoverKeysModel", "subscribe", "(IIZ)Z"⟩
abbrev cMo_subscribe : ByteArray := prog_10_method_28_code
abbrev yMo_isChannel : MethodName := ⟨"CoverKeysModel", "isChannel", "(I)Z"⟩
abbrev cMo_isChannel : ByteArray := prog_10_method_26_code
abbrev yMo_period : MethodName := ⟨"CoverKeysModel", "period", "(IJJ)I"⟩
abbrev cMo_period : ByteArray := prog_10_method_29_code
abbrev yMo_makeCover : MethodName := ⟨"CoverKeysModel", "makeCover", "(I)V"⟩
abbrev cMo_makeCover : ByteArray := prog_10_method_23_code
abbrev yMo_packet : MethodName := ⟨"CoverKeysModel", "packet", "(II)I"⟩
abbrev cMo_packet : ByteArray := prog_10_method_31_code
abbrev yMo_putAir : MethodName := ⟨"CoverKeysModel", "putAir", "(JI)V"⟩
abbrev cMo_putAir : ByteArray := prog_10_method_30_code
abbrev yMo_makeKey : MethodName := ⟨"CoverKeysModel", "makeKey", "(II)V"⟩
abbrev cMo_makeKey : ByteArray := prog_10_method_22_code
abbrev yMo_encrypt : MethodName := ⟨"CoverKeysModel", "encrypt", "(JJJJ)V"⟩
abbrev cMo_encrypt : ByteArray := prog_10_method_11_code
abbrev yMo_makeWords : MethodName := ⟨"CoverKeysModel", "makeWords", "(JJ)V"⟩
abbrev cMo_makeWords : ByteArray := prog_10_method_5_code
abbrev yMo_load : MethodName := ⟨"CoverKeysModel", "load", "(JJ)V"⟩
abbrev cMo_load : ByteArray := prog_10_method_6_code
abbrev yMo_addWords : MethodName := ⟨"CoverKeysModel", "addWords", "(I)V"⟩
abbrev cMo_addWords : ByteArray := prog_10_method_8_code
abbrev yMo_turn : MethodName := ⟨"CoverKeysModel", "turn", "(I)V"⟩
abbrev cMo_turn : ByteArray := prog_10_method_9_code
abbrev yMo_mix : MethodName := ⟨"CoverKeysModel", "mix", "()V"⟩
abbrev cMo_mix : ByteArray := prog_10_method_10_code
abbrev yMo_store : MethodName := ⟨"CoverKeysModel", "store", "()V"⟩
abbrev cMo_store : ByteArray := prog_10_method_7_code
abbrev yMo_makeLabel : MethodName := ⟨"CoverKeysModel", "makeLabel", "(II)V"⟩
abbrev cMo_makeLabel : ByteArray := prog_10_method_21_code
abbrev yMo_wrap : MethodName := ⟨"CoverKeysModel", "wrap", "(JJJJ)V"⟩
abbrev cMo_wrap : ByteArray := prog_10_method_13_code
abbrev yMo_air : MethodName := ⟨"CoverKeysModel", "air", "(I)I"⟩
abbrev cMo_air : ByteArray := prog_10_method_32_code
abbrev yMo_flip : MethodName := ⟨"CoverKeysModel", "flip", "(II)V"⟩
abbrev cMo_flip : ByteArray := prog_10_method_33_code
abbrev yMo_hear : MethodName := ⟨"CoverKeysModel", "hear", "(I)I"⟩
abbrev cMo_hear : ByteArray := prog_10_method_35_code
abbrev yMo_airNumber : MethodName := ⟨"CoverKeysModel", "airNumber", "(II)J"⟩
abbrev cMo_airNumber : ByteArray := prog_10_method_34_code
abbrev yMo_isSubset : MethodName := ⟨"CoverKeysModel", "isSubset", "(II)Z"⟩
abbrev cMo_isSubset : ByteArray := prog_10_method_19_code
abbrev yMo_isAbove : MethodName := ⟨"CoverKeysModel", "isAbove", "(II)Z"⟩
abbrev cMo_isAbove : ByteArray := prog_10_method_18_code
abbrev yMo_hasLeaf : MethodName := ⟨"CoverKeysModel", "hasLeaf", "(III)Z"⟩
abbrev cMo_hasLeaf : ByteArray := prog_10_method_20_code
abbrev yMo_leafOf : MethodName := ⟨"CoverKeysModel", "leafOf", "(I)I"⟩
abbrev cMo_leafOf : ByteArray := prog_10_method_17_code
abbrev yMo_unwrap : MethodName := ⟨"CoverKeysModel", "unwrap", "(JJ)Z"⟩
abbrev cMo_unwrap : ByteArray := prog_10_method_14_code
abbrev yMo_decrypt : MethodName := ⟨"CoverKeysModel", "decrypt", "(JJJJ)V"⟩
abbrev cMo_decrypt : ByteArray := prog_10_method_12_code
abbrev yMo_has : MethodName := ⟨"CoverKeysModel", "has", "(II)I"⟩
abbrev cMo_has : ByteArray := prog_10_method_36_code
abbrev yMo_seal : MethodName := ⟨"CoverKeysModel", "seal", "(IJJJ)V"⟩
abbrev cMo_seal : ByteArray := prog_10_method_38_code
abbrev yMo_stream : MethodName := ⟨"CoverKeysModel", "stream", "(IIJJJJJ)V"⟩
abbrev cMo_stream : ByteArray := prog_10_method_37_code
abbrev yMo_open : MethodName := ⟨"CoverKeysModel", "open", "(IIJJJ)V"⟩
abbrev cMo_open : ByteArray := prog_10_method_39_code
abbrev yMo_out : MethodName := ⟨"CoverKeysModel", "out", "(Z)J"⟩
abbrev cMo_out : ByteArray := prog_10_method_40_code
abbrev yMo_subset : MethodName := ⟨"CoverKeysModel", "subset", "(IIZ)I"⟩
abbrev cMo_subset : ByteArray := prog_10_method_41_code
abbrev yMo_label : MethodName := ⟨"CoverKeysModel", "label", "(III)J"⟩
abbrev cMo_label : ByteArray := prog_10_method_42_code
abbrev yMo_reach : MethodName := ⟨"CoverKeysModel", "reach", "(II)I"⟩
abbrev cMo_reach : ByteArray := prog_10_method_43_code
abbrev yMo_key : MethodName := ⟨"CoverKeysModel", "key", "(IIZ)J"⟩
abbrev cMo_key : ByteArray := prog_10_method_44_code
abbrev yMo_count : MethodName := ⟨"CoverKeysModel", "count", "(I)I"⟩
abbrev cMo_count : ByteArray := prog_10_method_45_code
def ckNest : List Cond := [(Cond.methodLinkNest "CoverKeys" 11 yCi_init "CoverKeys"), (Cond.methodLinkNest "CoverKeys" 18 yTr_init "CoverKeys"), (Cond.methodLinkNest "CoverKeys" 25 yCo_init "CoverKeys"), (Cond.methodLinkNest "CoverKeys" 32 yEn_init "CoverKeys"), (Cond.methodLinkNest "CoverKeys" 39 yPa_init "CoverKeys"), (Cond.methodLinkNest "CoverKeys" 56 yCh_init "CoverKeys"), (Cond.methodLinkNest "CoverKeys" 81 yDe_init "CoverKeys"), (Cond.fieldLinkNest "CoverKeys$Cipher" 17 "CoverKeys" "SUB" "[I" "CoverKeys"), (Cond.fieldLinkNest "CoverKeys$Cipher" 40 "CoverKeys" "UNSUB" "[I" "CoverKeys")]
theorem ckNest_tab : ∀ w ∈ ckNest, w.onTables = true := by decide +kernel
theorem ckNest_warm {s U : State} (hW : s.WarmedH U.vm) : ∀ w ∈ ckNest, va_Nw w s → va_Nw w U := by
  unfold ckNest
  refine List.forall_mem_cons.mpr ⟨fun h => va_Nw.warmM hW h, ?_⟩
  refine List.forall_mem_cons.mpr ⟨fun h => va_Nw.warmM hW h, ?_⟩
  refine List.forall_mem_cons.mpr ⟨fun h => va_Nw.warmM hW h, ?_⟩
  refine List.forall_mem_cons.mpr ⟨fun h => va_Nw.warmM hW h, ?_⟩
  refine List.forall_mem_cons.mpr ⟨fun h => va_Nw.warmM hW h, ?_⟩
  refine List.forall_mem_cons.mpr ⟨fun h => va_Nw.warmM hW h, ?_⟩
  refine List.forall_mem_cons.mpr ⟨fun h => va_Nw.warmM hW h, ?_⟩
  refine List.forall_mem_cons.mpr ⟨fun h => va_Nw.warmF hW h, ?_⟩
  refine List.forall_mem_cons.mpr ⟨fun h => va_Nw.warmF hW h, ?_⟩
  exact fun w h => absurd h List.not_mem_nil
theorem kx28 : (Cond.methodLinkNest "CoverKeys" 11 yCi_init "CoverKeys") ∈ ckNest := List.mem_of_getElem? (i := 0) rfl
theorem kx51 : (Cond.methodLinkNest "CoverKeys" 18 yTr_init "CoverKeys") ∈ ckNest := List.mem_of_getElem? (i := 1) rfl
theorem kx68 : (Cond.methodLinkNest "CoverKeys" 25 yCo_init "CoverKeys") ∈ ckNest := List.mem_of_getElem? (i := 2) rfl
theorem kx79 : (Cond.methodLinkNest "CoverKeys" 32 yEn_init "CoverKeys") ∈ ckNest := List.mem_of_getElem? (i := 3) rfl
theorem kx98 : (Cond.methodLinkNest "CoverKeys" 39 yPa_init "CoverKeys") ∈ ckNest := List.mem_of_getElem? (i := 4) rfl
theorem kx116 : (Cond.methodLinkNest "CoverKeys" 56 yCh_init "CoverKeys") ∈ ckNest := List.mem_of_getElem? (i := 5) rfl
theorem kx322 : (Cond.methodLinkNest "CoverKeys" 81 yDe_init "CoverKeys") ∈ ckNest := List.mem_of_getElem? (i := 6) rfl
theorem kx445 : (Cond.fieldLinkNest "CoverKeys$Cipher" 17 "CoverKeys" "SUB" "[I" "CoverKeys") ∈ ckNest := List.mem_of_getElem? (i := 7) rfl
theorem kx541 : (Cond.fieldLinkNest "CoverKeys$Cipher" 40 "CoverKeys" "UNSUB" "[I" "CoverKeys") ∈ ckNest := List.mem_of_getElem? (i := 8) rfl
def ckOdd : List Cond := [(Cond.castable "java/lang/IllegalArgumentException" "java/lang/IllegalArgumentException"), (Cond.declares ({ cls := "java/lang/RuntimeException", name := "<init>", desc := "()V" } : MethodName)), (Cond.declares ({ cls := "java/lang/RuntimeException", name := "<init>", desc := "(Ljava/lang/String;)V" } : MethodName)), (Cond.declares ({ cls := "java/lang/Exception", name := "<init>", desc := "()V" } : MethodName)), (Cond.declares ({ cls := "java/lang/Exception", name := "<init>", desc := "(Ljava/lang/String;)V" } : MethodName)), (Cond.declares ({ cls := "java/lang/Throwable", name := "<init>", desc := "()V" } : MethodName)), (Cond.declares ({ cls := "java/lang/Throwable", name := "<init>", desc := "(Ljava/lang/String;)V" } : MethodName)), (Cond.castable "java/lang/IndexOutOfBoundsException" "java/lang/IndexOutOfBoundsException"), (Cond.castable "java/lang/IllegalStateException" "java/lang/IllegalStateException"), (Cond.castable "java/lang/UnsupportedOperationException" "java/lang/UnsupportedOperationException")]
theorem ckOdd_tab : ∀ w ∈ ckOdd, w.onTables = true := by decide +kernel
theorem ckOdd_warm {s U : State} (hW : s.WarmedH U.vm) : ∀ w ∈ ckOdd, va_Nw w s → va_Nw w U := by
  unfold ckOdd
  refine List.forall_mem_cons.mpr ⟨fun h => va_Nw.warmC hW h, ?_⟩
  refine List.forall_mem_cons.mpr ⟨fun h => va_Nw.warmD hW h, ?_⟩
  refine List.forall_mem_cons.mpr ⟨fun h => va_Nw.warmD hW h, ?_⟩
  refine List.forall_mem_cons.mpr ⟨fun h => va_Nw.warmD hW h, ?_⟩
  refine List.forall_mem_cons.mpr ⟨fun h => va_Nw.warmD hW h, ?_⟩
  refine List.forall_mem_cons.mpr ⟨fun h => va_Nw.warmD hW h, ?_⟩
  refine List.forall_mem_cons.mpr ⟨fun h => va_Nw.warmD hW h, ?_⟩
  refine List.forall_mem_cons.mpr ⟨fun h => va_Nw.warmC hW h, ?_⟩
  refine List.forall_mem_cons.mpr ⟨fun h => va_Nw.warmC hW h, ?_⟩
  refine List.forall_mem_cons.mpr ⟨fun h => va_Nw.warmC hW h, ?_⟩
  exact fun w h => absurd h List.not_mem_nil
def ckStr : List (Nat × String) := [(63, "no such depth"), (254, "no such decoder"), (78, "installed already"), (249, "no such channel"), (99, "no more periods"), (258, "no period began"), (119, "no such packet"), (256, "no such byte on the air"), (145, "not installed, or nothing is on the air"), (180, "no key for that channel"), (199, "no such channel, so no period of it"), (203, "no such subset"), (260, "not installed"), (215, "no such label, or nothing of the kind about it"), (233, "no subset of this tree"), (238, "nothing of the kind is counted")]
def ckNc : List (String × String) := [("java/lang/IllegalArgumentException", "java/lang/IllegalStateException"), ("java/lang/IllegalArgumentException", "java/lang/IndexOutOfBoundsException"), ("java/lang/IllegalArgumentException", "java/lang/UnsupportedOperationException"), ("java/lang/IllegalStateException", "java/lang/IllegalArgumentException"), ("java/lang/IllegalStateException", "java/lang/IndexOutOfBoundsException"), ("java/lang/IllegalStateException", "java/lang/UnsupportedOperationException"), ("java/lang/IndexOutOfBoundsException", "java/lang/IllegalArgumentException"), ("java/lang/IndexOutOfBoundsException", "java/lang/IllegalStateException"), ("java/lang/IndexOutOfBoundsException", "java/lang/UnsupportedOperationException"), ("java/lang/UnsupportedOperationException", "java/lang/IllegalArgumentException"), ("java/lang/UnsupportedOperationException", "java/lang/IllegalStateException"), ("java/lang/UnsupportedOperationException", "java/lang/IndexOutOfBoundsException")]
def TCh : u_T := fun k => match k with
  | 0 => ("CoverKeys$Channel", "subscribers", "[Z", true)
  | 1 => ("CoverKeys$Channel", "vs", "[I", true)
  | 2 => ("CoverKeys$Channel", "ws", "[I", true)
  | 3 => ("CoverKeys$Channel", "periods", "I", false)
  | 4 => ("CoverKeys$Channel", "subsets", "I", false)
  | 5 => ("CoverKeys$Channel", "high", "J", false)
  | _ => ("CoverKeys$Channel", "low", "J", false)
def tyCh : Nat → FieldType := fun k => match k with
  | 0 => .array .boolean
  | 1 => .array .int
  | 2 => .array .int
  | 3 => .int
  | 4 => .int
  | 5 => .long
  | _ => .long
theorem nmCh : ∀ a, a < 7 → ∀ b, b < 7 → a ≠ b → (TCh a).2.1 ≠ (TCh b).2.1 := by decide +kernel
theorem tyCh_ok : ∀ k, k < 7 → parseFieldDescriptor (TCh k).2.2.1 = some (tyCh k) := by decide +kernel
theorem inCh : ∀ w ∈ u_ws "CoverKeys$Channel" TCh 7, w ∈ ckT := by
  intro w hw
  obtain ⟨k, hk, rfl⟩ := List.mem_map.mp hw
  have hk := List.mem_range.mp hk
  by_cases h0 : k = 0
  · subst h0; exact ck_m1 (List.mem_of_getElem? (i := 136) rfl) rfl
  by_cases h1 : k = 1
  · subst h1; exact ck_m1 (List.mem_of_getElem? (i := 138) rfl) rfl
  by_cases h2 : k = 2
  · subst h2; exact ck_m1 (List.mem_of_getElem? (i := 140) rfl) rfl
  by_cases h3 : k = 3
  · subst h3; exact ck_m1 (List.mem_of_getElem? (i := 142) rfl) rfl
  by_cases h4 : k = 4
  · subst h4; exact ck_m1 (List.mem_of_getElem? (i := 144) rfl) rfl
  by_cases h5 : k = 5
  · subst h5; exact ck_m1 (List.mem_of_getElem? (i := 146) rfl) rfl
  by_cases h6 : k = 6
  · subst h6; exact ck_m1 (List.mem_of_getElem? (i := 148) rfl) rfl
  omega
def TCi : u_T := fun k => match k with
  | 0 => ("CoverKeys$Cipher", "words", "[I", true)
  | 1 => ("CoverKeys$Cipher", "high", "J", false)
  | _ => ("CoverKeys$Cipher", "low", "J", false)
def tyCi : Nat → FieldType := fun k => match k with
  | 0 => .array .int
  | 1 => .long
  | _ => .long
theorem nmCi : ∀ a, a < 3 → ∀ b, b < 3 → a ≠ b → (TCi a).2.1 ≠ (TCi b).2.1 := by decide +kernel
theorem tyCi_ok : ∀ k, k < 3 → parseFieldDescriptor (TCi k).2.2.1 = some (tyCi k) := by decide +kernel
theorem inCi : ∀ w ∈ u_ws "CoverKeys$Cipher" TCi 3, w ∈ ckT := by
  intro w hw
  obtain ⟨k, hk, rfl⟩ := List.mem_map.mp hw
  have hk := List.mem_range.mp hk
  by_cases h0 : k = 0
  · subst h0; exact ck_m1 (List.mem_of_getElem? (i := 41) rfl) rfl
  by_cases h1 : k = 1
  · subst h1; exact ck_m1 (List.mem_of_getElem? (i := 43) rfl) rfl
  by_cases h2 : k = 2
  · subst h2; exact ck_m1 (List.mem_of_getElem? (i := 45) rfl) rfl
  omega
def TCo : u_T := fun k => match k with
  | _ => ("CoverKeys$Cover", "marked", "[Z", true)
def tyCo : Nat → FieldType := fun k => match k with
  | _ => .array .boolean
theorem nmCo : ∀ a, a < 1 → ∀ b, b < 1 → a ≠ b → (TCo a).2.1 ≠ (TCo b).2.1 := by decide +kernel
theorem tyCo_ok : ∀ k, k < 1 → parseFieldDescriptor (TCo k).2.2.1 = some (tyCo k) := by decide +kernel
theorem inCo : ∀ w ∈ u_ws "CoverKeys$Cover" TCo 1, w ∈ ckT := by
  intro w hw
  obtain ⟨k, hk, rfl⟩ := List.mem_map.mp hw
  have hk := List.mem_range.mp hk
  by_cases h0 : k = 0
  · subst h0; exact ck_m1 (List.mem_of_getElem? (i := 73) rfl) rfl
  omega
def TDe : u_T := fun k => match k with
  | 0 => ("CoverKeys$Decoder", "periods", "[I", true)
  | 1 => ("CoverKeys$Decoder", "highs", "[J", true)
  | _ => ("CoverKeys$Decoder", "lows", "[J", true)
def tyDe : Nat → FieldType := fun k => match k with
  | 0 => .array .int
  | 1 => .array .long
  | _ => .array .long
theorem nmDe : ∀ a, a < 3 → ∀ b, b < 3 → a ≠ b → (TDe a).2.1 ≠ (TDe b).2.1 := by decide +kernel
theorem tyDe_ok : ∀ k, k < 3 → parseFieldDescriptor (TDe k).2.2.1 = some (tyDe k) := by decide +kernel
theorem inDe : ∀ w ∈ u_ws "CoverKeys$Decoder" TDe 3, w ∈ ckT := by
  intro w hw
  obtain ⟨k, hk, rfl⟩ := List.mem_map.mp hw
  have hk := List.mem_range.mp hk
  by_cases h0 : k = 0
  · subst h0; exact ck_m2 (List.mem_of_getElem? (i := 92) rfl) rfl
  by_cases h1 : k = 1
  · subst h1; exact ck_m2 (List.mem_of_getElem? (i := 94) rfl) rfl
  by_cases h2 : k = 2
  · subst h2; exact ck_m2 (List.mem_of_getElem? (i := 96) rfl) rfl
  omega
def TEn : u_T := fun k => match k with
  | 0 => ("CoverKeys$Envelope", "check", "J", false)
  | 1 => ("CoverKeys$Envelope", "high", "J", false)
  | _ => ("CoverKeys$Envelope", "low", "J", false)
def tyEn : Nat → FieldType := fun k => match k with
  | 0 => .long
  | 1 => .long
  | _ => .long
theorem nmEn : ∀ a, a < 3 → ∀ b, b < 3 → a ≠ b → (TEn a).2.1 ≠ (TEn b).2.1 := by decide +kernel
theorem tyEn_ok : ∀ k, k < 3 → parseFieldDescriptor (TEn k).2.2.1 = some (tyEn k) := by decide +kernel
theorem inEn : ∀ w ∈ u_ws "CoverKeys$Envelope" TEn 3, w ∈ ckT := by
  intro w hw
  obtain ⟨k, hk, rfl⟩ := List.mem_map.mp hw
  have hk := List.mem_range.mp hk
  by_cases h0 : k = 0
  · subst h0; exact ck_m1 (List.mem_of_getElem? (i := 89) rfl) rfl
  by_cases h1 : k = 1
  · subst h1; exact ck_m1 (List.mem_of_getElem? (i := 91) rfl) rfl
  by_cases h2 : k = 2
  · subst h2; exact ck_m1 (List.mem_of_getElem? (i := 93) rfl) rfl
  omega
def TPa : u_T := fun k => match k with
  | 0 => ("CoverKeys$Packet", "bytes", "[I", true)
  | _ => ("CoverKeys$Packet", "length", "I", false)
def tyPa : Nat → FieldType := fun k => match k with
  | 0 => .array .int
  | _ => .int
theorem nmPa : ∀ a, a < 2 → ∀ b, b < 2 → a ≠ b → (TPa a).2.1 ≠ (TPa b).2.1 := by decide +kernel
theorem tyPa_ok : ∀ k, k < 2 → parseFieldDescriptor (TPa k).2.2.1 = some (tyPa k) := by decide +kernel
theorem inPa : ∀ w ∈ u_ws "CoverKeys$Packet" TPa 2, w ∈ ckT := by
  intro w hw
  obtain ⟨k, hk, rfl⟩ := List.mem_map.mp hw
  have hk := List.mem_range.mp hk
  by_cases h0 : k = 0
  · subst h0; exact ck_m1 (List.mem_of_getElem? (i := 106) rfl) rfl
  by_cases h1 : k = 1
  · subst h1; exact ck_m1 (List.mem_of_getElem? (i := 108) rfl) rfl
  omega
def TTr : u_T := fun k => match k with
  | 0 => ("CoverKeys$Tree", "depth", "I", false)
  | 1 => ("CoverKeys$Tree", "seedHigh", "J", false)
  | _ => ("CoverKeys$Tree", "seedLow", "J", false)
def tyTr : Nat → FieldType := fun k => match k with
  | 0 => .int
  | 1 => .long
  | _ => .long
theorem nmTr : ∀ a, a < 3 → ∀ b, b < 3 → a ≠ b → (TTr a).2.1 ≠ (TTr b).2.1 := by decide +kernel
theorem tyTr_ok : ∀ k, k < 3 → parseFieldDescriptor (TTr k).2.2.1 = some (tyTr k) := by decide +kernel
theorem inTr : ∀ w ∈ u_ws "CoverKeys$Tree" TTr 3, w ∈ ckT := by
  intro w hw
  obtain ⟨k, hk, rfl⟩ := List.mem_map.mp hw
  have hk := List.mem_range.mp hk
  by_cases h0 : k = 0
  · subst h0; exact ck_m1 (List.mem_of_getElem? (i := 59) rfl) rfl
  by_cases h1 : k = 1
  · subst h1; exact ck_m1 (List.mem_of_getElem? (i := 61) rfl) rfl
  by_cases h2 : k = 2
  · subst h2; exact ck_m1 (List.mem_of_getElem? (i := 63) rfl) rfl
  omega
def TCK : u_T := fun k => match k with
  | 0 => ("CoverKeys", "cipher", "LCoverKeys$Cipher;", true)
  | 1 => ("CoverKeys", "tree", "LCoverKeys$Tree;", true)
  | 2 => ("CoverKeys", "cover", "LCoverKeys$Cover;", true)
  | 3 => ("CoverKeys", "envelope", "LCoverKeys$Envelope;", true)
  | 4 => ("CoverKeys", "onAir", "LCoverKeys$Packet;", true)
  | 5 => ("CoverKeys", "channels", "[LCoverKeys$Channel;", true)
  | 6 => ("CoverKeys", "decoders", "[LCoverKeys$Decoder;", true)
  | 7 => ("CoverKeys", "outHigh", "J", false)
  | _ => ("CoverKeys", "outLow", "J", false)
def tyCK : Nat → FieldType := fun k => match k with
  | 0 => .object "CoverKeys$Cipher"
  | 1 => .object "CoverKeys$Tree"
  | 2 => .object "CoverKeys$Cover"
  | 3 => .object "CoverKeys$Envelope"
  | 4 => .object "CoverKeys$Packet"
  | 5 => .array (.object "CoverKeys$Channel")
  | 6 => .array (.object "CoverKeys$Decoder")
  | 7 => .long
  | _ => .long
theorem nmCK : ∀ a, a < 9 → ∀ b, b < 9 → a ≠ b → (TCK a).2.1 ≠ (TCK b).2.1 := by decide +kernel
theorem tyCK_ok : ∀ k, k < 9 → parseFieldDescriptor (TCK k).2.2.1 = some (tyCK k) := by decide +kernel
theorem inCK : ∀ w ∈ u_ws "CoverKeys" TCK 9, w ∈ ckT := by
  intro w hw
  obtain ⟨k, hk, rfl⟩ := List.mem_map.mp hw
  have hk := List.mem_range.mp hk
  by_cases h0 : k = 0
  · subst h0; exact ck_m1 (List.mem_of_getElem? (i := 164) rfl) rfl
  by_cases h1 : k = 1
  · subst h1; exact ck_m1 (List.mem_of_getElem? (i := 166) rfl) rfl
  by_cases h2 : k = 2
  · subst h2; exact ck_m1 (List.mem_of_getElem? (i := 168) rfl) rfl
  by_cases h3 : k = 3
  · subst h3; exact ck_m1 (List.mem_of_getElem? (i := 170) rfl) rfl
  by_cases h4 : k = 4
  · subst h4; exact ck_m1 (List.mem_of_getElem? (i := 172) rfl) rfl
  by_cases h5 : k = 5
  · subst h5; exact ck_m1 (List.mem_of_getElem? (i := 174) rfl) rfl
  by_cases h6 : k = 6
  · subst h6; exact ck_m1 (List.mem_of_getElem? (i := 176) rfl) rfl
  by_cases h7 : k = 7
  · subst h7; exact ck_m1 (List.mem_of_getElem? (i := 178) rfl) rfl
  by_cases h8 : k = 8
  · subst h8; exact ck_m1 (List.mem_of_getElem? (i := 180) rfl) rfl
  omega
def TMo : u_T := fun k => match k with
  | 0 => ("CoverKeysModel", "thrown", "I", false)
  | 1 => ("CoverKeysModel", "sub", "[I", true)
  | 2 => ("CoverKeysModel", "unsub", "[I", true)
  | 3 => ("CoverKeysModel", "words", "[I", true)
  | 4 => ("CoverKeysModel", "block", "[I", true)
  | 5 => ("CoverKeysModel", "moved", "[I", true)
  | 6 => ("CoverKeysModel", "first", "J", false)
  | 7 => ("CoverKeysModel", "second", "J", false)
  | 8 => ("CoverKeysModel", "depth", "I", false)
  | 9 => ("CoverKeysModel", "seedHigh", "J", false)
  | 10 => ("CoverKeysModel", "seedLow", "J", false)
  | 11 => ("CoverKeysModel", "installed", "[Z", true)
  | 12 => ("CoverKeysModel", "subscribes", "[Z", true)
  | 13 => ("CoverKeysModel", "periods", "[I", true)
  | 14 => ("CoverKeysModel", "periodHigh", "[J", true)
  | 15 => ("CoverKeysModel", "periodLow", "[J", true)
  | 16 => ("CoverKeysModel", "subsets", "[I", true)
  | 17 => ("CoverKeysModel", "subsetV", "[I", true)
  | 18 => ("CoverKeysModel", "subsetW", "[I", true)
  | 19 => ("CoverKeysModel", "marked", "[Z", true)
  | 20 => ("CoverKeysModel", "air", "[I", true)
  | 21 => ("CoverKeysModel", "airSize", "I", false)
  | 22 => ("CoverKeysModel", "heardPeriod", "[I", true)
  | 23 => ("CoverKeysModel", "heardHigh", "[J", true)
  | 24 => ("CoverKeysModel", "heardLow", "[J", true)
  | 25 => ("CoverKeysModel", "outHigh", "J", false)
  | 26 => ("CoverKeysModel", "outLow", "J", false)
  | 27 => ("CoverKeysModel", "wrapped0", "J", false)
  | 28 => ("CoverKeysModel", "wrapped1", "J", false)
  | _ => ("CoverKeysModel", "wrapped2", "J", false)
def tyMo : Nat → FieldType := fun k => match k with
  | 0 => .int
  | 1 => .array .int
  | 2 => .array .int
  | 3 => .array .int
  | 4 => .array .int
  | 5 => .array .int
  | 6 => .long
  | 7 => .long
  | 8 => .int
  | 9 => .long
  | 10 => .long
  | 11 => .array .boolean
  | 12 => .array .boolean
  | 13 => .array .int
  | 14 => .array .long
  | 15 => .array .long
  | 16 => .array .int
  | 17 => .array .int
  | 18 => .array .int
  | 19 => .array .boolean
  | 20 => .array .int
  | 21 => .int
  | 22 => .array .int
  | 23 => .array .long
  | 24 => .array .long
  | 25 => .long
  | 26 => .long
  | 27 => .long
  | 28 => .long
  | _ => .long
theorem nmMo : ∀ a, a < 30 → ∀ b, b < 30 → a ≠ b → (TMo a).2.1 ≠ (TMo b).2.1 := by decide +kernel
theorem tyMo_ok : ∀ k, k < 30 → parseFieldDescriptor (TMo k).2.2.1 = some (tyMo k) := by decide +kernel
theorem inMo : ∀ w ∈ u_ws "CoverKeysModel" TMo 30, w ∈ ckT := by
  intro w hw
  obtain ⟨k, hk, rfl⟩ := List.mem_map.mp hw
  have hk := List.mem_range.mp hk
  by_cases h0 : k = 0
  · subst h0; exact ck_m3 (List.mem_of_getElem? (i := 212) rfl) rfl
  by_cases h1 : k = 1
  · subst h1; exact ck_m3 (List.mem_of_getElem? (i := 214) rfl) rfl
  by_cases h2 : k = 2
  · subst h2; exact ck_m3 (List.mem_of_getElem? (i := 216) rfl) rfl
  by_cases h3 : k = 3
  · subst h3; exact ck_m3 (List.mem_of_getElem? (i := 218) rfl) rfl
  by_cases h4 : k = 4
  · subst h4; exact ck_m3 (List.mem_of_getElem? (i := 220) rfl) rfl
  by_cases h5 : k = 5
  · subst h5; exact ck_m3 (List.mem_of_getElem? (i := 222) rfl) rfl
  by_cases h6 : k = 6
  · subst h6; exact ck_m3 (List.mem_of_getElem? (i := 224) rfl) rfl
  by_cases h7 : k = 7
  · subst h7; exact ck_m3 (List.mem_of_getElem? (i := 226) rfl) rfl
  by_cases h8 : k = 8
  · subst h8; exact ck_m3 (List.mem_of_getElem? (i := 228) rfl) rfl
  by_cases h9 : k = 9
  · subst h9; exact ck_m3 (List.mem_of_getElem? (i := 230) rfl) rfl
  by_cases h10 : k = 10
  · subst h10; exact ck_m3 (List.mem_of_getElem? (i := 232) rfl) rfl
  by_cases h11 : k = 11
  · subst h11; exact ck_m3 (List.mem_of_getElem? (i := 234) rfl) rfl
  by_cases h12 : k = 12
  · subst h12; exact ck_m3 (List.mem_of_getElem? (i := 236) rfl) rfl
  by_cases h13 : k = 13
  · subst h13; exact ck_m3 (List.mem_of_getElem? (i := 238) rfl) rfl
  by_cases h14 : k = 14
  · subst h14; exact ck_m4 (List.mem_of_getElem? (i := 0) rfl) rfl
  by_cases h15 : k = 15
  · subst h15; exact ck_m4 (List.mem_of_getElem? (i := 2) rfl) rfl
  by_cases h16 : k = 16
  · subst h16; exact ck_m4 (List.mem_of_getElem? (i := 4) rfl) rfl
  by_cases h17 : k = 17
  · subst h17; exact ck_m4 (List.mem_of_getElem? (i := 6) rfl) rfl
  by_cases h18 : k = 18
  · subst h18; exact ck_m4 (List.mem_of_getElem? (i := 8) rfl) rfl
  by_cases h19 : k = 19
  · subst h19; exact ck_m4 (List.mem_of_getElem? (i := 10) rfl) rfl
  by_cases h20 : k = 20
  · subst h20; exact ck_m4 (List.mem_of_getElem? (i := 12) rfl) rfl
  by_cases h21 : k = 21
  · subst h21; exact ck_m4 (List.mem_of_getElem? (i := 14) rfl) rfl
  by_cases h22 : k = 22
  · subst h22; exact ck_m4 (List.mem_of_getElem? (i := 16) rfl) rfl
  by_cases h23 : k = 23
  · subst h23; exact ck_m4 (List.mem_of_getElem? (i := 18) rfl) rfl
  by_cases h24 : k = 24
  · subst h24; exact ck_m4 (List.mem_of_getElem? (i := 20) rfl) rfl
  by_cases h25 : k = 25
  · subst h25; exact ck_m4 (List.mem_of_getElem? (i := 22) rfl) rfl
  by_cases h26 : k = 26
  · subst h26; exact ck_m4 (List.mem_of_getElem? (i := 24) rfl) rfl
  by_cases h27 : k = 27
  · subst h27; exact ck_m4 (List.mem_of_getElem? (i := 26) rfl) rfl
  by_cases h28 : k = 28
  · subst h28; exact ck_m4 (List.mem_of_getElem? (i := 28) rfl) rfl
  by_cases h29 : k = 29
  · subst h29; exact ck_m4 (List.mem_of_getElem? (i := 30) rfl) rfl
  omega
abbrev vwCl : List vw_C := [("CoverKeys$Channel", TCh, 7), ("CoverKeys$Cipher", TCi, 3), ("CoverKeys$Cover", TCo, 1), ("CoverKeys$Decoder", TDe, 3), ("CoverKeys$Envelope", TEn, 3), ("CoverKeys$Packet", TPa, 2), ("CoverKeys$Tree", TTr, 3), ("CoverKeys", TCK, 9), ("CoverKeysModel", TMo, 30)]
theorem kkCi_52 : Cond.constant "CoverKeys$Cipher" 52 (nI 2139062143) ∈ ckT := ck_m2 (List.mem_of_getElem? (i := 213) rfl) rfl
theorem kkCi_53 : Cond.constant "CoverKeys$Cipher" 53 (nI 16843009) ∈ ckT := ck_m2 (List.mem_of_getElem? (i := 214) rfl) rfl
theorem kkCi_43 : Cond.constantLong "CoverKeys$Cipher" 43 (lN 4294967295) ∈ ckT := ck_m2 (List.mem_of_getElem? (i := 226) rfl) rfl
theorem kkTr_60 : Cond.constantLong "CoverKeys$Tree" 60 (lN 3) ∈ ckT := ck_m2 (List.mem_of_getElem? (i := 234) rfl) rfl
theorem kkEn_9 : Cond.constantLong "CoverKeys$Envelope" 9 (lN 12008468691120727718) ∈ ckT := ck_m3 (List.mem_of_getElem? (i := 0) rfl) rfl
theorem kkCK_273 : Cond.constantLong "CoverKeys" 273 (lN 65536) ∈ ckT := ck_m3 (List.mem_of_getElem? (i := 85) rfl) rfl
theorem kkMo_150 : Cond.constantLong "CoverKeysModel" 150 (lN 2) ∈ ckT := ck_m4 (List.mem_of_getElem? (i := 112) rfl) rfl
theorem kkMo_156 : Cond.constantLong "CoverKeysModel" 156 (lN 3) ∈ ckT := ck_m4 (List.mem_of_getElem? (i := 113) rfl) rfl
theorem kkMo_109 : Cond.constantLong "CoverKeysModel" 109 (lN 12008468691120727718) ∈ ckT := ck_m4 (List.mem_of_getElem? (i := 118) rfl) rfl
theorem kkMo_193 : Cond.constantLong "CoverKeysModel" 193 (lN 65536) ∈ ckT := ck_m4 (List.mem_of_getElem? (i := 170) rfl) rfl
theorem kkLa_80 : Cond.constantLong "CoverKeysLaw" 80 (lN 4294967295) ∈ ckT := ck_m4 (List.mem_of_getElem? (i := 199) rfl) rfl
