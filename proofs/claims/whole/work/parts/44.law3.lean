/-! the law's cases -/
set_option maxHeartbeats 4000000 in
set_option maxRecDepth 100000 in
theorem law_none {p : Program} {l : Launch} {e : Env} {s : State} {m : MethodId} {below : List Frame} {meth : Method} {c : Code} {A : Nat → Prop} {G : gG} {b : Nat} {L : Nat} {xs : Nat → Int32} {ox oc owd ot oo om oe op ob ocs ods oq oy : Nat} {kk ks kv kw r : Nat → Nat} (hC0 : LC p l s m c A G b L xs) {j : Nat} (hj : 9 * j + 9 ≤ L) (ih : LAp p l e s m below meth c A G b ox oc owd ot oo om oe op ob ocs ods oq oy kk ks kv kw r 23 (j + 1)) : LAp p l e s m below meth c A G b ox oc owd ot oo om oe op ob ocs ods oq oy kk ks kv kw r 1641 j := by
  intro oh ol dp sh sl g e0 f0 mk c0 h0 l0 nq f dec q sz ch cl fs fv fw T fo th fi se w0 w1 w2 ff gg mm ins sb per ph pl ss sv sw mk2 hp hh hl9 H locs ls hdp1 hdp hR1 hR2 hR3 hR4 hP hD hS hl
  obtain ⟨hx, hb, hml, hown, hts, hG, hA, hX, hbl, hbA, hl0, hLN⟩ := hC0
  have hcf : 60 + 4 * j + 4 ≤ room_1.cells ∧ 20000 + 20 * j + 20 ≤ room_1.slots := ⟨by show _ ≤ 601024; omega, by show _ ≤ 7293034; omega⟩
  have hp2 := p2_le hdp
  have hp1 := Nat.two_pow_pos dp
  have hl : lv_has ls 8 [(0, .ref b), (1, .ref ox), (2, .ref oy), (3, .ref oq), (4, .int (nI (9 * j)))] := hl
  have hP : va_P G.1 vwCl ([aJ G oq 1 fo, oC ox 7 [.ref oc, .ref ot, .ref oo, .ref oe, .ref op, .ref ocs, .ref ods, .long oh, .long ol], oC ot 6 [.int (nI dp), .long sh, .long sl], oC oc 1 [.ref owd, .long e0, .long f0], aI G owd 44 g, oC oo 2 [.ref om], aZ G om 512 mk, oC oe 4 [.long c0, .long h0, .long l0], oC op 5 [.ref ob, .int (nI nq)], aI G ob 229 f, aH G ocs 4 (fun j => some (kk j)), aQ G ods 256 dec, moC oy r th fi se (nI dp) sh sl (nI nq) oh ol w0 w1 w2, aI G (r 0) 256 ckS, aI G (r 1) 256 ckU, aI G (r 2) 176 (bN ff), aI G (r 3) 16 (bN gg), aI G (r 4) 16 (bN mm), aZ G (r 5) 256 ins, aZ G (r 6) 1024 sb, aI G (r 7) 4 per, aJ G (r 8) 4 ph, aJ G (r 9) 4 pl, aI G (r 10) 4 ss, aI G (r 11) 1024 sv, aI G (r 12) 1024 sw, aZ G (r 13) 512 mk2, aI G (r 14) 229 f, aI G (r 15) 1024 hp, aJ G (r 16) 1024 hh, aJ G (r 17) 1024 hl9] ++ (chA (chB G kk ks kv kw q sz ch cl fs fv fw) ++ decW G T)) H := hP
  have hD : va_D A ([aJ G oq 1 fo, oC ox 7 [.ref oc, .ref ot, .ref oo, .ref oe, .ref op, .ref ocs, .ref ods, .long oh, .long ol], oC ot 6 [.int (nI dp), .long sh, .long sl], oC oc 1 [.ref owd, .long e0, .long f0], aI G owd 44 g, oC oo 2 [.ref om], aZ G om 512 mk, oC oe 4 [.long c0, .long h0, .long l0], oC op 5 [.ref ob, .int (nI nq)], aI G ob 229 f, aH G ocs 4 (fun j => some (kk j)), aQ G ods 256 dec, moC oy r th fi se (nI dp) sh sl (nI nq) oh ol w0 w1 w2, aI G (r 0) 256 ckS, aI G (r 1) 256 ckU, aI G (r 2) 176 (bN ff), aI G (r 3) 16 (bN gg), aI G (r 4) 16 (bN mm), aZ G (r 5) 256 ins, aZ G (r 6) 1024 sb, aI G (r 7) 4 per, aJ G (r 8) 4 ph, aJ G (r 9) 4 pl, aI G (r 10) 4 ss, aI G (r 11) 1024 sv, aI G (r 12) 1024 sw, aZ G (r 13) 512 mk2, aI G (r 14) 229 f, aI G (r 15) 1024 hp, aJ G (r 16) 1024 hh, aJ G (r 17) 1024 hl9] ++ (chA (chB G kk ks kv kw q sz ch cl fs fv fw) ++ decW G T)) := hD
  generalize htl : (chA (chB G kk ks kv kw q sz ch cl fs fv fw) ++ decW G T) = tl at hP hD
  refine lv_iinc (v := nI (9 * (j + 1))) (lv' := [(4, .int (nI (9 * (j + 1)))), (0, .ref b), (1, .ref ox), (2, .ref oy), (3, .ref oq)]) hx hb dLa_law_1641 hl (k := 4) rfl (nI_add (9 * j) 9) (by decide) rfl (fun ls hl => ?_)
  refine lv_goto (tgt := 23) hx hb dLa_law_1644 rfl ?_
  refine W.widen (k := 60 + 4 * (j + 1)) (n := 20000 + 20 * (j + 1)) (by omega) (by omega) ?_
  subst htl
  exact ih oh ol dp sh sl g e0 f0 mk c0 h0 l0 nq f dec q sz ch cl fs fv fw T fo th fi se w0 w1 w2 ff gg mm ins sb per ph pl ss sv sw mk2 hp hh hl9 _ _ _ hdp1 hdp hR1 hR2 hR3 hR4 hP hD hS (lv_sub hl [1, 2, 3, 4, 0] rfl)
set_option maxHeartbeats 4000000 in
set_option maxRecDepth 100000 in
theorem law_out {p : Program} {l : Launch} {e : Env} {s : State} {m : MethodId} {below : List Frame} {meth : Method} {c : Code} {A : Nat → Prop} {G : gG} {b : Nat} {L : Nat} {xs : Nat → Int32} {ox oc owd ot oo om oe op ob ocs ods oq oy : Nat} {kk ks kv kw r : Nat → Nat} (hC0 : LC p l s m c A G b L xs) {j : Nat} (hj : 9 * j + 9 ≤ L) (ih : LAp p l e s m below meth c A G b ox oc owd ot oo om oe op ob ocs ods oq oy kk ks kv kw r 23 (j + 1)) : LAp p l e s m below meth c A G b ox oc owd ot oo om oe op ob ocs ods oq oy kk ks kv kw r 1205 j := by
  intro oh ol dp sh sl g e0 f0 mk c0 h0 l0 nq f dec q sz ch cl fs fv fw T fo th fi se w0 w1 w2 ff gg mm ins sb per ph pl ss sv sw mk2 hp hh hl9 H locs ls hdp1 hdp hR1 hR2 hR3 hR4 hP hD hS hl
  obtain ⟨hx, hb, hml, hown, hts, hG, hA, hX, hbl, hbA, hl0, hLN⟩ := hC0
  have hcf : 60 + 4 * j + 4 ≤ room_1.cells ∧ 20000 + 20 * j + 20 ≤ room_1.slots := ⟨by show _ ≤ 601024; omega, by show _ ≤ 7293034; omega⟩
  have hp2 := p2_le hdp
  have hp1 := Nat.two_pow_pos dp
  have hl : lv_has ls 8 [(0, .ref b), (1, .ref ox), (2, .ref oy), (3, .ref oq), (4, .int (nI (9 * j)))] := hl
  obtain ⟨y1, hy1⟩ : ∃ y, xs (9 * j + 1) = y := ⟨_, rfl⟩
  by_cases hb1 : y1 = 0
  · have hP : va_P G.1 vwCl ([aJ G oq 1 fo, oC ox 7 [.ref oc, .ref ot, .ref oo, .ref oe, .ref op, .ref ocs, .ref ods, .long oh, .long ol], oC ot 6 [.int (nI dp), .long sh, .long sl], oC oc 1 [.ref owd, .long e0, .long f0], aI G owd 44 g, oC oo 2 [.ref om], aZ G om 512 mk, oC oe 4 [.long c0, .long h0, .long l0], oC op 5 [.ref ob, .int (nI nq)], aI G ob 229 f, aH G ocs 4 (fun j => some (kk j)), aQ G ods 256 dec, moC oy r th fi se (nI dp) sh sl (nI nq) oh ol w0 w1 w2, aI G (r 0) 256 ckS, aI G (r 1) 256 ckU, aI G (r 2) 176 (bN ff), aI G (r 3) 16 (bN gg), aI G (r 4) 16 (bN mm), aZ G (r 5) 256 ins, aZ G (r 6) 1024 sb, aI G (r 7) 4 per, aJ G (r 8) 4 ph, aJ G (r 9) 4 pl, aI G (r 10) 4 ss, aI G (r 11) 1024 sv, aI G (r 12) 1024 sw, aZ G (r 13) 512 mk2, aI G (r 14) 229 f, aI G (r 15) 1024 hp, aJ G (r 16) 1024 hh, aJ G (r 17) 1024 hl9] ++ (chA (chB G kk ks kv kw q sz ch cl fs fv fw) ++ decW G T)) H := hP
    have hD : va_D A ([aJ G oq 1 fo, oC ox 7 [.ref oc, .ref ot, .ref oo, .ref oe, .ref op, .ref ocs, .ref ods, .long oh, .long ol], oC ot 6 [.int (nI dp), .long sh, .long sl], oC oc 1 [.ref owd, .long e0, .long f0], aI G owd 44 g, oC oo 2 [.ref om], aZ G om 512 mk, oC oe 4 [.long c0, .long h0, .long l0], oC op 5 [.ref ob, .int (nI nq)], aI G ob 229 f, aH G ocs 4 (fun j => some (kk j)), aQ G ods 256 dec, moC oy r th fi se (nI dp) sh sl (nI nq) oh ol w0 w1 w2, aI G (r 0) 256 ckS, aI G (r 1) 256 ckU, aI G (r 2) 176 (bN ff), aI G (r 3) 16 (bN gg), aI G (r 4) 16 (bN mm), aZ G (r 5) 256 ins, aZ G (r 6) 1024 sb, aI G (r 7) 4 per, aJ G (r 8) 4 ph, aJ G (r 9) 4 pl, aI G (r 10) 4 ss, aI G (r 11) 1024 sv, aI G (r 12) 1024 sw, aZ G (r 13) 512 mk2, aI G (r 14) 229 f, aI G (r 15) 1024 hp, aJ G (r 16) 1024 hh, aJ G (r 17) 1024 hl9] ++ (chA (chB G kk ks kv kw q sz ch cl fs fv fw) ++ decW G T)) := hD
    generalize htl : (chA (chB G kk ks kv kw q sz ch cl fs fv fw) ++ decW G T) = tl at hP hD
    refine lv_aload_n hx hb dLa_law_1205 rfl (lv_at hl 1 rfl) ?_
    refine lv_aload_n hx hb dLa_law_1206 rfl (lv_at hl 0 rfl) ?_
    refine lv_iload hx hb dLa_law_1207 (lv_at hl 4 rfl) ?_
    refine lv_iconst (v := nI 1) hx hb dLa_law_1209 (by decide) ?_
    refine lv_iadd hx hb dLa_law_1210 ?_
    refine ck_sld hx hb hX hbl hbA hS (9 * j + 1) (nI_add _ _) (by omega) (by omega) hy1 dLa_law_1211 ?_
    refine lv_if_eq (tgt := 1219) hx hb dLa_law_1212 rfl (fun _ => ?_) (fun h => absurd (hb1) h)
    refine lv_iconst (v := nI 0) hx hb dLa_law_1219 (by decide) ?_
    refine clLa_129 (As := [.int (nI 0)]) (rest := []) hx hb hml hown hts (k_CK_out l G ox oc ot oo oe op ocs ods oh ol (nI 0)) hG hA hP hD hS 1 rfl [1] rfl rfl (fun _ => rfl) rfl hl.1 rfl (Nat.le_of_ble_eq_true rfl) ⟨Nat.le_of_ble_eq_true rfl, Nat.le_of_ble_eq_true rfl⟩ ⟨Nat.le_trans (Nat.add_le_add_left (Nat.le_of_ble_eq_true rfl) _) hcf.1, Nat.le_trans (Nat.add_le_add_left (Nat.le_of_ble_eq_true rfl) _) hcf.2⟩ dLa_law_1220 (fun _ H locs _ hP hD hS => ?_)
    have hP : va_P G.1 vwCl ([aJ G oq 1 fo, oC ox 7 [.ref oc, .ref ot, .ref oo, .ref oe, .ref op, .ref ocs, .ref ods, .long oh, .long ol], oC ot 6 [.int (nI dp), .long sh, .long sl], oC oc 1 [.ref owd, .long e0, .long f0], aI G owd 44 g, oC oo 2 [.ref om], aZ G om 512 mk, oC oe 4 [.long c0, .long h0, .long l0], oC op 5 [.ref ob, .int (nI nq)], aI G ob 229 f, aH G ocs 4 (fun j => some (kk j)), aQ G ods 256 dec, moC oy r th fi se (nI dp) sh sl (nI nq) oh ol w0 w1 w2, aI G (r 0) 256 ckS, aI G (r 1) 256 ckU, aI G (r 2) 176 (bN ff), aI G (r 3) 16 (bN gg), aI G (r 4) 16 (bN mm), aZ G (r 5) 256 ins, aZ G (r 6) 1024 sb, aI G (r 7) 4 per, aJ G (r 8) 4 ph, aJ G (r 9) 4 pl, aI G (r 10) 4 ss, aI G (r 11) 1024 sv, aI G (r 12) 1024 sw, aZ G (r 13) 512 mk2, aI G (r 14) 229 f, aI G (r 15) 1024 hp, aJ G (r 16) 1024 hh, aJ G (r 17) 1024 hl9] ++ tl) H := hP
    have hD : va_D A ([aJ G oq 1 fo, oC ox 7 [.ref oc, .ref ot, .ref oo, .ref oe, .ref op, .ref ocs, .ref ods, .long oh, .long ol], oC ot 6 [.int (nI dp), .long sh, .long sl], oC oc 1 [.ref owd, .long e0, .long f0], aI G owd 44 g, oC oo 2 [.ref om], aZ G om 512 mk, oC oe 4 [.long c0, .long h0, .long l0], oC op 5 [.ref ob, .int (nI nq)], aI G ob 229 f, aH G ocs 4 (fun j => some (kk j)), aQ G ods 256 dec, moC oy r th fi se (nI dp) sh sl (nI nq) oh ol w0 w1 w2, aI G (r 0) 256 ckS, aI G (r 1) 256 ckU, aI G (r 2) 176 (bN ff), aI G (r 3) 16 (bN gg), aI G (r 4) 16 (bN mm), aZ G (r 5) 256 ins, aZ G (r 6) 1024 sb, aI G (r 7) 4 per, aJ G (r 8) 4 ph, aJ G (r 9) 4 pl, aI G (r 10) 4 ss, aI G (r 11) 1024 sv, aI G (r 12) 1024 sw, aZ G (r 13) 512 mk2, aI G (r 14) 229 f, aI G (r 15) 1024 hp, aJ G (r 16) 1024 hh, aJ G (r 17) 1024 hl9] ++ tl) := hD
    refine W.cs (cells' := 60 + 4 * j) (slots' := 20000 + 20 * j) rfl rfl ?_
    refine W.eq (g2 := F0 m 1223 ls [.long (jIf (nI 0) ol oh)]) rfl ?_
    refine lv_aload_n hx hb dLa_law_1223 rfl (lv_at hl 2 rfl) ?_
    refine lv_aload_n hx hb dLa_law_1224 rfl (lv_at hl 0 rfl) ?_
    refine lv_iload hx hb dLa_law_1225 (lv_at hl 4 rfl) ?_
    refine lv_iconst (v := nI 1) hx hb dLa_law_1227 (by decide) ?_
    refine lv_iadd hx hb dLa_law_1228 ?_
    refine ck_sld hx hb hX hbl hbA hS (9 * j + 1) (nI_add _ _) (by omega) (by omega) hy1 dLa_law_1229 ?_
    refine lv_if_eq (tgt := 1237) hx hb dLa_law_1230 rfl (fun _ => ?_) (fun h => absurd (hb1) h)
    refine lv_iconst (v := nI 0) hx hb dLa_law_1237 (by decide) ?_
    refine clLa_133 (As := [.int (nI 0)]) (rest := [.long (jIf (nI 0) ol oh)]) hx hb hml hown hts (k_Mo_out l G oy r th fi se (nI dp) sh sl (nI nq) oh ol w0 w1 w2 (nI 0)) hG hA hP hD hS 12 rfl [12] rfl rfl (fun _ => rfl) rfl hl.1 rfl (Nat.le_of_ble_eq_true rfl) ⟨Nat.le_of_ble_eq_true rfl, Nat.le_of_ble_eq_true rfl⟩ ⟨Nat.le_trans (Nat.add_le_add_left (Nat.le_of_ble_eq_true rfl) _) hcf.1, Nat.le_trans (Nat.add_le_add_left (Nat.le_of_ble_eq_true rfl) _) hcf.2⟩ dLa_law_1238 (fun _ H locs _ hP hD hS => ?_)
    have hP : va_P G.1 vwCl ([aJ G oq 1 fo, oC ox 7 [.ref oc, .ref ot, .ref oo, .ref oe, .ref op, .ref ocs, .ref ods, .long oh, .long ol], oC ot 6 [.int (nI dp), .long sh, .long sl], oC oc 1 [.ref owd, .long e0, .long f0], aI G owd 44 g, oC oo 2 [.ref om], aZ G om 512 mk, oC oe 4 [.long c0, .long h0, .long l0], oC op 5 [.ref ob, .int (nI nq)], aI G ob 229 f, aH G ocs 4 (fun j => some (kk j)), aQ G ods 256 dec, moC oy r (nI 0) fi se (nI dp) sh sl (nI nq) oh ol w0 w1 w2, aI G (r 0) 256 ckS, aI G (r 1) 256 ckU, aI G (r 2) 176 (bN ff), aI G (r 3) 16 (bN gg), aI G (r 4) 16 (bN mm), aZ G (r 5) 256 ins, aZ G (r 6) 1024 sb, aI G (r 7) 4 per, aJ G (r 8) 4 ph, aJ G (r 9) 4 pl, aI G (r 10) 4 ss, aI G (r 11) 1024 sv, aI G (r 12) 1024 sw, aZ G (r 13) 512 mk2, aI G (r 14) 229 f, aI G (r 15) 1024 hp, aJ G (r 16) 1024 hh, aJ G (r 17) 1024 hl9] ++ tl) H := hP
    have hD : va_D A ([aJ G oq 1 fo, oC ox 7 [.ref oc, .ref ot, .ref oo, .ref oe, .ref op, .ref ocs, .ref ods, .long oh, .long ol], oC ot 6 [.int (nI dp), .long sh, .long sl], oC oc 1 [.ref owd, .long e0, .long f0], aI G owd 44 g, oC oo 2 [.ref om], aZ G om 512 mk, oC oe 4 [.long c0, .long h0, .long l0], oC op 5 [.ref ob, .int (nI nq)], aI G ob 229 f, aH G ocs 4 (fun j => some (kk j)), aQ G ods 256 dec, moC oy r (nI 0) fi se (nI dp) sh sl (nI nq) oh ol w0 w1 w2, aI G (r 0) 256 ckS, aI G (r 1) 256 ckU, aI G (r 2) 176 (bN ff), aI G (r 3) 16 (bN gg), aI G (r 4) 16 (bN mm), aZ G (r 5) 256 ins, aZ G (r 6) 1024 sb, aI G (r 7) 4 per, aJ G (r 8) 4 ph, aJ G (r 9) 4 pl, aI G (r 10) 4 ss, aI G (r 11) 1024 sv, aI G (r 12) 1024 sw, aZ G (r 13) 512 mk2, aI G (r 14) 229 f, aI G (r 15) 1024 hp, aJ G (r 16) 1024 hh, aJ G (r 17) 1024 hl9] ++ tl) := hD
    refine W.cs (cells' := 60 + 4 * j) (slots' := 20000 + 20 * j) rfl rfl ?_
    refine W.eq (g2 := F0 m 1241 ls [.long (jIf (nI 0) ol oh), .long (jIf (nI 0) ol oh)]) rfl ?_
    refine W.lcmp hx hb dLa_law_1241 ?_
    refine lv_if_eq (tgt := 1641) hx hb dLa_law_1242 rfl (fun _ => ?_) (fun h => absurd ((lg_cmp_0 _ _).mpr rfl) h)
    refine lv_iinc (v := nI (9 * (j + 1))) (lv' := [(4, .int (nI (9 * (j + 1)))), (0, .ref b), (1, .ref ox), (2, .ref oy), (3, .ref oq)]) hx hb dLa_law_1641 hl (k := 4) rfl (nI_add (9 * j) 9) (by decide) rfl (fun ls hl => ?_)
    refine lv_goto (tgt := 23) hx hb dLa_law_1644 rfl ?_
    refine W.widen (k := 60 + 4 * (j + 1)) (n := 20000 + 20 * (j + 1)) (by omega) (by omega) ?_
    subst htl
    exact ih oh ol dp sh sl g e0 f0 mk c0 h0 l0 nq f dec q sz ch cl fs fv fw T fo (nI 0) fi se w0 w1 w2 ff gg mm ins sb per ph pl ss sv sw mk2 hp hh hl9 _ _ _ hdp1 hdp hR1 hR2 hR3 hR4 hP hD hS (lv_sub hl [1, 2, 3, 4, 0] rfl)
  · have hP : va_P G.1 vwCl ([aJ G oq 1 fo, oC ox 7 [.ref oc, .ref ot, .ref oo, .ref oe, .ref op, .ref ocs, .ref ods, .long oh, .long ol], oC ot 6 [.int (nI dp), .long sh, .long sl], oC oc 1 [.ref owd, .long e0, .long f0], aI G owd 44 g, oC oo 2 [.ref om], aZ G om 512 mk, oC oe 4 [.long c0, .long h0, .long l0], oC op 5 [.ref ob, .int (nI nq)], aI G ob 229 f, aH G ocs 4 (fun j => some (kk j)), aQ G ods 256 dec, moC oy r th fi se (nI dp) sh sl (nI nq) oh ol w0 w1 w2, aI G (r 0) 256 ckS, aI G (r 1) 256 ckU, aI G (r 2) 176 (bN ff), aI G (r 3) 16 (bN gg), aI G (r 4) 16 (bN mm), aZ G (r 5) 256 ins, aZ G (r 6) 1024 sb, aI G (r 7) 4 per, aJ G (r 8) 4 ph, aJ G (r 9) 4 pl, aI G (r 10) 4 ss, aI G (r 11) 1024 sv, aI G (r 12) 1024 sw, aZ G (r 13) 512 mk2, aI G (r 14) 229 f, aI G (r 15) 1024 hp, aJ G (r 16) 1024 hh, aJ G (r 17) 1024 hl9] ++ (chA (chB G kk ks kv kw q sz ch cl fs fv fw) ++ decW G T)) H := hP
    have hD : va_D A ([aJ G oq 1 fo, oC ox 7 [.ref oc, .ref ot, .ref oo, .ref oe, .ref op, .ref ocs, .ref ods, .long oh, .long ol], oC ot 6 [.int (nI dp), .long sh, .long sl], oC oc 1 [.ref owd, .long e0, .long f0], aI G owd 44 g, oC oo 2 [.ref om], aZ G om 512 mk, oC oe 4 [.long c0, .long h0, .long l0], oC op 5 [.ref ob, .int (nI nq)], aI G ob 229 f, aH G ocs 4 (fun j => some (kk j)), aQ G ods 256 dec, moC oy r th fi se (nI dp) sh sl (nI nq) oh ol w0 w1 w2, aI G (r 0) 256 ckS, aI G (r 1) 256 ckU, aI G (r 2) 176 (bN ff), aI G (r 3) 16 (bN gg), aI G (r 4) 16 (bN mm), aZ G (r 5) 256 ins, aZ G (r 6) 1024 sb, aI G (r 7) 4 per, aJ G (r 8) 4 ph, aJ G (r 9) 4 pl, aI G (r 10) 4 ss, aI G (r 11) 1024 sv, aI G (r 12) 1024 sw, aZ G (r 13) 512 mk2, aI G (r 14) 229 f, aI G (r 15) 1024 hp, aJ G (r 16) 1024 hh, aJ G (r 17) 1024 hl9] ++ (chA (chB G kk ks kv kw q sz ch cl fs fv fw) ++ decW G T)) := hD
    generalize htl : (chA (chB G kk ks kv kw q sz ch cl fs fv fw) ++ decW G T) = tl at hP hD
    refine lv_aload_n hx hb dLa_law_1205 rfl (lv_at hl 1 rfl) ?_
    refine lv_aload_n hx hb dLa_law_1206 rfl (lv_at hl 0 rfl) ?_
    refine lv_iload hx hb dLa_law_1207 (lv_at hl 4 rfl) ?_
    refine lv_iconst (v := nI 1) hx hb dLa_law_1209 (by decide) ?_
    refine lv_iadd hx hb dLa_law_1210 ?_
    refine ck_sld hx hb hX hbl hbA hS (9 * j + 1) (nI_add _ _) (by omega) (by omega) hy1 dLa_law_1211 ?_
    refine lv_if_eq (tgt := 1219) hx hb dLa_law_1212 rfl (fun h => absurd h (hb1)) (fun _ => ?_)
    refine lv_iconst (v := nI 1) hx hb dLa_law_1215 (by decide) ?_
    refine lv_goto (tgt := 1220) hx hb dLa_law_1216 rfl ?_
    refine clLa_129 (As := [.int (nI 1)]) (rest := []) hx hb hml hown hts (k_CK_out l G ox oc ot oo oe op ocs ods oh ol (nI 1)) hG hA hP hD hS 1 rfl [1] rfl rfl (fun _ => rfl) rfl hl.1 rfl (Nat.le_of_ble_eq_true rfl) ⟨Nat.le_of_ble_eq_true rfl, Nat.le_of_ble_eq_true rfl⟩ ⟨Nat.le_trans (Nat.add_le_add_left (Nat.le_of_ble_eq_true rfl) _) hcf.1, Nat.le_trans (Nat.add_le_add_left (Nat.le_of_ble_eq_true rfl) _) hcf.2⟩ dLa_law_1220 (fun _ H locs _ hP hD hS => ?_)
    have hP : va_P G.1 vwCl ([aJ G oq 1 fo, oC ox 7 [.ref oc, .ref ot, .ref oo, .ref oe, .ref op, .ref ocs, .ref ods, .long oh, .long ol], oC ot 6 [.int (nI dp), .long sh, .long sl], oC oc 1 [.ref owd, .long e0, .long f0], aI G owd 44 g, oC oo 2 [.ref om], aZ G om 512 mk, oC oe 4 [.long c0, .long h0, .long l0], oC op 5 [.ref ob, .int (nI nq)], aI G ob 229 f, aH G ocs 4 (fun j => some (kk j)), aQ G ods 256 dec, moC oy r th fi se (nI dp) sh sl (nI nq) oh ol w0 w1 w2, aI G (r 0) 256 ckS, aI G (r 1) 256 ckU, aI G (r 2) 176 (bN ff), aI G (r 3) 16 (bN gg), aI G (r 4) 16 (bN mm), aZ G (r 5) 256 ins, aZ G (r 6) 1024 sb, aI G (r 7) 4 per, aJ G (r 8) 4 ph, aJ G (r 9) 4 pl, aI G (r 10) 4 ss, aI G (r 11) 1024 sv, aI G (r 12) 1024 sw, aZ G (r 13) 512 mk2, aI G (r 14) 229 f, aI G (r 15) 1024 hp, aJ G (r 16) 1024 hh, aJ G (r 17) 1024 hl9] ++ tl) H := hP
    have hD : va_D A ([aJ G oq 1 fo, oC ox 7 [.ref oc, .ref ot, .ref oo, .ref oe, .ref op, .ref ocs, .ref ods, .long oh, .long ol], oC ot 6 [.int (nI dp), .long sh, .long sl], oC oc 1 [.ref owd, .long e0, .long f0], aI G owd 44 g, oC oo 2 [.ref om], aZ G om 512 mk, oC oe 4 [.long c0, .long h0, .long l0], oC op 5 [.ref ob, .int (nI nq)], aI G ob 229 f, aH G ocs 4 (fun j => some (kk j)), aQ G ods 256 dec, moC oy r th fi se (nI dp) sh sl (nI nq) oh ol w0 w1 w2, aI G (r 0) 256 ckS, aI G (r 1) 256 ckU, aI G (r 2) 176 (bN ff), aI G (r 3) 16 (bN gg), aI G (r 4) 16 (bN mm), aZ G (r 5) 256 ins, aZ G (r 6) 1024 sb, aI G (r 7) 4 per, aJ G (r 8) 4 ph, aJ G (r 9) 4 pl, aI G (r 10) 4 ss, aI G (r 11) 1024 sv, aI G (r 12) 1024 sw, aZ G (r 13) 512 mk2, aI G (r 14) 229 f, aI G (r 15) 1024 hp, aJ G (r 16) 1024 hh, aJ G (r 17) 1024 hl9] ++ tl) := hD
    refine W.cs (cells' := 60 + 4 * j) (slots' := 20000 + 20 * j) rfl rfl ?_
    refine W.eq (g2 := F0 m 1223 ls [.long (jIf (nI 1) ol oh)]) rfl ?_
    refine lv_aload_n hx hb dLa_law_1223 rfl (lv_at hl 2 rfl) ?_
    refine lv_aload_n hx hb dLa_law_1224 rfl (lv_at hl 0 rfl) ?_
    refine lv_iload hx hb dLa_law_1225 (lv_at hl 4 rfl) ?_
    refine lv_iconst (v := nI 1) hx hb dLa_law_1227 (by decide) ?_
    refine lv_iadd hx hb dLa_law_1228 ?_
    refine ck_sld hx hb hX hbl hbA hS (9 * j + 1) (nI_add _ _) (by omega) (by omega) hy1 dLa_law_1229 ?_
    refine lv_if_eq (tgt := 1237) hx hb dLa_law_1230 rfl (fun h => absurd h (hb1)) (fun _ => ?_)
    refine lv_iconst (v := nI 1) hx hb dLa_law_1233 (by decide) ?_
    refine lv_goto (tgt := 1238) hx hb dLa_law_1234 rfl ?_
    refine clLa_133 (As := [.int (nI 1)]) (rest := [.long (jIf (nI 1) ol oh)]) hx hb hml hown hts (k_Mo_out l G oy r th fi se (nI dp) sh sl (nI nq) oh ol w0 w1 w2 (nI 1)) hG hA hP hD hS 12 rfl [12] rfl rfl (fun _ => rfl) rfl hl.1 rfl (Nat.le_of_ble_eq_true rfl) ⟨Nat.le_of_ble_eq_true rfl, Nat.le_of_ble_eq_true rfl⟩ ⟨Nat.le_trans (Nat.add_le_add_left (Nat.le_of_ble_eq_true rfl) _) hcf.1, Nat.le_trans (Nat.add_le_add_left (Nat.le_of_ble_eq_true rfl) _) hcf.2⟩ dLa_law_1238 (fun _ H locs _ hP hD hS => ?_)
    have hP : va_P G.1 vwCl ([aJ G oq 1 fo, oC ox 7 [.ref oc, .ref ot, .ref oo, .ref oe, .ref op, .ref ocs, .ref ods, .long oh, .long ol], oC ot 6 [.int (nI dp), .long sh, .long sl], oC oc 1 [.ref owd, .long e0, .long f0], aI G owd 44 g, oC oo 2 [.ref om], aZ G om 512 mk, oC oe 4 [.long c0, .long h0, .long l0], oC op 5 [.ref ob, .int (nI nq)], aI G ob 229 f, aH G ocs 4 (fun j => some (kk j)), aQ G ods 256 dec, moC oy r (nI 0) fi se (nI dp) sh sl (nI nq) oh ol w0 w1 w2, aI G (r 0) 256 ckS, aI G (r 1) 256 ckU, aI G (r 2) 176 (bN ff), aI G (r 3) 16 (bN gg), aI G (r 4) 16 (bN mm), aZ G (r 5) 256 ins, aZ G (r 6) 1024 sb, aI G (r 7) 4 per, aJ G (r 8) 4 ph, aJ G (r 9) 4 pl, aI G (r 10) 4 ss, aI G (r 11) 1024 sv, aI G (r 12) 1024 sw, aZ G (r 13) 512 mk2, aI G (r 14) 229 f, aI G (r 15) 1024 hp, aJ G (r 16) 1024 hh, aJ G (r 17) 1024 hl9] ++ tl) H := hP
    have hD : va_D A ([aJ G oq 1 fo, oC ox 7 [.ref oc, .ref ot, .ref oo, .ref oe, .ref op, .ref ocs, .ref ods, .long oh, .long ol], oC ot 6 [.int (nI dp), .long sh, .long sl], oC oc 1 [.ref owd, .long e0, .long f0], aI G owd 44 g, oC oo 2 [.ref om], aZ G om 512 mk, oC oe 4 [.long c0, .long h0, .long l0], oC op 5 [.ref ob, .int (nI nq)], aI G ob 229 f, aH G ocs 4 (fun j => some (kk j)), aQ G ods 256 dec, moC oy r (nI 0) fi se (nI dp) sh sl (nI nq) oh ol w0 w1 w2, aI G (r 0) 256 ckS, aI G (r 1) 256 ckU, aI G (r 2) 176 (bN ff), aI G (r 3) 16 (bN gg), aI G (r 4) 16 (bN mm), aZ G (r 5) 256 ins, aZ G (r 6) 1024 sb, aI G (r 7) 4 per, aJ G (r 8) 4 ph, aJ G (r 9) 4 pl, aI G (r 10) 4 ss, aI G (r 11) 1024 sv, aI G (r 12) 1024 sw, aZ G (r 13) 512 mk2, aI G (r 14) 229 f, aI G (r 15) 1024 hp, aJ G (r 16) 1024 hh, aJ G (r 17) 1024 hl9] ++ tl) := hD
    refine W.cs (cells' := 60 + 4 * j) (slots' := 20000 + 20 * j) rfl rfl ?_
    refine W.eq (g2 := F0 m 1241 ls [.long (jIf (nI 1) ol oh), .long (jIf (nI 1) ol oh)]) rfl ?_
    refine W.lcmp hx hb dLa_law_1241 ?_
    refine lv_if_eq (tgt := 1641) hx hb dLa_law_1242 rfl (fun _ => ?_) (fun h => absurd ((lg_cmp_0 _ _).mpr rfl) h)
    refine lv_iinc (v := nI (9 * (j + 1))) (lv' := [(4, .int (nI (9 * (j + 1)))), (0, .ref b), (1, .ref ox), (2, .ref oy), (3, .ref oq)]) hx hb dLa_law_1641 hl (k := 4) rfl (nI_add (9 * j) 9) (by decide) rfl (fun ls hl => ?_)
    refine lv_goto (tgt := 23) hx hb dLa_law_1644 rfl ?_
    refine W.widen (k := 60 + 4 * (j + 1)) (n := 20000 + 20 * (j + 1)) (by omega) (by omega) ?_
    subst htl
    exact ih oh ol dp sh sl g e0 f0 mk c0 h0 l0 nq f dec q sz ch cl fs fv fw T fo (nI 0) fi se w0 w1 w2 ff gg mm ins sb per ph pl ss sv sw mk2 hp hh hl9 _ _ _ hdp1 hdp hR1 hR2 hR3 hR4 hP hD hS (lv_sub hl [1, 2, 3, 4, 0] rfl)
set_option maxHeartbeats 4000000 in
set_option maxRecDepth 100000 in
theorem law_air {p : Program} {l : Launch} {e : Env} {s : State} {m : MethodId} {below : List Frame} {meth : Method} {c : Code} {A : Nat → Prop} {G : gG} {b : Nat} {L : Nat} {xs : Nat → Int32} {ox oc owd ot oo om oe op ob ocs ods oq oy : Nat} {kk ks kv kw r : Nat → Nat} (hC0 : LC p l s m c A G b L xs) {j : Nat} (hj : 9 * j + 9 ≤ L) (ih : LAp p l e s m below meth c A G b ox oc owd ot oo om oe op ob ocs ods oq oy kk ks kv kw r 23 (j + 1)) : LAp p l e s m below meth c A G b ox oc owd ot oo om oe op ob ocs ods oq oy kk ks kv kw r 619 j := by
  intro oh ol dp sh sl g e0 f0 mk c0 h0 l0 nq f dec q sz ch cl fs fv fw T fo th fi se w0 w1 w2 ff gg mm ins sb per ph pl ss sv sw mk2 hp hh hl9 H locs ls hdp1 hdp hR1 hR2 hR3 hR4 hP hD hS hl
  obtain ⟨hx, hb, hml, hown, hts, hG, hA, hX, hbl, hbA, hl0, hLN⟩ := hC0
  have hcf : 60 + 4 * j + 4 ≤ room_1.cells ∧ 20000 + 20 * j + 20 ≤ room_1.slots := ⟨by show _ ≤ 601024; omega, by show _ ≤ 7293034; omega⟩
  have hp2 := p2_le hdp
  have hp1 := Nat.two_pow_pos dp
  have hl : lv_has ls 8 [(0, .ref b), (1, .ref ox), (2, .ref oy), (3, .ref oq), (4, .int (nI (9 * j)))] := hl
  obtain ⟨y1, hy1⟩ : ∃ y, xs (9 * j + 1) = y := ⟨_, rfl⟩
  rcases Bool.eq_false_or_eq_true (jIn nq y1) with hi | hi
  · obtain ⟨n1, hn1, rfl⟩ := jIn_t (by have := aiR_le hR4; omega) hi
    have hP : va_P G.1 vwCl ([aJ G oq 1 fo, oC ox 7 [.ref oc, .ref ot, .ref oo, .ref oe, .ref op, .ref ocs, .ref ods, .long oh, .long ol], oC ot 6 [.int (nI dp), .long sh, .long sl], oC oc 1 [.ref owd, .long e0, .long f0], aI G owd 44 g, oC oo 2 [.ref om], aZ G om 512 mk, oC oe 4 [.long c0, .long h0, .long l0], oC op 5 [.ref ob, .int (nI nq)], aI G ob 229 f, aH G ocs 4 (fun j => some (kk j)), aQ G ods 256 dec, moC oy r th fi se (nI dp) sh sl (nI nq) oh ol w0 w1 w2, aI G (r 0) 256 ckS, aI G (r 1) 256 ckU, aI G (r 2) 176 (bN ff), aI G (r 3) 16 (bN gg), aI G (r 4) 16 (bN mm), aZ G (r 5) 256 ins, aZ G (r 6) 1024 sb, aI G (r 7) 4 per, aJ G (r 8) 4 ph, aJ G (r 9) 4 pl, aI G (r 10) 4 ss, aI G (r 11) 1024 sv, aI G (r 12) 1024 sw, aZ G (r 13) 512 mk2, aI G (r 14) 229 f, aI G (r 15) 1024 hp, aJ G (r 16) 1024 hh, aJ G (r 17) 1024 hl9] ++ (chA (chB G kk ks kv kw q sz ch cl fs fv fw) ++ decW G T)) H := hP
    have hD : va_D A ([aJ G oq 1 fo, oC ox 7 [.ref oc, .ref ot, .ref oo, .ref oe, .ref op, .ref ocs, .ref ods, .long oh, .long ol], oC ot 6 [.int (nI dp), .long sh, .long sl], oC oc 1 [.ref owd, .long e0, .long f0], aI G owd 44 g, oC oo 2 [.ref om], aZ G om 512 mk, oC oe 4 [.long c0, .long h0, .long l0], oC op 5 [.ref ob, .int (nI nq)], aI G ob 229 f, aH G ocs 4 (fun j => some (kk j)), aQ G ods 256 dec, moC oy r th fi se (nI dp) sh sl (nI nq) oh ol w0 w1 w2, aI G (r 0) 256 ckS, aI G (r 1) 256 ckU, aI G (r 2) 176 (bN ff), aI G (r 3) 16 (bN gg), aI G (r 4) 16 (bN mm), aZ G (r 5) 256 ins, aZ G (r 6) 1024 sb, aI G (r 7) 4 per, aJ G (r 8) 4 ph, aJ G (r 9) 4 pl, aI G (r 10) 4 ss, aI G (r 11) 1024 sv, aI G (r 12) 1024 sw, aZ G (r 13) 512 mk2, aI G (r 14) 229 f, aI G (r 15) 1024 hp, aJ G (r 16) 1024 hh, aJ G (r 17) 1024 hl9] ++ (chA (chB G kk ks kv kw q sz ch cl fs fv fw) ++ decW G T)) := hD
    generalize htl : (chA (chB G kk ks kv kw q sz ch cl fs fv fw) ++ decW G T) = tl at hP hD
    refine lv_aload_n hx hb dLa_law_619 rfl (lv_at hl 1 rfl) ?_
    refine lv_aload_n hx hb dLa_law_620 rfl (lv_at hl 0 rfl) ?_
    refine lv_iload hx hb dLa_law_621 (lv_at hl 4 rfl) ?_
    refine lv_iconst (v := nI 1) hx hb dLa_law_623 (by decide) ?_
    refine lv_iadd hx hb dLa_law_624 ?_
    refine ck_sld hx hb hX hbl hbA hS (9 * j + 1) (nI_add _ _) (by omega) (by omega) hy1 dLa_law_625 ?_
    refine lv_aload_n hx hb dLa_law_626 rfl (lv_at hl 3 rfl) ?_
    refine clLa_108 (As := [.ref ox, .int (nI n1), .ref oq]) (rest := []) hx hb hml hown hts (w_La_air l G ox oq (nI n1) fo _ (k_CK_air l G ox oc ot oo oe op ocs ods oh ol ob nq f (aiR_le hR4) n1 hn1) rfl (fun _ => rfl)) hG hA hP hD hS [0, 1, 8, 9] rfl rfl (fun _ => rfl) rfl hl.1 rfl (Nat.le_of_ble_eq_true rfl) ⟨Nat.le_of_ble_eq_true rfl, Nat.le_of_ble_eq_true rfl⟩ ⟨Nat.le_trans (Nat.add_le_add_left (Nat.le_of_ble_eq_true rfl) _) hcf.1, Nat.le_trans (Nat.add_le_add_left (Nat.le_of_ble_eq_true rfl) _) hcf.2⟩ dLa_law_627 (fun _ H locs _ hP hD hS => ?_)
    have hP : va_P G.1 vwCl ([aJ G oq 1 (vp_updL fo 0 (f n1).toInt64), oC ox 7 [.ref oc, .ref ot, .ref oo, .ref oe, .ref op, .ref ocs, .ref ods, .long oh, .long ol], oC ot 6 [.int (nI dp), .long sh, .long sl], oC oc 1 [.ref owd, .long e0, .long f0], aI G owd 44 g, oC oo 2 [.ref om], aZ G om 512 mk, oC oe 4 [.long c0, .long h0, .long l0], oC op 5 [.ref ob, .int (nI nq)], aI G ob 229 f, aH G ocs 4 (fun j => some (kk j)), aQ G ods 256 dec, moC oy r th fi se (nI dp) sh sl (nI nq) oh ol w0 w1 w2, aI G (r 0) 256 ckS, aI G (r 1) 256 ckU, aI G (r 2) 176 (bN ff), aI G (r 3) 16 (bN gg), aI G (r 4) 16 (bN mm), aZ G (r 5) 256 ins, aZ G (r 6) 1024 sb, aI G (r 7) 4 per, aJ G (r 8) 4 ph, aJ G (r 9) 4 pl, aI G (r 10) 4 ss, aI G (r 11) 1024 sv, aI G (r 12) 1024 sw, aZ G (r 13) 512 mk2, aI G (r 14) 229 f, aI G (r 15) 1024 hp, aJ G (r 16) 1024 hh, aJ G (r 17) 1024 hl9] ++ tl) H := hP
    have hD : va_D A ([aJ G oq 1 (vp_updL fo 0 (f n1).toInt64), oC ox 7 [.ref oc, .ref ot, .ref oo, .ref oe, .ref op, .ref ocs, .ref ods, .long oh, .long ol], oC ot 6 [.int (nI dp), .long sh, .long sl], oC oc 1 [.ref owd, .long e0, .long f0], aI G owd 44 g, oC oo 2 [.ref om], aZ G om 512 mk, oC oe 4 [.long c0, .long h0, .long l0], oC op 5 [.ref ob, .int (nI nq)], aI G ob 229 f, aH G ocs 4 (fun j => some (kk j)), aQ G ods 256 dec, moC oy r th fi se (nI dp) sh sl (nI nq) oh ol w0 w1 w2, aI G (r 0) 256 ckS, aI G (r 1) 256 ckU, aI G (r 2) 176 (bN ff), aI G (r 3) 16 (bN gg), aI G (r 4) 16 (bN mm), aZ G (r 5) 256 ins, aZ G (r 6) 1024 sb, aI G (r 7) 4 per, aJ G (r 8) 4 ph, aJ G (r 9) 4 pl, aI G (r 10) 4 ss, aI G (r 11) 1024 sv, aI G (r 12) 1024 sw, aZ G (r 13) 512 mk2, aI G (r 14) 229 f, aI G (r 15) 1024 hp, aJ G (r 16) 1024 hh, aJ G (r 17) 1024 hl9] ++ tl) := hD
    refine W.widen (k := 60 + 4 * j + 4) (n := 20000 + 20 * j + 20) (Nat.add_le_add_left (Nat.le_of_ble_eq_true rfl) _) (Nat.add_le_add_left (Nat.le_of_ble_eq_true rfl) _) ?_
    refine W.eq (g2 := F0 m 630 ls [.int (nI 0)]) rfl ?_
    refine lv_istore (lv' := [(5, .int (nI 0)), (0, .ref b), (1, .ref ox), (2, .ref oy), (3, .ref oq), (4, .int (nI (9 * j)))]) hx hb dLa_law_630 hl (by decide) rfl (fun ls hl => ?_)
    refine lv_aload_n hx hb dLa_law_632 rfl (lv_at hl 3 rfl) ?_
    refine lv_aload_n hx hb dLa_law_633 rfl (lv_at hl 1 rfl) ?_
    refine lv_iload hx hb dLa_law_634 (lv_at hl 5 rfl) ?_
    refine lv_iconst (v := nI 1) hx hb dLa_law_636 (by decide) ?_
    refine lv_iadd hx hb dLa_law_637 ?_
    refine ck_sld hx hb hX hbl hbA hS (9 * j + 1) (nI_add _ _) (by omega) (by omega) hy1 dLa_law_638 ?_
    refine clLa_110 (As := [.int (nI n1)]) (rest := []) hx hb hml hown hts (k_Mo_air l G oy r th fi se (nI dp) sh sl oh ol w0 w1 w2 nq (aiR_le hR4) n1 hn1 f) hG hA hP hD hS 12 rfl [12, 27] rfl rfl (fun _ => rfl) rfl hl.1 rfl (Nat.le_of_ble_eq_true rfl) ⟨Nat.le_of_ble_eq_true rfl, Nat.le_of_ble_eq_true rfl⟩ ⟨hcf.1, hcf.2⟩ dLa_law_639 (fun _ H locs _ hP hD hS => ?_)
    have hP : va_P G.1 vwCl ([aJ G oq 1 (vp_updL fo 0 (f n1).toInt64), oC ox 7 [.ref oc, .ref ot, .ref oo, .ref oe, .ref op, .ref ocs, .ref ods, .long oh, .long ol], oC ot 6 [.int (nI dp), .long sh, .long sl], oC oc 1 [.ref owd, .long e0, .long f0], aI G owd 44 g, oC oo 2 [.ref om], aZ G om 512 mk, oC oe 4 [.long c0, .long h0, .long l0], oC op 5 [.ref ob, .int (nI nq)], aI G ob 229 f, aH G ocs 4 (fun j => some (kk j)), aQ G ods 256 dec, moC oy r (nI 0) fi se (nI dp) sh sl (nI nq) oh ol w0 w1 w2, aI G (r 0) 256 ckS, aI G (r 1) 256 ckU, aI G (r 2) 176 (bN ff), aI G (r 3) 16 (bN gg), aI G (r 4) 16 (bN mm), aZ G (r 5) 256 ins, aZ G (r 6) 1024 sb, aI G (r 7) 4 per, aJ G (r 8) 4 ph, aJ G (r 9) 4 pl, aI G (r 10) 4 ss, aI G (r 11) 1024 sv, aI G (r 12) 1024 sw, aZ G (r 13) 512 mk2, aI G (r 14) 229 f, aI G (r 15) 1024 hp, aJ G (r 16) 1024 hh, aJ G (r 17) 1024 hl9] ++ tl) H := hP
    have hD : va_D A ([aJ G oq 1 (vp_updL fo 0 (f n1).toInt64), oC ox 7 [.ref oc, .ref ot, .ref oo, .ref oe, .ref op, .ref ocs, .ref ods, .long oh, .long ol], oC ot 6 [.int (nI dp), .long sh, .long sl], oC oc 1 [.ref owd, .long e0, .long f0], aI G owd 44 g, oC oo 2 [.ref om], aZ G om 512 mk, oC oe 4 [.long c0, .long h0, .long l0], oC op 5 [.ref ob, .int (nI nq)], aI G ob 229 f, aH G ocs 4 (fun j => some (kk j)), aQ G ods 256 dec, moC oy r (nI 0) fi se (nI dp) sh sl (nI nq) oh ol w0 w1 w2, aI G (r 0) 256 ckS, aI G (r 1) 256 ckU, aI G (r 2) 176 (bN ff), aI G (r 3) 16 (bN gg), aI G (r 4) 16 (bN mm), aZ G (r 5) 256 ins, aZ G (r 6) 1024 sb, aI G (r 7) 4 per, aJ G (r 8) 4 ph, aJ G (r 9) 4 pl, aI G (r 10) 4 ss, aI G (r 11) 1024 sv, aI G (r 12) 1024 sw, aZ G (r 13) 512 mk2, aI G (r 14) 229 f, aI G (r 15) 1024 hp, aJ G (r 16) 1024 hh, aJ G (r 17) 1024 hl9] ++ tl) := hD
    refine W.cs (cells' := 60 + 4 * j + 4) (slots' := 20000 + 20 * j + 20) rfl rfl ?_
    refine W.eq (g2 := F0 m 642 ls [.int (f n1)]) rfl ?_
    refine lv_istore (lv' := [(6, .int (f n1)), (5, .int (nI 0)), (0, .ref b), (1, .ref ox), (2, .ref oy), (3, .ref oq), (4, .int (nI (9 * j)))]) hx hb dLa_law_642 hl (by decide) rfl (fun ls hl => ?_)
    refine lv_aload_n hx hb dLa_law_644 rfl (lv_at hl 4 rfl) ?_
    refine clLa_88 (As := []) (rest := []) hx hb hml hown hts (k_Mo_thrown l G oy r (nI 0) fi se (nI dp) sh sl (nI nq) oh ol w0 w1 w2) hG hA hP hD hS 12 rfl [12] rfl rfl (fun _ => rfl) rfl hl.1 rfl (Nat.le_of_ble_eq_true rfl) ⟨Nat.le_of_ble_eq_true rfl, Nat.le_of_ble_eq_true rfl⟩ ⟨hcf.1, hcf.2⟩ dLa_law_645 (fun _ H locs _ hP hD hS => ?_)
    have hP : va_P G.1 vwCl ([aJ G oq 1 (vp_updL fo 0 (f n1).toInt64), oC ox 7 [.ref oc, .ref ot, .ref oo, .ref oe, .ref op, .ref ocs, .ref ods, .long oh, .long ol], oC ot 6 [.int (nI dp), .long sh, .long sl], oC oc 1 [.ref owd, .long e0, .long f0], aI G owd 44 g, oC oo 2 [.ref om], aZ G om 512 mk, oC oe 4 [.long c0, .long h0, .long l0], oC op 5 [.ref ob, .int (nI nq)], aI G ob 229 f, aH G ocs 4 (fun j => some (kk j)), aQ G ods 256 dec, moC oy r (nI 0) fi se (nI dp) sh sl (nI nq) oh ol w0 w1 w2, aI G (r 0) 256 ckS, aI G (r 1) 256 ckU, aI G (r 2) 176 (bN ff), aI G (r 3) 16 (bN gg), aI G (r 4) 16 (bN mm), aZ G (r 5) 256 ins, aZ G (r 6) 1024 sb, aI G (r 7) 4 per, aJ G (r 8) 4 ph, aJ G (r 9) 4 pl, aI G (r 10) 4 ss, aI G (r 11) 1024 sv, aI G (r 12) 1024 sw, aZ G (r 13) 512 mk2, aI G (r 14) 229 f, aI G (r 15) 1024 hp, aJ G (r 16) 1024 hh, aJ G (r 17) 1024 hl9] ++ tl) H := hP
    have hD : va_D A ([aJ G oq 1 (vp_updL fo 0 (f n1).toInt64), oC ox 7 [.ref oc, .ref ot, .ref oo, .ref oe, .ref op, .ref ocs, .ref ods, .long oh, .long ol], oC ot 6 [.int (nI dp), .long sh, .long sl], oC oc 1 [.ref owd, .long e0, .long f0], aI G owd 44 g, oC oo 2 [.ref om], aZ G om 512 mk, oC oe 4 [.long c0, .long h0, .long l0], oC op 5 [.ref ob, .int (nI nq)], aI G ob 229 f, aH G ocs 4 (fun j => some (kk j)), aQ G ods 256 dec, moC oy r (nI 0) fi se (nI dp) sh sl (nI nq) oh ol w0 w1 w2, aI G (r 0) 256 ckS, aI G (r 1) 256 ckU, aI G (r 2) 176 (bN ff), aI G (r 3) 16 (bN gg), aI G (r 4) 16 (bN mm), aZ G (r 5) 256 ins, aZ G (r 6) 1024 sb, aI G (r 7) 4 per, aJ G (r 8) 4 ph, aJ G (r 9) 4 pl, aI G (r 10) 4 ss, aI G (r 11) 1024 sv, aI G (r 12) 1024 sw, aZ G (r 13) 512 mk2, aI G (r 14) 229 f, aI G (r 15) 1024 hp, aJ G (r 16) 1024 hh, aJ G (r 17) 1024 hl9] ++ tl) := hD
    refine W.cs (cells' := 60 + 4 * j + 4) (slots' := 20000 + 20 * j + 20) rfl rfl ?_
    refine W.eq (g2 := F0 m 648 ls [.int (nI 0)]) rfl ?_
    refine lv_iload hx hb dLa_law_648 (lv_at hl 1 rfl) ?_
    refine lv_icmp_eq (tgt := 655) hx hb dLa_law_650 rfl (fun _ => ?_) (fun h => absurd (rfl) h)
    refine lv_iload hx hb dLa_law_655 (lv_at hl 1 rfl) ?_
    refine lv_if_ne (tgt := 672) hx hb dLa_law_657 rfl (fun h => absurd (rfl) h) (fun _ => ?_)
    refine lv_aload_n hx hb dLa_law_660 rfl (lv_at hl 5 rfl) ?_
    refine lv_iconst (v := nI 0) hx hb dLa_law_661 (by decide) ?_
    refine ck_lald hx hb hG hP 0 rfl (by decide) 0 (rfl) (by decide) dLa_law_662 ?_
    refine ck_rl (y := (f n1).toInt64) (rfl) ?_
    refine lv_iload hx hb dLa_law_663 (lv_at hl 0 rfl) ?_
    refine lv_i2l (v := (f n1).toInt64) hx hb dLa_law_665 rfl ?_
    refine W.lcmp hx hb dLa_law_666 ?_
    refine lv_if_eq (tgt := 672) hx hb dLa_law_667 rfl (fun _ => ?_) (fun h => absurd ((lg_cmp_0 _ _).mpr (rfl)) h)
    refine lv_goto (tgt := 1641) hx hb dLa_law_672 rfl ?_
    refine lv_iinc (v := nI (9 * (j + 1))) (lv' := [(4, .int (nI (9 * (j + 1)))), (6, .int (f n1)), (5, .int (nI 0)), (0, .ref b), (1, .ref ox), (2, .ref oy), (3, .ref oq)]) hx hb dLa_law_1641 hl (k := 6) rfl (nI_add (9 * j) 9) (by decide) rfl (fun ls hl => ?_)
    refine lv_goto (tgt := 23) hx hb dLa_law_1644 rfl ?_
    refine W.cs (cells' := 60 + 4 * (j + 1)) (slots' := 20000 + 20 * (j + 1)) (by omega) (by omega) ?_
    subst htl
    exact ih oh ol dp sh sl g e0 f0 mk c0 h0 l0 nq f dec q sz ch cl fs fv fw T (vp_updL fo 0 (f n1).toInt64) (nI 0) fi se w0 w1 w2 ff gg mm ins sb per ph pl ss sv sw mk2 hp hh hl9 _ _ _ hdp1 hdp hR1 hR2 hR3 hR4 hP hD hS (lv_sub hl [3, 4, 5, 6, 0] rfl)
  · have hP : va_P G.1 vwCl ([aJ G oq 1 fo, oC ox 7 [.ref oc, .ref ot, .ref oo, .ref oe, .ref op, .ref ocs, .ref ods, .long oh, .long ol], oC ot 6 [.int (nI dp), .long sh, .long sl], oC oc 1 [.ref owd, .long e0, .long f0], aI G owd 44 g, oC oo 2 [.ref om], aZ G om 512 mk, oC oe 4 [.long c0, .long h0, .long l0], oC op 5 [.ref ob, .int (nI nq)], aI G ob 229 f, aH G ocs 4 (fun j => some (kk j)), aQ G ods 256 dec, moC oy r th fi se (nI dp) sh sl (nI nq) oh ol w0 w1 w2, aI G (r 0) 256 ckS, aI G (r 1) 256 ckU, aI G (r 2) 176 (bN ff), aI G (r 3) 16 (bN gg), aI G (r 4) 16 (bN mm), aZ G (r 5) 256 ins, aZ G (r 6) 1024 sb, aI G (r 7) 4 per, aJ G (r 8) 4 ph, aJ G (r 9) 4 pl, aI G (r 10) 4 ss, aI G (r 11) 1024 sv, aI G (r 12) 1024 sw, aZ G (r 13) 512 mk2, aI G (r 14) 229 f, aI G (r 15) 1024 hp, aJ G (r 16) 1024 hh, aJ G (r 17) 1024 hl9] ++ (chA (chB G kk ks kv kw q sz ch cl fs fv fw) ++ decW G T)) H := hP
    have hD : va_D A ([aJ G oq 1 fo, oC ox 7 [.ref oc, .ref ot, .ref oo, .ref oe, .ref op, .ref ocs, .ref ods, .long oh, .long ol], oC ot 6 [.int (nI dp), .long sh, .long sl], oC oc 1 [.ref owd, .long e0, .long f0], aI G owd 44 g, oC oo 2 [.ref om], aZ G om 512 mk, oC oe 4 [.long c0, .long h0, .long l0], oC op 5 [.ref ob, .int (nI nq)], aI G ob 229 f, aH G ocs 4 (fun j => some (kk j)), aQ G ods 256 dec, moC oy r th fi se (nI dp) sh sl (nI nq) oh ol w0 w1 w2, aI G (r 0) 256 ckS, aI G (r 1) 256 ckU, aI G (r 2) 176 (bN ff), aI G (r 3) 16 (bN gg), aI G (r 4) 16 (bN mm), aZ G (r 5) 256 ins, aZ G (r 6) 1024 sb, aI G (r 7) 4 per, aJ G (r 8) 4 ph, aJ G (r 9) 4 pl, aI G (r 10) 4 ss, aI G (r 11) 1024 sv, aI G (r 12) 1024 sw, aZ G (r 13) 512 mk2, aI G (r 14) 229 f, aI G (r 15) 1024 hp, aJ G (r 16) 1024 hh, aJ G (r 17) 1024 hl9] ++ (chA (chB G kk ks kv kw q sz ch cl fs fv fw) ++ decW G T)) := hD
    generalize htl : (chA (chB G kk ks kv kw q sz ch cl fs fv fw) ++ decW G T) = tl at hP hD
    refine lv_aload_n hx hb dLa_law_619 rfl (lv_at hl 1 rfl) ?_
    refine lv_aload_n hx hb dLa_law_620 rfl (lv_at hl 0 rfl) ?_
    refine lv_iload hx hb dLa_law_621 (lv_at hl 4 rfl) ?_
    refine lv_iconst (v := nI 1) hx hb dLa_law_623 (by decide) ?_
    refine lv_iadd hx hb dLa_law_624 ?_
    refine ck_sld hx hb hX hbl hbA hS (9 * j + 1) (nI_add _ _) (by omega) (by omega) hy1 dLa_law_625 ?_
    refine lv_aload_n hx hb dLa_law_626 rfl (lv_at hl 3 rfl) ?_
    refine clLa_108 (As := [.ref ox, .int y1, .ref oq]) (rest := []) hx hb hml hown hts (w_La_air_IOB (wi := [oC ox 7 [.ref oc, .ref ot, .ref oo, .ref oe, .ref op, .ref ocs, .ref ods, .long oh, .long ol], oC op 5 [.ref ob, .int (nI nq)]]) l G ox oq y1 (x_CK_air l hl0 G ox oc ot oo oe op ocs ods oh ol ob nq y1 hi) 0 rfl [0, 1] rfl rfl rfl) hG hA hP hD hS [1, 8] rfl rfl (fun _ => rfl) rfl hl.1 rfl (Nat.le_of_ble_eq_true rfl) ⟨Nat.le_of_ble_eq_true rfl, Nat.le_of_ble_eq_true rfl⟩ ⟨Nat.le_trans (Nat.add_le_add_left (Nat.le_of_ble_eq_true rfl) _) hcf.1, Nat.le_trans (Nat.add_le_add_left (Nat.le_of_ble_eq_true rfl) _) hcf.2⟩ dLa_law_627 (fun _ H locs _ hP hD hS => ?_)
    have hP : va_P G.1 vwCl ([aJ G oq 1 fo, oC ox 7 [.ref oc, .ref ot, .ref oo, .ref oe, .ref op, .ref ocs, .ref ods, .long oh, .long ol], oC ot 6 [.int (nI dp), .long sh, .long sl], oC oc 1 [.ref owd, .long e0, .long f0], aI G owd 44 g, oC oo 2 [.ref om], aZ G om 512 mk, oC oe 4 [.long c0, .long h0, .long l0], oC op 5 [.ref ob, .int (nI nq)], aI G ob 229 f, aH G ocs 4 (fun j => some (kk j)), aQ G ods 256 dec, moC oy r th fi se (nI dp) sh sl (nI nq) oh ol w0 w1 w2, aI G (r 0) 256 ckS, aI G (r 1) 256 ckU, aI G (r 2) 176 (bN ff), aI G (r 3) 16 (bN gg), aI G (r 4) 16 (bN mm), aZ G (r 5) 256 ins, aZ G (r 6) 1024 sb, aI G (r 7) 4 per, aJ G (r 8) 4 ph, aJ G (r 9) 4 pl, aI G (r 10) 4 ss, aI G (r 11) 1024 sv, aI G (r 12) 1024 sw, aZ G (r 13) 512 mk2, aI G (r 14) 229 f, aI G (r 15) 1024 hp, aJ G (r 16) 1024 hh, aJ G (r 17) 1024 hl9] ++ tl) H := hP
    have hD : va_D A ([aJ G oq 1 fo, oC ox 7 [.ref oc, .ref ot, .ref oo, .ref oe, .ref op, .ref ocs, .ref ods, .long oh, .long ol], oC ot 6 [.int (nI dp), .long sh, .long sl], oC oc 1 [.ref owd, .long e0, .long f0], aI G owd 44 g, oC oo 2 [.ref om], aZ G om 512 mk, oC oe 4 [.long c0, .long h0, .long l0], oC op 5 [.ref ob, .int (nI nq)], aI G ob 229 f, aH G ocs 4 (fun j => some (kk j)), aQ G ods 256 dec, moC oy r th fi se (nI dp) sh sl (nI nq) oh ol w0 w1 w2, aI G (r 0) 256 ckS, aI G (r 1) 256 ckU, aI G (r 2) 176 (bN ff), aI G (r 3) 16 (bN gg), aI G (r 4) 16 (bN mm), aZ G (r 5) 256 ins, aZ G (r 6) 1024 sb, aI G (r 7) 4 per, aJ G (r 8) 4 ph, aJ G (r 9) 4 pl, aI G (r 10) 4 ss, aI G (r 11) 1024 sv, aI G (r 12) 1024 sw, aZ G (r 13) 512 mk2, aI G (r 14) 229 f, aI G (r 15) 1024 hp, aJ G (r 16) 1024 hh, aJ G (r 17) 1024 hl9] ++ tl) := hD
    refine W.widen (k := 60 + 4 * j + 4) (n := 20000 + 20 * j + 20) (Nat.add_le_add_left (Nat.le_of_ble_eq_true rfl) _) (Nat.add_le_add_left (Nat.le_of_ble_eq_true rfl) _) ?_
    refine W.eq (g2 := F0 m 630 ls [.int (nI 1)]) rfl ?_
    refine lv_istore (lv' := [(5, .int (nI 1)), (0, .ref b), (1, .ref ox), (2, .ref oy), (3, .ref oq), (4, .int (nI (9 * j)))]) hx hb dLa_law_630 hl (by decide) rfl (fun ls hl => ?_)
    refine lv_aload_n hx hb dLa_law_632 rfl (lv_at hl 3 rfl) ?_
    refine lv_aload_n hx hb dLa_law_633 rfl (lv_at hl 1 rfl) ?_
    refine lv_iload hx hb dLa_law_634 (lv_at hl 5 rfl) ?_
    refine lv_iconst (v := nI 1) hx hb dLa_law_636 (by decide) ?_
    refine lv_iadd hx hb dLa_law_637 ?_
    refine ck_sld hx hb hX hbl hbA hS (9 * j + 1) (nI_add _ _) (by omega) (by omega) hy1 dLa_law_638 ?_
    refine clLa_110 (As := [.int y1]) (rest := []) hx hb hml hown hts (k_Mo_air_e l G oy r th fi se (nI dp) sh sl oh ol w0 w1 w2 nq y1 hi) hG hA hP hD hS 12 rfl [12] rfl rfl (fun _ => rfl) rfl hl.1 rfl (Nat.le_of_ble_eq_true rfl) ⟨Nat.le_of_ble_eq_true rfl, Nat.le_of_ble_eq_true rfl⟩ ⟨hcf.1, hcf.2⟩ dLa_law_639 (fun _ H locs _ hP hD hS => ?_)
    have hP : va_P G.1 vwCl ([aJ G oq 1 fo, oC ox 7 [.ref oc, .ref ot, .ref oo, .ref oe, .ref op, .ref ocs, .ref ods, .long oh, .long ol], oC ot 6 [.int (nI dp), .long sh, .long sl], oC oc 1 [.ref owd, .long e0, .long f0], aI G owd 44 g, oC oo 2 [.ref om], aZ G om 512 mk, oC oe 4 [.long c0, .long h0, .long l0], oC op 5 [.ref ob, .int (nI nq)], aI G ob 229 f, aH G ocs 4 (fun j => some (kk j)), aQ G ods 256 dec, moC oy r (nI 1) fi se (nI dp) sh sl (nI nq) oh ol w0 w1 w2, aI G (r 0) 256 ckS, aI G (r 1) 256 ckU, aI G (r 2) 176 (bN ff), aI G (r 3) 16 (bN gg), aI G (r 4) 16 (bN mm), aZ G (r 5) 256 ins, aZ G (r 6) 1024 sb, aI G (r 7) 4 per, aJ G (r 8) 4 ph, aJ G (r 9) 4 pl, aI G (r 10) 4 ss, aI G (r 11) 1024 sv, aI G (r 12) 1024 sw, aZ G (r 13) 512 mk2, aI G (r 14) 229 f, aI G (r 15) 1024 hp, aJ G (r 16) 1024 hh, aJ G (r 17) 1024 hl9] ++ tl) H := hP
    have hD : va_D A ([aJ G oq 1 fo, oC ox 7 [.ref oc, .ref ot, .ref oo, .ref oe, .ref op, .ref ocs, .ref ods, .long oh, .long ol], oC ot 6 [.int (nI dp), .long sh, .long sl], oC oc 1 [.ref owd, .long e0, .long f0], aI G owd 44 g, oC oo 2 [.ref om], aZ G om 512 mk, oC oe 4 [.long c0, .long h0, .long l0], oC op 5 [.ref ob, .int (nI nq)], aI G ob 229 f, aH G ocs 4 (fun j => some (kk j)), aQ G ods 256 dec, moC oy r (nI 1) fi se (nI dp) sh sl (nI nq) oh ol w0 w1 w2, aI G (r 0) 256 ckS, aI G (r 1) 256 ckU, aI G (r 2) 176 (bN ff), aI G (r 3) 16 (bN gg), aI G (r 4) 16 (bN mm), aZ G (r 5) 256 ins, aZ G (r 6) 1024 sb, aI G (r 7) 4 per, aJ G (r 8) 4 ph, aJ G (r 9) 4 pl, aI G (r 10) 4 ss, aI G (r 11) 1024 sv, aI G (r 12) 1024 sw, aZ G (r 13) 512 mk2, aI G (r 14) 229 f, aI G (r 15) 1024 hp, aJ G (r 16) 1024 hh, aJ G (r 17) 1024 hl9] ++ tl) := hD
    refine W.cs (cells' := 60 + 4 * j + 4) (slots' := 20000 + 20 * j + 20) rfl rfl ?_
    refine W.eq (g2 := F0 m 642 ls [.int (nI 0)]) rfl ?_
    refine lv_istore (lv' := [(6, .int (nI 0)), (5, .int (nI 1)), (0, .ref b), (1, .ref ox), (2, .ref oy), (3, .ref oq), (4, .int (nI (9 * j)))]) hx hb dLa_law_642 hl (by decide) rfl (fun ls hl => ?_)
    refine lv_aload_n hx hb dLa_law_644 rfl (lv_at hl 4 rfl) ?_
    refine clLa_88 (As := []) (rest := []) hx hb hml hown hts (k_Mo_thrown l G oy r (nI 1) fi se (nI dp) sh sl (nI nq) oh ol w0 w1 w2) hG hA hP hD hS 12 rfl [12] rfl rfl (fun _ => rfl) rfl hl.1 rfl (Nat.le_of_ble_eq_true rfl) ⟨Nat.le_of_ble_eq_true rfl, Nat.le_of_ble_eq_true rfl⟩ ⟨hcf.1, hcf.2⟩ dLa_law_645 (fun _ H locs _ hP hD hS => ?_)
    have hP : va_P G.1 vwCl ([aJ G oq 1 fo, oC ox 7 [.ref oc, .ref ot, .ref oo, .ref oe, .ref op, .ref ocs, .ref ods, .long oh, .long ol], oC ot 6 [.int (nI dp), .long sh, .long sl], oC oc 1 [.ref owd, .long e0, .long f0], aI G owd 44 g, oC oo 2 [.ref om], aZ G om 512 mk, oC oe 4 [.long c0, .long h0, .long l0], oC op 5 [.ref ob, .int (nI nq)], aI G ob 229 f, aH G ocs 4 (fun j => some (kk j)), aQ G ods 256 dec, moC oy r (nI 1) fi se (nI dp) sh sl (nI nq) oh ol w0 w1 w2, aI G (r 0) 256 ckS, aI G (r 1) 256 ckU, aI G (r 2) 176 (bN ff), aI G (r 3) 16 (bN gg), aI G (r 4) 16 (bN mm), aZ G (r 5) 256 ins, aZ G (r 6) 1024 sb, aI G (r 7) 4 per, aJ G (r 8) 4 ph, aJ G (r 9) 4 pl, aI G (r 10) 4 ss, aI G (r 11) 1024 sv, aI G (r 12) 1024 sw, aZ G (r 13) 512 mk2, aI G (r 14) 229 f, aI G (r 15) 1024 hp, aJ G (r 16) 1024 hh, aJ G (r 17) 1024 hl9] ++ tl) H := hP
    have hD : va_D A ([aJ G oq 1 fo, oC ox 7 [.ref oc, .ref ot, .ref oo, .ref oe, .ref op, .ref ocs, .ref ods, .long oh, .long ol], oC ot 6 [.int (nI dp), .long sh, .long sl], oC oc 1 [.ref owd, .long e0, .long f0], aI G owd 44 g, oC oo 2 [.ref om], aZ G om 512 mk, oC oe 4 [.long c0, .long h0, .long l0], oC op 5 [.ref ob, .int (nI nq)], aI G ob 229 f, aH G ocs 4 (fun j => some (kk j)), aQ G ods 256 dec, moC oy r (nI 1) fi se (nI dp) sh sl (nI nq) oh ol w0 w1 w2, aI G (r 0) 256 ckS, aI G (r 1) 256 ckU, aI G (r 2) 176 (bN ff), aI G (r 3) 16 (bN gg), aI G (r 4) 16 (bN mm), aZ G (r 5) 256 ins, aZ G (r 6) 1024 sb, aI G (r 7) 4 per, aJ G (r 8) 4 ph, aJ G (r 9) 4 pl, aI G (r 10) 4 ss, aI G (r 11) 1024 sv, aI G (r 12) 1024 sw, aZ G (r 13) 512 mk2, aI G (r 14) 229 f, aI G (r 15) 1024 hp, aJ G (r 16) 1024 hh, aJ G (r 17) 1024 hl9] ++ tl) := hD
    refine W.cs (cells' := 60 + 4 * j + 4) (slots' := 20000 + 20 * j + 20) rfl rfl ?_
    refine W.eq (g2 := F0 m 648 ls [.int (nI 1)]) rfl ?_
    refine lv_iload hx hb dLa_law_648 (lv_at hl 1 rfl) ?_
    refine lv_icmp_eq (tgt := 655) hx hb dLa_law_650 rfl (fun _ => ?_) (fun h => absurd (rfl) h)
    refine lv_iload hx hb dLa_law_655 (lv_at hl 1 rfl) ?_
    refine lv_if_ne (tgt := 672) hx hb dLa_law_657 rfl (fun _ => ?_) (fun h => absurd h (by decide))
    refine lv_goto (tgt := 1641) hx hb dLa_law_672 rfl ?_
    refine lv_iinc (v := nI (9 * (j + 1))) (lv' := [(4, .int (nI (9 * (j + 1)))), (6, .int (nI 0)), (5, .int (nI 1)), (0, .ref b), (1, .ref ox), (2, .ref oy), (3, .ref oq)]) hx hb dLa_law_1641 hl (k := 6) rfl (nI_add (9 * j) 9) (by decide) rfl (fun ls hl => ?_)
    refine lv_goto (tgt := 23) hx hb dLa_law_1644 rfl ?_
    refine W.cs (cells' := 60 + 4 * (j + 1)) (slots' := 20000 + 20 * (j + 1)) (by omega) (by omega) ?_
    subst htl
    exact ih oh ol dp sh sl g e0 f0 mk c0 h0 l0 nq f dec q sz ch cl fs fv fw T fo (nI 1) fi se w0 w1 w2 ff gg mm ins sb per ph pl ss sv sw mk2 hp hh hl9 _ _ _ hdp1 hdp hR1 hR2 hR3 hR4 hP hD hS (lv_sub hl [3, 4, 5, 6, 0] rfl)
set_option maxHeartbeats 4000000 in
set_option maxRecDepth 100000 in
theorem law_flip {p : Program} {l : Launch} {e : Env} {s : State} {m : MethodId} {below : List Frame} {meth : Method} {c : Code} {A : Nat → Prop} {G : gG} {b : Nat} {L : Nat} {xs : Nat → Int32} {ox oc owd ot oo om oe op ob ocs ods oq oy : Nat} {kk ks kv kw r : Nat → Nat} (hC0 : LC p l s m c A G b L xs) {j : Nat} (hj : 9 * j + 9 ≤ L) (ih : LAp p l e s m below meth c A G b ox oc owd ot oo om oe op ob ocs ods oq oy kk ks kv kw r 23 (j + 1)) : LAp p l e s m below meth c A G b ox oc owd ot oo om oe op ob ocs ods oq oy kk ks kv kw r 675 j := by
  intro oh ol dp sh sl g e0 f0 mk c0 h0 l0 nq f dec q sz ch cl fs fv fw T fo th fi se w0 w1 w2 ff gg mm ins sb per ph pl ss sv sw mk2 hp hh hl9 H locs ls hdp1 hdp hR1 hR2 hR3 hR4 hP hD hS hl
  obtain ⟨hx, hb, hml, hown, hts, hG, hA, hX, hbl, hbA, hl0, hLN⟩ := hC0
  have hcf : 60 + 4 * j + 4 ≤ room_1.cells ∧ 20000 + 20 * j + 20 ≤ room_1.slots := ⟨by show _ ≤ 601024; omega, by show _ ≤ 7293034; omega⟩
  have hp2 := p2_le hdp
  have hp1 := Nat.two_pow_pos dp
  have hl : lv_has ls 8 [(0, .ref b), (1, .ref ox), (2, .ref oy), (3, .ref oq), (4, .int (nI (9 * j)))] := hl
  obtain ⟨y1, hy1⟩ : ∃ y, xs (9 * j + 1) = y := ⟨_, rfl⟩
  obtain ⟨y2, hy2⟩ : ∃ y, xs (9 * j + 2) = y := ⟨_, rfl⟩
  rcases Bool.eq_false_or_eq_true (jIn nq y1) with hi | hi
  · obtain ⟨n1, hn1, rfl⟩ := jIn_t (by have := aiR_le hR4; omega) hi
    have hP : va_P G.1 vwCl ([aJ G oq 1 fo, oC ox 7 [.ref oc, .ref ot, .ref oo, .ref oe, .ref op, .ref ocs, .ref ods, .long oh, .long ol], oC ot 6 [.int (nI dp), .long sh, .long sl], oC oc 1 [.ref owd, .long e0, .long f0], aI G owd 44 g, oC oo 2 [.ref om], aZ G om 512 mk, oC oe 4 [.long c0, .long h0, .long l0], oC op 5 [.ref ob, .int (nI nq)], aI G ob 229 f, aH G ocs 4 (fun j => some (kk j)), aQ G ods 256 dec, moC oy r th fi se (nI dp) sh sl (nI nq) oh ol w0 w1 w2, aI G (r 0) 256 ckS, aI G (r 1) 256 ckU, aI G (r 2) 176 (bN ff), aI G (r 3) 16 (bN gg), aI G (r 4) 16 (bN mm), aZ G (r 5) 256 ins, aZ G (r 6) 1024 sb, aI G (r 7) 4 per, aJ G (r 8) 4 ph, aJ G (r 9) 4 pl, aI G (r 10) 4 ss, aI G (r 11) 1024 sv, aI G (r 12) 1024 sw, aZ G (r 13) 512 mk2, aI G (r 14) 229 f, aI G (r 15) 1024 hp, aJ G (r 16) 1024 hh, aJ G (r 17) 1024 hl9] ++ (chA (chB G kk ks kv kw q sz ch cl fs fv fw) ++ decW G T)) H := hP
    have hD : va_D A ([aJ G oq 1 fo, oC ox 7 [.ref oc, .ref ot, .ref oo, .ref oe, .ref op, .ref ocs, .ref ods, .long oh, .long ol], oC ot 6 [.int (nI dp), .long sh, .long sl], oC oc 1 [.ref owd, .long e0, .long f0], aI G owd 44 g, oC oo 2 [.ref om], aZ G om 512 mk, oC oe 4 [.long c0, .long h0, .long l0], oC op 5 [.ref ob, .int (nI nq)], aI G ob 229 f, aH G ocs 4 (fun j => some (kk j)), aQ G ods 256 dec, moC oy r th fi se (nI dp) sh sl (nI nq) oh ol w0 w1 w2, aI G (r 0) 256 ckS, aI G (r 1) 256 ckU, aI G (r 2) 176 (bN ff), aI G (r 3) 16 (bN gg), aI G (r 4) 16 (bN mm), aZ G (r 5) 256 ins, aZ G (r 6) 1024 sb, aI G (r 7) 4 per, aJ G (r 8) 4 ph, aJ G (r 9) 4 pl, aI G (r 10) 4 ss, aI G (r 11) 1024 sv, aI G (r 12) 1024 sw, aZ G (r 13) 512 mk2, aI G (r 14) 229 f, aI G (r 15) 1024 hp, aJ G (r 16) 1024 hh, aJ G (r 17) 1024 hl9] ++ (chA (chB G kk ks kv kw q sz ch cl fs fv fw) ++ decW G T)) := hD
    generalize htl : (chA (chB G kk ks kv kw q sz ch cl fs fv fw) ++ decW G T) = tl at hP hD
    refine lv_aload_n hx hb dLa_law_675 rfl (lv_at hl 1 rfl) ?_
    refine lv_aload_n hx hb dLa_law_676 rfl (lv_at hl 0 rfl) ?_
    refine lv_iload hx hb dLa_law_677 (lv_at hl 4 rfl) ?_
    refine lv_iconst (v := nI 1) hx hb dLa_law_679 (by decide) ?_
    refine lv_iadd hx hb dLa_law_680 ?_
    refine ck_sld hx hb hX hbl hbA hS (9 * j + 1) (nI_add _ _) (by omega) (by omega) hy1 dLa_law_681 ?_
    refine lv_aload_n hx hb dLa_law_682 rfl (lv_at hl 0 rfl) ?_
    refine lv_iload hx hb dLa_law_683 (lv_at hl 4 rfl) ?_
    refine lv_iconst (v := nI 2) hx hb dLa_law_685 (by decide) ?_
    refine lv_iadd hx hb dLa_law_686 ?_
    refine ck_sld hx hb hX hbl hbA hS (9 * j + 2) (nI_add _ _) (by omega) (by omega) hy2 dLa_law_687 ?_
    refine clLa_111 (As := [.ref ox, .int (nI n1), .int y2]) (rest := []) hx hb hml hown hts (w_La_flip l G ox (nI n1) y2 (k_CK_flip l G ox oc ot oo oe op ocs ods oh ol ob nq f (aiR_le hR4) n1 hn1 y2) rfl (fun _ => rfl)) hG hA hP hD hS [1, 8, 9] rfl rfl (fun _ => rfl) rfl hl.1 rfl (Nat.le_of_ble_eq_true rfl) ⟨Nat.le_of_ble_eq_true rfl, Nat.le_of_ble_eq_true rfl⟩ ⟨Nat.le_trans (Nat.add_le_add_left (Nat.le_of_ble_eq_true rfl) _) hcf.1, Nat.le_trans (Nat.add_le_add_left (Nat.le_of_ble_eq_true rfl) _) hcf.2⟩ dLa_law_688 (fun _ H locs _ hP hD hS => ?_)
    have hP : va_P G.1 vwCl ([aJ G oq 1 fo, oC ox 7 [.ref oc, .ref ot, .ref oo, .ref oe, .ref op, .ref ocs, .ref ods, .long oh, .long ol], oC ot 6 [.int (nI dp), .long sh, .long sl], oC oc 1 [.ref owd, .long e0, .long f0], aI G owd 44 g, oC oo 2 [.ref om], aZ G om 512 mk, oC oe 4 [.long c0, .long h0, .long l0], oC op 5 [.ref ob, .int (nI nq)], aI G ob 229 (upd f n1 (f n1 ^^^ (y2 &&& nI 255))), aH G ocs 4 (fun j => some (kk j)), aQ G ods 256 dec, moC oy r th fi se (nI dp) sh sl (nI nq) oh ol w0 w1 w2, aI G (r 0) 256 ckS, aI G (r 1) 256 ckU, aI G (r 2) 176 (bN ff), aI G (r 3) 16 (bN gg), aI G (r 4) 16 (bN mm), aZ G (r 5) 256 ins, aZ G (r 6) 1024 sb, aI G (r 7) 4 per, aJ G (r 8) 4 ph, aJ G (r 9) 4 pl, aI G (r 10) 4 ss, aI G (r 11) 1024 sv, aI G (r 12) 1024 sw, aZ G (r 13) 512 mk2, aI G (r 14) 229 f, aI G (r 15) 1024 hp, aJ G (r 16) 1024 hh, aJ G (r 17) 1024 hl9] ++ tl) H := hP
    have hD : va_D A ([aJ G oq 1 fo, oC ox 7 [.ref oc, .ref ot, .ref oo, .ref oe, .ref op, .ref ocs, .ref ods, .long oh, .long ol], oC ot 6 [.int (nI dp), .long sh, .long sl], oC oc 1 [.ref owd, .long e0, .long f0], aI G owd 44 g, oC oo 2 [.ref om], aZ G om 512 mk, oC oe 4 [.long c0, .long h0, .long l0], oC op 5 [.ref ob, .int (nI nq)], aI G ob 229 (upd f n1 (f n1 ^^^ (y2 &&& nI 255))), aH G ocs 4 (fun j => some (kk j)), aQ G ods 256 dec, moC oy r th fi se (nI dp) sh sl (nI nq) oh ol w0 w1 w2, aI G (r 0) 256 ckS, aI G (r 1) 256 ckU, aI G (r 2) 176 (bN ff), aI G (r 3) 16 (bN gg), aI G (r 4) 16 (bN mm), aZ G (r 5) 256 ins, aZ G (r 6) 1024 sb, aI G (r 7) 4 per, aJ G (r 8) 4 ph, aJ G (r 9) 4 pl, aI G (r 10) 4 ss, aI G (r 11) 1024 sv, aI G (r 12) 1024 sw, aZ G (r 13) 512 mk2, aI G (r 14) 229 f, aI G (r 15) 1024 hp, aJ G (r 16) 1024 hh, aJ G (r 17) 1024 hl9] ++ tl) := hD
    refine W.widen (k := 60 + 4 * j + 4) (n := 20000 + 20 * j + 20) (Nat.add_le_add_left (Nat.le_of_ble_eq_true rfl) _) (Nat.add_le_add_left (Nat.le_of_ble_eq_true rfl) _) ?_
    refine W.eq (g2 := F0 m 691 ls [.int (nI 0)]) rfl ?_
    refine lv_istore (lv' := [(5, .int (nI 0)), (0, .ref b), (1, .ref ox), (2, .ref oy), (3, .ref oq), (4, .int (nI (9 * j)))]) hx hb dLa_law_691 hl (by decide) rfl (fun ls hl => ?_)
    refine lv_aload_n hx hb dLa_law_693 rfl (lv_at hl 3 rfl) ?_
    refine lv_aload_n hx hb dLa_law_694 rfl (lv_at hl 1 rfl) ?_
    refine lv_iload hx hb dLa_law_695 (lv_at hl 5 rfl) ?_
    refine lv_iconst (v := nI 1) hx hb dLa_law_697 (by decide) ?_
    refine lv_iadd hx hb dLa_law_698 ?_
    refine ck_sld hx hb hX hbl hbA hS (9 * j + 1) (nI_add _ _) (by omega) (by omega) hy1 dLa_law_699 ?_
    refine lv_aload_n hx hb dLa_law_700 rfl (lv_at hl 1 rfl) ?_
    refine lv_iload hx hb dLa_law_701 (lv_at hl 5 rfl) ?_
    refine lv_iconst (v := nI 2) hx hb dLa_law_703 (by decide) ?_
    refine lv_iadd hx hb dLa_law_704 ?_
    refine ck_sld hx hb hX hbl hbA hS (9 * j + 2) (nI_add _ _) (by omega) (by omega) hy2 dLa_law_705 ?_
    refine clLa_114 (As := [.int (nI n1), .int y2]) (rest := []) hx hb hml hown hts (k_Mo_flip l G oy r th fi se (nI dp) sh sl oh ol w0 w1 w2 nq (aiR_le hR4) n1 hn1 f y2) hG hA hP hD hS 12 rfl [12, 27] rfl rfl (fun _ => rfl) rfl hl.1 rfl (Nat.le_of_ble_eq_true rfl) ⟨Nat.le_of_ble_eq_true rfl, Nat.le_of_ble_eq_true rfl⟩ ⟨hcf.1, hcf.2⟩ dLa_law_706 (fun _ H locs _ hP hD hS => ?_)
    have hP : va_P G.1 vwCl ([aJ G oq 1 fo, oC ox 7 [.ref oc, .ref ot, .ref oo, .ref oe, .ref op, .ref ocs, .ref ods, .long oh, .long ol], oC ot 6 [.int (nI dp), .long sh, .long sl], oC oc 1 [.ref owd, .long e0, .long f0], aI G owd 44 g, oC oo 2 [.ref om], aZ G om 512 mk, oC oe 4 [.long c0, .long h0, .long l0], oC op 5 [.ref ob, .int (nI nq)], aI G ob 229 (upd f n1 (f n1 ^^^ (y2 &&& nI 255))), aH G ocs 4 (fun j => some (kk j)), aQ G ods 256 dec, moC oy r (nI 0) fi se (nI dp) sh sl (nI nq) oh ol w0 w1 w2, aI G (r 0) 256 ckS, aI G (r 1) 256 ckU, aI G (r 2) 176 (bN ff), aI G (r 3) 16 (bN gg), aI G (r 4) 16 (bN mm), aZ G (r 5) 256 ins, aZ G (r 6) 1024 sb, aI G (r 7) 4 per, aJ G (r 8) 4 ph, aJ G (r 9) 4 pl, aI G (r 10) 4 ss, aI G (r 11) 1024 sv, aI G (r 12) 1024 sw, aZ G (r 13) 512 mk2, aI G (r 14) 229 (upd f n1 ((f n1 ^^^ y2) &&& nI 255)), aI G (r 15) 1024 hp, aJ G (r 16) 1024 hh, aJ G (r 17) 1024 hl9] ++ tl) H := hP
    have hD : va_D A ([aJ G oq 1 fo, oC ox 7 [.ref oc, .ref ot, .ref oo, .ref oe, .ref op, .ref ocs, .ref ods, .long oh, .long ol], oC ot 6 [.int (nI dp), .long sh, .long sl], oC oc 1 [.ref owd, .long e0, .long f0], aI G owd 44 g, oC oo 2 [.ref om], aZ G om 512 mk, oC oe 4 [.long c0, .long h0, .long l0], oC op 5 [.ref ob, .int (nI nq)], aI G ob 229 (upd f n1 (f n1 ^^^ (y2 &&& nI 255))), aH G ocs 4 (fun j => some (kk j)), aQ G ods 256 dec, moC oy r (nI 0) fi se (nI dp) sh sl (nI nq) oh ol w0 w1 w2, aI G (r 0) 256 ckS, aI G (r 1) 256 ckU, aI G (r 2) 176 (bN ff), aI G (r 3) 16 (bN gg), aI G (r 4) 16 (bN mm), aZ G (r 5) 256 ins, aZ G (r 6) 1024 sb, aI G (r 7) 4 per, aJ G (r 8) 4 ph, aJ G (r 9) 4 pl, aI G (r 10) 4 ss, aI G (r 11) 1024 sv, aI G (r 12) 1024 sw, aZ G (r 13) 512 mk2, aI G (r 14) 229 (upd f n1 ((f n1 ^^^ y2) &&& nI 255)), aI G (r 15) 1024 hp, aJ G (r 16) 1024 hh, aJ G (r 17) 1024 hl9] ++ tl) := hD
    refine W.cs (cells' := 60 + 4 * j + 4) (slots' := 20000 + 20 * j + 20) rfl rfl ?_
    refine W.eq (g2 := F0 m 709 ls []) rfl ?_
    rw [mask_xor (hR4.1 n1)] at hP hD
    have hP : va_P G.1 vwCl ([aJ G oq 1 fo, oC ox 7 [.ref oc, .ref ot, .ref oo, .ref oe, .ref op, .ref ocs, .ref ods, .long oh, .long ol], oC ot 6 [.int (nI dp), .long sh, .long sl], oC oc 1 [.ref owd, .long e0, .long f0], aI G owd 44 g, oC oo 2 [.ref om], aZ G om 512 mk, oC oe 4 [.long c0, .long h0, .long l0], oC op 5 [.ref ob, .int (nI nq)], aI G ob 229 (upd f n1 (f n1 ^^^ (y2 &&& nI 255))), aH G ocs 4 (fun j => some (kk j)), aQ G ods 256 dec, moC oy r (nI 0) fi se (nI dp) sh sl (nI nq) oh ol w0 w1 w2, aI G (r 0) 256 ckS, aI G (r 1) 256 ckU, aI G (r 2) 176 (bN ff), aI G (r 3) 16 (bN gg), aI G (r 4) 16 (bN mm), aZ G (r 5) 256 ins, aZ G (r 6) 1024 sb, aI G (r 7) 4 per, aJ G (r 8) 4 ph, aJ G (r 9) 4 pl, aI G (r 10) 4 ss, aI G (r 11) 1024 sv, aI G (r 12) 1024 sw, aZ G (r 13) 512 mk2, aI G (r 14) 229 (upd f n1 (f n1 ^^^ (y2 &&& nI 255))), aI G (r 15) 1024 hp, aJ G (r 16) 1024 hh, aJ G (r 17) 1024 hl9] ++ tl) H := hP
    have hD : va_D A ([aJ G oq 1 fo, oC ox 7 [.ref oc, .ref ot, .ref oo, .ref oe, .ref op, .ref ocs, .ref ods, .long oh, .long ol], oC ot 6 [.int (nI dp), .long sh, .long sl], oC oc 1 [.ref owd, .long e0, .long f0], aI G owd 44 g, oC oo 2 [.ref om], aZ G om 512 mk, oC oe 4 [.long c0, .long h0, .long l0], oC op 5 [.ref ob, .int (nI nq)], aI G ob 229 (upd f n1 (f n1 ^^^ (y2 &&& nI 255))), aH G ocs 4 (fun j => some (kk j)), aQ G ods 256 dec, moC oy r (nI 0) fi se (nI dp) sh sl (nI nq) oh ol w0 w1 w2, aI G (r 0) 256 ckS, aI G (r 1) 256 ckU, aI G (r 2) 176 (bN ff), aI G (r 3) 16 (bN gg), aI G (r 4) 16 (bN mm), aZ G (r 5) 256 ins, aZ G (r 6) 1024 sb, aI G (r 7) 4 per, aJ G (r 8) 4 ph, aJ G (r 9) 4 pl, aI G (r 10) 4 ss, aI G (r 11) 1024 sv, aI G (r 12) 1024 sw, aZ G (r 13) 512 mk2, aI G (r 14) 229 (upd f n1 (f n1 ^^^ (y2 &&& nI 255))), aI G (r 15) 1024 hp, aJ G (r 16) 1024 hh, aJ G (r 17) 1024 hl9] ++ tl) := hD
    refine lv_aload_n hx hb dLa_law_709 rfl (lv_at hl 3 rfl) ?_
    refine clLa_88 (As := []) (rest := []) hx hb hml hown hts (k_Mo_thrown l G oy r (nI 0) fi se (nI dp) sh sl (nI nq) oh ol w0 w1 w2) hG hA hP hD hS 12 rfl [12] rfl rfl (fun _ => rfl) rfl hl.1 rfl (Nat.le_of_ble_eq_true rfl) ⟨Nat.le_of_ble_eq_true rfl, Nat.le_of_ble_eq_true rfl⟩ ⟨hcf.1, hcf.2⟩ dLa_law_710 (fun _ H locs _ hP hD hS => ?_)
    have hP : va_P G.1 vwCl ([aJ G oq 1 fo, oC ox 7 [.ref oc, .ref ot, .ref oo, .ref oe, .ref op, .ref ocs, .ref ods, .long oh, .long ol], oC ot 6 [.int (nI dp), .long sh, .long sl], oC oc 1 [.ref owd, .long e0, .long f0], aI G owd 44 g, oC oo 2 [.ref om], aZ G om 512 mk, oC oe 4 [.long c0, .long h0, .long l0], oC op 5 [.ref ob, .int (nI nq)], aI G ob 229 (upd f n1 (f n1 ^^^ (y2 &&& nI 255))), aH G ocs 4 (fun j => some (kk j)), aQ G ods 256 dec, moC oy r (nI 0) fi se (nI dp) sh sl (nI nq) oh ol w0 w1 w2, aI G (r 0) 256 ckS, aI G (r 1) 256 ckU, aI G (r 2) 176 (bN ff), aI G (r 3) 16 (bN gg), aI G (r 4) 16 (bN mm), aZ G (r 5) 256 ins, aZ G (r 6) 1024 sb, aI G (r 7) 4 per, aJ G (r 8) 4 ph, aJ G (r 9) 4 pl, aI G (r 10) 4 ss, aI G (r 11) 1024 sv, aI G (r 12) 1024 sw, aZ G (r 13) 512 mk2, aI G (r 14) 229 (upd f n1 (f n1 ^^^ (y2 &&& nI 255))), aI G (r 15) 1024 hp, aJ G (r 16) 1024 hh, aJ G (r 17) 1024 hl9] ++ tl) H := hP
    have hD : va_D A ([aJ G oq 1 fo, oC ox 7 [.ref oc, .ref ot, .ref oo, .ref oe, .ref op, .ref ocs, .ref ods, .long oh, .long ol], oC ot 6 [.int (nI dp), .long sh, .long sl], oC oc 1 [.ref owd, .long e0, .long f0], aI G owd 44 g, oC oo 2 [.ref om], aZ G om 512 mk, oC oe 4 [.long c0, .long h0, .long l0], oC op 5 [.ref ob, .int (nI nq)], aI G ob 229 (upd f n1 (f n1 ^^^ (y2 &&& nI 255))), aH G ocs 4 (fun j => some (kk j)), aQ G ods 256 dec, moC oy r (nI 0) fi se (nI dp) sh sl (nI nq) oh ol w0 w1 w2, aI G (r 0) 256 ckS, aI G (r 1) 256 ckU, aI G (r 2) 176 (bN ff), aI G (r 3) 16 (bN gg), aI G (r 4) 16 (bN mm), aZ G (r 5) 256 ins, aZ G (r 6) 1024 sb, aI G (r 7) 4 per, aJ G (r 8) 4 ph, aJ G (r 9) 4 pl, aI G (r 10) 4 ss, aI G (r 11) 1024 sv, aI G (r 12) 1024 sw, aZ G (r 13) 512 mk2, aI G (r 14) 229 (upd f n1 (f n1 ^^^ (y2 &&& nI 255))), aI G (r 15) 1024 hp, aJ G (r 16) 1024 hh, aJ G (r 17) 1024 hl9] ++ tl) := hD
    refine W.cs (cells' := 60 + 4 * j + 4) (slots' := 20000 + 20 * j + 20) rfl rfl ?_
    refine W.eq (g2 := F0 m 713 ls [.int (nI 0)]) rfl ?_
    refine lv_iload hx hb dLa_law_713 (lv_at hl 0 rfl) ?_
    refine lv_icmp_eq (tgt := 720) hx hb dLa_law_715 rfl (fun _ => ?_) (fun h => absurd (rfl) h)
    refine lv_goto (tgt := 1641) hx hb dLa_law_720 rfl ?_
    refine lv_iinc (v := nI (9 * (j + 1))) (lv' := [(4, .int (nI (9 * (j + 1)))), (5, .int (nI 0)), (0, .ref b), (1, .ref ox), (2, .ref oy), (3, .ref oq)]) hx hb dLa_law_1641 hl (k := 5) rfl (nI_add (9 * j) 9) (by decide) rfl (fun ls hl => ?_)
    refine lv_goto (tgt := 23) hx hb dLa_law_1644 rfl ?_
    refine W.cs (cells' := 60 + 4 * (j + 1)) (slots' := 20000 + 20 * (j + 1)) (by omega) (by omega) ?_
    subst htl
    exact ih oh ol dp sh sl g e0 f0 mk c0 h0 l0 nq (upd f n1 (f n1 ^^^ (y2 &&& nI 255))) dec q sz ch cl fs fv fw T fo (nI 0) fi se w0 w1 w2 ff gg mm ins sb per ph pl ss sv sw mk2 hp hh hl9 _ _ _ hdp1 hdp hR1 hR2 hR3 (⟨by8_upd hR4.1 n1 (by rw [← mask_xor (hR4.1 n1)]; exact m255 _), hR4.2⟩) hP hD hS (lv_sub hl [2, 3, 4, 5, 0] rfl)
  · have hP : va_P G.1 vwCl ([aJ G oq 1 fo, oC ox 7 [.ref oc, .ref ot, .ref oo, .ref oe, .ref op, .ref ocs, .ref ods, .long oh, .long ol], oC ot 6 [.int (nI dp), .long sh, .long sl], oC oc 1 [.ref owd, .long e0, .long f0], aI G owd 44 g, oC oo 2 [.ref om], aZ G om 512 mk, oC oe 4 [.long c0, .long h0, .long l0], oC op 5 [.ref ob, .int (nI nq)], aI G ob 229 f, aH G ocs 4 (fun j => some (kk j)), aQ G ods 256 dec, moC oy r th fi se (nI dp) sh sl (nI nq) oh ol w0 w1 w2, aI G (r 0) 256 ckS, aI G (r 1) 256 ckU, aI G (r 2) 176 (bN ff), aI G (r 3) 16 (bN gg), aI G (r 4) 16 (bN mm), aZ G (r 5) 256 ins, aZ G (r 6) 1024 sb, aI G (r 7) 4 per, aJ G (r 8) 4 ph, aJ G (r 9) 4 pl, aI G (r 10) 4 ss, aI G (r 11) 1024 sv, aI G (r 12) 1024 sw, aZ G (r 13) 512 mk2, aI G (r 14) 229 f, aI G (r 15) 1024 hp, aJ G (r 16) 1024 hh, aJ G (r 17) 1024 hl9] ++ (chA (chB G kk ks kv kw q sz ch cl fs fv fw) ++ decW G T)) H := hP
    have hD : va_D A ([aJ G oq 1 fo, oC ox 7 [.ref oc, .ref ot, .ref oo, .ref oe, .ref op, .ref ocs, .ref ods, .long oh, .long ol], oC ot 6 [.int (nI dp), .long sh, .long sl], oC oc 1 [.ref owd, .long e0, .long f0], aI G owd 44 g, oC oo 2 [.ref om], aZ G om 512 mk, oC oe 4 [.long c0, .long h0, .long l0], oC op 5 [.ref ob, .int (nI nq)], aI G ob 229 f, aH G ocs 4 (fun j => some (kk j)), aQ G ods 256 dec, moC oy r th fi se (nI dp) sh sl (nI nq) oh ol w0 w1 w2, aI G (r 0) 256 ckS, aI G (r 1) 256 ckU, aI G (r 2) 176 (bN ff), aI G (r 3) 16 (bN gg), aI G (r 4) 16 (bN mm), aZ G (r 5) 256 ins, aZ G (r 6) 1024 sb, aI G (r 7) 4 per, aJ G (r 8) 4 ph, aJ G (r 9) 4 pl, aI G (r 10) 4 ss, aI G (r 11) 1024 sv, aI G (r 12) 1024 sw, aZ G (r 13) 512 mk2, aI G (r 14) 229 f, aI G (r 15) 1024 hp, aJ G (r 16) 1024 hh, aJ G (r 17) 1024 hl9] ++ (chA (chB G kk ks kv kw q sz ch cl fs fv fw) ++ decW G T)) := hD
    generalize htl : (chA (chB G kk ks kv kw q sz ch cl fs fv fw) ++ decW G T) = tl at hP hD
    refine lv_aload_n hx hb dLa_law_675 rfl (lv_at hl 1 rfl) ?_
    refine lv_aload_n hx hb dLa_law_676 rfl (lv_at hl 0 rfl) ?_
    refine lv_iload hx hb dLa_law_677 (lv_at hl 4 rfl) ?_
    refine lv_iconst (v := nI 1) hx hb dLa_law_679 (by decide) ?_
    refine lv_iadd hx hb dLa_law_680 ?_
    refine ck_sld hx hb hX hbl hbA hS (9 * j + 1) (nI_add _ _) (by omega) (by omega) hy1 dLa_law_681 ?_
    refine lv_aload_n hx hb dLa_law_682 rfl (lv_at hl 0 rfl) ?_
    refine lv_iload hx hb dLa_law_683 (lv_at hl 4 rfl) ?_
    refine lv_iconst (v := nI 2) hx hb dLa_law_685 (by decide) ?_
    refine lv_iadd hx hb dLa_law_686 ?_
    refine ck_sld hx hb hX hbl hbA hS (9 * j + 2) (nI_add _ _) (by omega) (by omega) hy2 dLa_law_687 ?_
    refine clLa_111 (As := [.ref ox, .int y1, .int y2]) (rest := []) hx hb hml hown hts (w_La_flip_IOB (wi := [oC ox 7 [.ref oc, .ref ot, .ref oo, .ref oe, .ref op, .ref ocs, .ref ods, .long oh, .long ol], oC op 5 [.ref ob, .int (nI nq)]]) l G ox y1 y2 (x_CK_flip l hl0 G ox oc ot oo oe op ocs ods oh ol ob nq y1 hi y2) 0 rfl [0, 1] rfl rfl rfl) hG hA hP hD hS [1, 8] rfl rfl (fun _ => rfl) rfl hl.1 rfl (Nat.le_of_ble_eq_true rfl) ⟨Nat.le_of_ble_eq_true rfl, Nat.le_of_ble_eq_true rfl⟩ ⟨Nat.le_trans (Nat.add_le_add_left (Nat.le_of_ble_eq_true rfl) _) hcf.1, Nat.le_trans (Nat.add_le_add_left (Nat.le_of_ble_eq_true rfl) _) hcf.2⟩ dLa_law_688 (fun _ H locs _ hP hD hS => ?_)
    have hP : va_P G.1 vwCl ([aJ G oq 1 fo, oC ox 7 [.ref oc, .ref ot, .ref oo, .ref oe, .ref op, .ref ocs, .ref ods, .long oh, .long ol], oC ot 6 [.int (nI dp), .long sh, .long sl], oC oc 1 [.ref owd, .long e0, .long f0], aI G owd 44 g, oC oo 2 [.ref om], aZ G om 512 mk, oC oe 4 [.long c0, .long h0, .long l0], oC op 5 [.ref ob, .int (nI nq)], aI G ob 229 f, aH G ocs 4 (fun j => some (kk j)), aQ G ods 256 dec, moC oy r th fi se (nI dp) sh sl (nI nq) oh ol w0 w1 w2, aI G (r 0) 256 ckS, aI G (r 1) 256 ckU, aI G (r 2) 176 (bN ff), aI G (r 3) 16 (bN gg), aI G (r 4) 16 (bN mm), aZ G (r 5) 256 ins, aZ G (r 6) 1024 sb, aI G (r 7) 4 per, aJ G (r 8) 4 ph, aJ G (r 9) 4 pl, aI G (r 10) 4 ss, aI G (r 11) 1024 sv, aI G (r 12) 1024 sw, aZ G (r 13) 512 mk2, aI G (r 14) 229 f, aI G (r 15) 1024 hp, aJ G (r 16) 1024 hh, aJ G (r 17) 1024 hl9] ++ tl) H := hP
    have hD : va_D A ([aJ G oq 1 fo, oC ox 7 [.ref oc, .ref ot, .ref oo, .ref oe, .ref op, .ref ocs, .ref ods, .long oh, .long ol], oC ot 6 [.int (nI dp), .long sh, .long sl], oC oc 1 [.ref owd, .long e0, .long f0], aI G owd 44 g, oC oo 2 [.ref om], aZ G om 512 mk, oC oe 4 [.long c0, .long h0, .long l0], oC op 5 [.ref ob, .int (nI nq)], aI G ob 229 f, aH G ocs 4 (fun j => some (kk j)), aQ G ods 256 dec, moC oy r th fi se (nI dp) sh sl (nI nq) oh ol w0 w1 w2, aI G (r 0) 256 ckS, aI G (r 1) 256 ckU, aI G (r 2) 176 (bN ff), aI G (r 3) 16 (bN gg), aI G (r 4) 16 (bN mm), aZ G (r 5) 256 ins, aZ G (r 6) 1024 sb, aI G (r 7) 4 per, aJ G (r 8) 4 ph, aJ G (r 9) 4 pl, aI G (r 10) 4 ss, aI G (r 11) 1024 sv, aI G (r 12) 1024 sw, aZ G (r 13) 512 mk2, aI G (r 14) 229 f, aI G (r 15) 1024 hp, aJ G (r 16) 1024 hh, aJ G (r 17) 1024 hl9] ++ tl) := hD
    refine W.widen (k := 60 + 4 * j + 4) (n := 20000 + 20 * j + 20) (Nat.add_le_add_left (Nat.le_of_ble_eq_true rfl) _) (Nat.add_le_add_left (Nat.le_of_ble_eq_true rfl) _) ?_
    refine W.eq (g2 := F0 m 691 ls [.int (nI 1)]) rfl ?_
    refine lv_istore (lv' := [(5, .int (nI 1)), (0, .ref b), (1, .ref ox), (2, .ref oy), (3, .ref oq), (4, .int (nI (9 * j)))]) hx hb dLa_law_691 hl (by decide) rfl (fun ls hl => ?_)
    refine lv_aload_n hx hb dLa_law_693 rfl (lv_at hl 3 rfl) ?_
    refine lv_aload_n hx hb dLa_law_694 rfl (lv_at hl 1 rfl) ?_
    refine lv_iload hx hb dLa_law_695 (lv_at hl 5 rfl) ?_
    refine lv_iconst (v := nI 1) hx hb dLa_law_697 (by decide) ?_
    refine lv_iadd hx hb dLa_law_698 ?_
    refine ck_sld hx hb hX hbl hbA hS (9 * j + 1) (nI_add _ _) (by omega) (by omega) hy1 dLa_law_699 ?_
    refine lv_aload_n hx hb dLa_law_700 rfl (lv_at hl 1 rfl) ?_
    refine lv_iload hx hb dLa_law_701 (lv_at hl 5 rfl) ?_
    refine lv_iconst (v := nI 2) hx hb dLa_law_703 (by decide) ?_
    refine lv_iadd hx hb dLa_law_704 ?_
    refine ck_sld hx hb hX hbl hbA hS (9 * j + 2) (nI_add _ _) (by omega) (by omega) hy2 dLa_law_705 ?_
    refine clLa_114 (As := [.int y1, .int y2]) (rest := []) hx hb hml hown hts (k_Mo_flip_e l G oy r th fi se (nI dp) sh sl oh ol w0 w1 w2 nq y1 hi y2) hG hA hP hD hS 12 rfl [12] rfl rfl (fun _ => rfl) rfl hl.1 rfl (Nat.le_of_ble_eq_true rfl) ⟨Nat.le_of_ble_eq_true rfl, Nat.le_of_ble_eq_true rfl⟩ ⟨hcf.1, hcf.2⟩ dLa_law_706 (fun _ H locs _ hP hD hS => ?_)
    have hP : va_P G.1 vwCl ([aJ G oq 1 fo, oC ox 7 [.ref oc, .ref ot, .ref oo, .ref oe, .ref op, .ref ocs, .ref ods, .long oh, .long ol], oC ot 6 [.int (nI dp), .long sh, .long sl], oC oc 1 [.ref owd, .long e0, .long f0], aI G owd 44 g, oC oo 2 [.ref om], aZ G om 512 mk, oC oe 4 [.long c0, .long h0, .long l0], oC op 5 [.ref ob, .int (nI nq)], aI G ob 229 f, aH G ocs 4 (fun j => some (kk j)), aQ G ods 256 dec, moC oy r (nI 1) fi se (nI dp) sh sl (nI nq) oh ol w0 w1 w2, aI G (r 0) 256 ckS, aI G (r 1) 256 ckU, aI G (r 2) 176 (bN ff), aI G (r 3) 16 (bN gg), aI G (r 4) 16 (bN mm), aZ G (r 5) 256 ins, aZ G (r 6) 1024 sb, aI G (r 7) 4 per, aJ G (r 8) 4 ph, aJ G (r 9) 4 pl, aI G (r 10) 4 ss, aI G (r 11) 1024 sv, aI G (r 12) 1024 sw, aZ G (r 13) 512 mk2, aI G (r 14) 229 f, aI G (r 15) 1024 hp, aJ G (r 16) 1024 hh, aJ G (r 17) 1024 hl9] ++ tl) H := hP
    have hD : va_D A ([aJ G oq 1 fo, oC ox 7 [.ref oc, .ref ot, .ref oo, .ref oe, .ref op, .ref ocs, .ref ods, .long oh, .long ol], oC ot 6 [.int (nI dp), .long sh, .long sl], oC oc 1 [.ref owd, .long e0, .long f0], aI G owd 44 g, oC oo 2 [.ref om], aZ G om 512 mk, oC oe 4 [.long c0, .long h0, .long l0], oC op 5 [.ref ob, .int (nI nq)], aI G ob 229 f, aH G ocs 4 (fun j => some (kk j)), aQ G ods 256 dec, moC oy r (nI 1) fi se (nI dp) sh sl (nI nq) oh ol w0 w1 w2, aI G (r 0) 256 ckS, aI G (r 1) 256 ckU, aI G (r 2) 176 (bN ff), aI G (r 3) 16 (bN gg), aI G (r 4) 16 (bN mm), aZ G (r 5) 256 ins, aZ G (r 6) 1024 sb, aI G (r 7) 4 per, aJ G (r 8) 4 ph, aJ G (r 9) 4 pl, aI G (r 10) 4 ss, aI G (r 11) 1024 sv, aI G (r 12) 1024 sw, aZ G (r 13) 512 mk2, aI G (r 14) 229 f, aI G (r 15) 1024 hp, aJ G (r 16) 1024 hh, aJ G (r 17) 1024 hl9] ++ tl) := hD
    refine W.cs (cells' := 60 + 4 * j + 4) (slots' := 20000 + 20 * j + 20) rfl rfl ?_
    refine W.eq (g2 := F0 m 709 ls []) rfl ?_
    refine lv_aload_n hx hb dLa_law_709 rfl (lv_at hl 3 rfl) ?_
    refine clLa_88 (As := []) (rest := []) hx hb hml hown hts (k_Mo_thrown l G oy r (nI 1) fi se (nI dp) sh sl (nI nq) oh ol w0 w1 w2) hG hA hP hD hS 12 rfl [12] rfl rfl (fun _ => rfl) rfl hl.1 rfl (Nat.le_of_ble_eq_true rfl) ⟨Nat.le_of_ble_eq_true rfl, Nat.le_of_ble_eq_true rfl⟩ ⟨hcf.1, hcf.2⟩ dLa_law_710 (fun _ H locs _ hP hD hS => ?_)
    have hP : va_P G.1 vwCl ([aJ G oq 1 fo, oC ox 7 [.ref oc, .ref ot, .ref oo, .ref oe, .ref op, .ref ocs, .ref ods, .long oh, .long ol], oC ot 6 [.int (nI dp), .long sh, .long sl], oC oc 1 [.ref owd, .long e0, .long f0], aI G owd 44 g, oC oo 2 [.ref om], aZ G om 512 mk, oC oe 4 [.long c0, .long h0, .long l0], oC op 5 [.ref ob, .int (nI nq)], aI G ob 229 f, aH G ocs 4 (fun j => some (kk j)), aQ G ods 256 dec, moC oy r (nI 1) fi se (nI dp) sh sl (nI nq) oh ol w0 w1 w2, aI G (r 0) 256 ckS, aI G (r 1) 256 ckU, aI G (r 2) 176 (bN ff), aI G (r 3) 16 (bN gg), aI G (r 4) 16 (bN mm), aZ G (r 5) 256 ins, aZ G (r 6) 1024 sb, aI G (r 7) 4 per, aJ G (r 8) 4 ph, aJ G (r 9) 4 pl, aI G (r 10) 4 ss, aI G (r 11) 1024 sv, aI G (r 12) 1024 sw, aZ G (r 13) 512 mk2, aI G (r 14) 229 f, aI G (r 15) 1024 hp, aJ G (r 16) 1024 hh, aJ G (r 17) 1024 hl9] ++ tl) H := hP
    have hD : va_D A ([aJ G oq 1 fo, oC ox 7 [.ref oc, .ref ot, .ref oo, .ref oe, .ref op, .ref ocs, .ref ods, .long oh, .long ol], oC ot 6 [.int (nI dp), .long sh, .long sl], oC oc 1 [.ref owd, .long e0, .long f0], aI G owd 44 g, oC oo 2 [.ref om], aZ G om 512 mk, oC oe 4 [.long c0, .long h0, .long l0], oC op 5 [.ref ob, .int (nI nq)], aI G ob 229 f, aH G ocs 4 (fun j => some (kk j)), aQ G ods 256 dec, moC oy r (nI 1) fi se (nI dp) sh sl (nI nq) oh ol w0 w1 w2, aI G (r 0) 256 ckS, aI G (r 1) 256 ckU, aI G (r 2) 176 (bN ff), aI G (r 3) 16 (bN gg), aI G (r 4) 16 (bN mm), aZ G (r 5) 256 ins, aZ G (r 6) 1024 sb, aI G (r 7) 4 per, aJ G (r 8) 4 ph, aJ G (r 9) 4 pl, aI G (r 10) 4 ss, aI G (r 11) 1024 sv, aI G (r 12) 1024 sw, aZ G (r 13) 512 mk2, aI G (r 14) 229 f, aI G (r 15) 1024 hp, aJ G (r 16) 1024 hh, aJ G (r 17) 1024 hl9] ++ tl) := hD
    refine W.cs (cells' := 60 + 4 * j + 4) (slots' := 20000 + 20 * j + 20) rfl rfl ?_
    refine W.eq (g2 := F0 m 713 ls [.int (nI 1)]) rfl ?_
    refine lv_iload hx hb dLa_law_713 (lv_at hl 0 rfl) ?_
    refine lv_icmp_eq (tgt := 720) hx hb dLa_law_715 rfl (fun _ => ?_) (fun h => absurd (rfl) h)
    refine lv_goto (tgt := 1641) hx hb dLa_law_720 rfl ?_
    refine lv_iinc (v := nI (9 * (j + 1))) (lv' := [(4, .int (nI (9 * (j + 1)))), (5, .int (nI 1)), (0, .ref b), (1, .ref ox), (2, .ref oy), (3, .ref oq)]) hx hb dLa_law_1641 hl (k := 5) rfl (nI_add (9 * j) 9) (by decide) rfl (fun ls hl => ?_)
    refine lv_goto (tgt := 23) hx hb dLa_law_1644 rfl ?_
    refine W.cs (cells' := 60 + 4 * (j + 1)) (slots' := 20000 + 20 * (j + 1)) (by omega) (by omega) ?_
    subst htl
    exact ih oh ol dp sh sl g e0 f0 mk c0 h0 l0 nq f dec q sz ch cl fs fv fw T fo (nI 1) fi se w0 w1 w2 ff gg mm ins sb per ph pl ss sv sw mk2 hp hh hl9 _ _ _ hdp1 hdp hR1 hR2 hR3 hR4 hP hD hS (lv_sub hl [2, 3, 4, 5, 0] rfl)
set_option maxHeartbeats 4000000 in
set_option maxRecDepth 100000 in
theorem law_key {p : Program} {l : Launch} {e : Env} {s : State} {m : MethodId} {below : List Frame} {meth : Method} {c : Code} {A : Nat → Prop} {G : gG} {b : Nat} {L : Nat} {xs : Nat → Int32} {ox oc owd ot oo om oe op ob ocs ods oq oy : Nat} {kk ks kv kw r : Nat → Nat} (hC0 : LC p l s m c A G b L xs) {j : Nat} (hj : 9 * j + 9 ≤ L) (ih : LAp p l e s m below meth c A G b ox oc owd ot oo om oe op ob ocs ods oq oy kk ks kv kw r 23 (j + 1)) : LAp p l e s m below meth c A G b ox oc owd ot oo om oe op ob ocs ods oq oy kk ks kv kw r 1490 j := by
  intro oh ol dp sh sl g e0 f0 mk c0 h0 l0 nq f dec q sz ch cl fs fv fw T fo th fi se w0 w1 w2 ff gg mm ins sb per ph pl ss sv sw mk2 hp hh hl9 H locs ls hdp1 hdp hR1 hR2 hR3 hR4 hP hD hS hl
  obtain ⟨hx, hb, hml, hown, hts, hG, hA, hX, hbl, hbA, hl0, hLN⟩ := hC0
  have hcf : 60 + 4 * j + 4 ≤ room_1.cells ∧ 20000 + 20 * j + 20 ≤ room_1.slots := ⟨by show _ ≤ 601024; omega, by show _ ≤ 7293034; omega⟩
  have hp2 := p2_le hdp
  have hp1 := Nat.two_pow_pos dp
  have hl : lv_has ls 8 [(0, .ref b), (1, .ref ox), (2, .ref oy), (3, .ref oq), (4, .int (nI (9 * j)))] := hl
  obtain ⟨y1, hy1⟩ : ∃ y, xs (9 * j + 1) = y := ⟨_, rfl⟩
  obtain ⟨y2, hy2⟩ : ∃ y, xs (9 * j + 2) = y := ⟨_, rfl⟩
  obtain ⟨y3, hy3⟩ : ∃ y, xs (9 * j + 3) = y := ⟨_, rfl⟩
  by_cases hb3 : y3 = 0
  · rcases Bool.eq_false_or_eq_true (jSub dp y1 y2) with hs | hs
    · have hP : va_P G.1 vwCl ([aJ G oq 1 fo, oC ox 7 [.ref oc, .ref ot, .ref oo, .ref oe, .ref op, .ref ocs, .ref ods, .long oh, .long ol], oC ot 6 [.int (nI dp), .long sh, .long sl], oC oc 1 [.ref owd, .long e0, .long f0], aI G owd 44 g, oC oo 2 [.ref om], aZ G om 512 mk, oC oe 4 [.long c0, .long h0, .long l0], oC op 5 [.ref ob, .int (nI nq)], aI G ob 229 f, aH G ocs 4 (fun j => some (kk j)), aQ G ods 256 dec, moC oy r th fi se (nI dp) sh sl (nI nq) oh ol w0 w1 w2, aI G (r 0) 256 ckS, aI G (r 1) 256 ckU, aI G (r 2) 176 (bN ff), aI G (r 3) 16 (bN gg), aI G (r 4) 16 (bN mm), aZ G (r 5) 256 ins, aZ G (r 6) 1024 sb, aI G (r 7) 4 per, aJ G (r 8) 4 ph, aJ G (r 9) 4 pl, aI G (r 10) 4 ss, aI G (r 11) 1024 sv, aI G (r 12) 1024 sw, aZ G (r 13) 512 mk2, aI G (r 14) 229 f, aI G (r 15) 1024 hp, aJ G (r 16) 1024 hh, aJ G (r 17) 1024 hl9] ++ (chA (chB G kk ks kv kw q sz ch cl fs fv fw) ++ decW G T)) H := hP
      have hD : va_D A ([aJ G oq 1 fo, oC ox 7 [.ref oc, .ref ot, .ref oo, .ref oe, .ref op, .ref ocs, .ref ods, .long oh, .long ol], oC ot 6 [.int (nI dp), .long sh, .long sl], oC oc 1 [.ref owd, .long e0, .long f0], aI G owd 44 g, oC oo 2 [.ref om], aZ G om 512 mk, oC oe 4 [.long c0, .long h0, .long l0], oC op 5 [.ref ob, .int (nI nq)], aI G ob 229 f, aH G ocs 4 (fun j => some (kk j)), aQ G ods 256 dec, moC oy r th fi se (nI dp) sh sl (nI nq) oh ol w0 w1 w2, aI G (r 0) 256 ckS, aI G (r 1) 256 ckU, aI G (r 2) 176 (bN ff), aI G (r 3) 16 (bN gg), aI G (r 4) 16 (bN mm), aZ G (r 5) 256 ins, aZ G (r 6) 1024 sb, aI G (r 7) 4 per, aJ G (r 8) 4 ph, aJ G (r 9) 4 pl, aI G (r 10) 4 ss, aI G (r 11) 1024 sv, aI G (r 12) 1024 sw, aZ G (r 13) 512 mk2, aI G (r 14) 229 f, aI G (r 15) 1024 hp, aJ G (r 16) 1024 hh, aJ G (r 17) 1024 hl9] ++ (chA (chB G kk ks kv kw q sz ch cl fs fv fw) ++ decW G T)) := hD
      generalize htl : (chA (chB G kk ks kv kw q sz ch cl fs fv fw) ++ decW G T) = tl at hP hD
      refine lv_aload_n hx hb dLa_law_1490 rfl (lv_at hl 1 rfl) ?_
      refine lv_aload_n hx hb dLa_law_1491 rfl (lv_at hl 0 rfl) ?_
      refine lv_iload hx hb dLa_law_1492 (lv_at hl 4 rfl) ?_
      refine lv_iconst (v := nI 1) hx hb dLa_law_1494 (by decide) ?_
      refine lv_iadd hx hb dLa_law_1495 ?_
      refine ck_sld hx hb hX hbl hbA hS (9 * j + 1) (nI_add _ _) (by omega) (by omega) hy1 dLa_law_1496 ?_
      refine lv_aload_n hx hb dLa_law_1497 rfl (lv_at hl 0 rfl) ?_
      refine lv_iload hx hb dLa_law_1498 (lv_at hl 4 rfl) ?_
      refine lv_iconst (v := nI 2) hx hb dLa_law_1500 (by decide) ?_
      refine lv_iadd hx hb dLa_law_1501 ?_
      refine ck_sld hx hb hX hbl hbA hS (9 * j + 2) (nI_add _ _) (by omega) (by omega) hy2 dLa_law_1502 ?_
      refine lv_aload_n hx hb dLa_law_1503 rfl (lv_at hl 0 rfl) ?_
      refine lv_iload hx hb dLa_law_1504 (lv_at hl 4 rfl) ?_
      refine lv_iconst (v := nI 3) hx hb dLa_law_1506 (by decide) ?_
      refine lv_iadd hx hb dLa_law_1507 ?_
      refine ck_sld hx hb hX hbl hbA hS (9 * j + 3) (nI_add _ _) (by omega) (by omega) hy3 dLa_law_1508 ?_
      refine lv_if_eq (tgt := 1516) hx hb dLa_law_1509 rfl (fun _ => ?_) (fun h => absurd (hb3) h)
      refine lv_iconst (v := nI 0) hx hb dLa_law_1516 (by decide) ?_
      refine lv_aload_n hx hb dLa_law_1517 rfl (lv_at hl 3 rfl) ?_
      refine clLa_144 (As := [.ref ox, .int y1, .int y2, .int (nI 0), .ref oq]) (rest := []) hx hb hml hown hts (w_La_key l G ox oq y1 y2 (nI 0) fo _ (k_CK_key l G ox oc ot oo oe op ocs ods oh ol dp hdp sh sl owd g e0 f0 y1 y2 (nI 0) hs) rfl (fun _ => rfl)) hG hA hP hD hS [0, 1, 2, 3, 4] rfl rfl (fun _ => rfl) rfl hl.1 rfl (Nat.le_of_ble_eq_true rfl) ⟨Nat.le_of_ble_eq_true rfl, Nat.le_of_ble_eq_true rfl⟩ ⟨Nat.le_trans (Nat.add_le_add_left (Nat.le_of_ble_eq_true rfl) _) hcf.1, Nat.le_trans (Nat.add_le_add_left (Nat.le_of_ble_eq_true rfl) _) hcf.2⟩ dLa_law_1518 (fun u1 H locs _ hP hD hS => ?_)
      have hP : va_P G.1 vwCl ([aJ G oq 1 (vp_updL fo 0 (jIf (nI 0) (jKy sh sl y1 y2 (jLv y2 y1)).2 (jKy sh sl y1 y2 (jLv y2 y1)).1)), oC ox 7 [.ref oc, .ref ot, .ref oo, .ref oe, .ref op, .ref ocs, .ref ods, .long oh, .long ol], oC ot 6 [.int (nI dp), .long sh, .long sl], oC oc 1 [.ref owd, .long ((jKy sh sl y1 y2 (jLv y2 y1)).1), .long ((jKy sh sl y1 y2 (jLv y2 y1)).2)], aI G owd 44 u1, oC oo 2 [.ref om], aZ G om 512 mk, oC oe 4 [.long c0, .long h0, .long l0], oC op 5 [.ref ob, .int (nI nq)], aI G ob 229 f, aH G ocs 4 (fun j => some (kk j)), aQ G ods 256 dec, moC oy r th fi se (nI dp) sh sl (nI nq) oh ol w0 w1 w2, aI G (r 0) 256 ckS, aI G (r 1) 256 ckU, aI G (r 2) 176 (bN ff), aI G (r 3) 16 (bN gg), aI G (r 4) 16 (bN mm), aZ G (r 5) 256 ins, aZ G (r 6) 1024 sb, aI G (r 7) 4 per, aJ G (r 8) 4 ph, aJ G (r 9) 4 pl, aI G (r 10) 4 ss, aI G (r 11) 1024 sv, aI G (r 12) 1024 sw, aZ G (r 13) 512 mk2, aI G (r 14) 229 f, aI G (r 15) 1024 hp, aJ G (r 16) 1024 hh, aJ G (r 17) 1024 hl9] ++ tl) H := hP
      have hD : va_D A ([aJ G oq 1 (vp_updL fo 0 (jIf (nI 0) (jKy sh sl y1 y2 (jLv y2 y1)).2 (jKy sh sl y1 y2 (jLv y2 y1)).1)), oC ox 7 [.ref oc, .ref ot, .ref oo, .ref oe, .ref op, .ref ocs, .ref ods, .long oh, .long ol], oC ot 6 [.int (nI dp), .long sh, .long sl], oC oc 1 [.ref owd, .long ((jKy sh sl y1 y2 (jLv y2 y1)).1), .long ((jKy sh sl y1 y2 (jLv y2 y1)).2)], aI G owd 44 u1, oC oo 2 [.ref om], aZ G om 512 mk, oC oe 4 [.long c0, .long h0, .long l0], oC op 5 [.ref ob, .int (nI nq)], aI G ob 229 f, aH G ocs 4 (fun j => some (kk j)), aQ G ods 256 dec, moC oy r th fi se (nI dp) sh sl (nI nq) oh ol w0 w1 w2, aI G (r 0) 256 ckS, aI G (r 1) 256 ckU, aI G (r 2) 176 (bN ff), aI G (r 3) 16 (bN gg), aI G (r 4) 16 (bN mm), aZ G (r 5) 256 ins, aZ G (r 6) 1024 sb, aI G (r 7) 4 per, aJ G (r 8) 4 ph, aJ G (r 9) 4 pl, aI G (r 10) 4 ss, aI G (r 11) 1024 sv, aI G (r 12) 1024 sw, aZ G (r 13) 512 mk2, aI G (r 14) 229 f, aI G (r 15) 1024 hp, aJ G (r 16) 1024 hh, aJ G (r 17) 1024 hl9] ++ tl) := hD
      refine W.widen (k := 60 + 4 * j + 4) (n := 20000 + 20 * j + 20) (Nat.add_le_add_left (Nat.le_of_ble_eq_true rfl) _) (Nat.add_le_add_left (Nat.le_of_ble_eq_true rfl) _) ?_
      refine W.eq (g2 := F0 m 1521 ls [.int (nI 0)]) rfl ?_
      refine lv_istore (lv' := [(5, .int (nI 0)), (0, .ref b), (1, .ref ox), (2, .ref oy), (3, .ref oq), (4, .int (nI (9 * j)))]) hx hb dLa_law_1521 hl (by decide) rfl (fun ls hl => ?_)
      refine lv_aload_n hx hb dLa_law_1523 rfl (lv_at hl 3 rfl) ?_
      refine lv_aload_n hx hb dLa_law_1524 rfl (lv_at hl 1 rfl) ?_
      refine lv_iload hx hb dLa_law_1525 (lv_at hl 5 rfl) ?_
      refine lv_iconst (v := nI 1) hx hb dLa_law_1527 (by decide) ?_
      refine lv_iadd hx hb dLa_law_1528 ?_
      refine ck_sld hx hb hX hbl hbA hS (9 * j + 1) (nI_add _ _) (by omega) (by omega) hy1 dLa_law_1529 ?_
      refine lv_aload_n hx hb dLa_law_1530 rfl (lv_at hl 1 rfl) ?_
      refine lv_iload hx hb dLa_law_1531 (lv_at hl 5 rfl) ?_
      refine lv_iconst (v := nI 2) hx hb dLa_law_1533 (by decide) ?_
      refine lv_iadd hx hb dLa_law_1534 ?_
      refine ck_sld hx hb hX hbl hbA hS (9 * j + 2) (nI_add _ _) (by omega) (by omega) hy2 dLa_law_1535 ?_
      refine lv_aload_n hx hb dLa_law_1536 rfl (lv_at hl 1 rfl) ?_
      refine lv_iload hx hb dLa_law_1537 (lv_at hl 5 rfl) ?_
      refine lv_iconst (v := nI 3) hx hb dLa_law_1539 (by decide) ?_
      refine lv_iadd hx hb dLa_law_1540 ?_
      refine ck_sld hx hb hX hbl hbA hS (9 * j + 3) (nI_add _ _) (by omega) (by omega) hy3 dLa_law_1541 ?_
      refine lv_if_eq (tgt := 1549) hx hb dLa_law_1542 rfl (fun _ => ?_) (fun h => absurd (hb3) h)
      refine lv_iconst (v := nI 0) hx hb dLa_law_1549 (by decide) ?_
      refine clLa_146 (As := [.int y1, .int y2, .int (nI 0)]) (rest := []) hx hb hml hown hts (k_Mo_key l G oy r th fi se dp hdp sh sl (nI nq) oh ol w0 w1 w2 ff gg mm y1 y2 (nI 0) hs) hG hA hP hD hS 12 rfl [12, 13, 15, 16, 17] rfl rfl (fun _ => rfl) rfl hl.1 rfl (Nat.le_of_ble_eq_true rfl) ⟨Nat.le_of_ble_eq_true rfl, Nat.le_of_ble_eq_true rfl⟩ ⟨hcf.1, hcf.2⟩ dLa_law_1550 (fun u2 H locs _ hP hD hS => ?_)
      have hP : va_P G.1 vwCl ([aJ G oq 1 (vp_updL fo 0 (jIf (nI 0) (jKy sh sl y1 y2 (jLv y2 y1)).2 (jKy sh sl y1 y2 (jLv y2 y1)).1)), oC ox 7 [.ref oc, .ref ot, .ref oo, .ref oe, .ref op, .ref ocs, .ref ods, .long oh, .long ol], oC ot 6 [.int (nI dp), .long sh, .long sl], oC oc 1 [.ref owd, .long ((jKy sh sl y1 y2 (jLv y2 y1)).1), .long ((jKy sh sl y1 y2 (jLv y2 y1)).2)], aI G owd 44 u1, oC oo 2 [.ref om], aZ G om 512 mk, oC oe 4 [.long c0, .long h0, .long l0], oC op 5 [.ref ob, .int (nI nq)], aI G ob 229 f, aH G ocs 4 (fun j => some (kk j)), aQ G ods 256 dec, moC oy r (nI 0) ((jKy sh sl y1 y2 (jLv y2 y1)).1) ((jKy sh sl y1 y2 (jLv y2 y1)).2) (nI dp) sh sl (nI nq) oh ol w0 w1 w2, aI G (r 0) 256 ckS, aI G (r 1) 256 ckU, aI G (r 2) 176 (bN u2.1), aI G (r 3) 16 (bN u2.2.1), aI G (r 4) 16 (bN u2.2.2), aZ G (r 5) 256 ins, aZ G (r 6) 1024 sb, aI G (r 7) 4 per, aJ G (r 8) 4 ph, aJ G (r 9) 4 pl, aI G (r 10) 4 ss, aI G (r 11) 1024 sv, aI G (r 12) 1024 sw, aZ G (r 13) 512 mk2, aI G (r 14) 229 f, aI G (r 15) 1024 hp, aJ G (r 16) 1024 hh, aJ G (r 17) 1024 hl9] ++ tl) H := hP
      have hD : va_D A ([aJ G oq 1 (vp_updL fo 0 (jIf (nI 0) (jKy sh sl y1 y2 (jLv y2 y1)).2 (jKy sh sl y1 y2 (jLv y2 y1)).1)), oC ox 7 [.ref oc, .ref ot, .ref oo, .ref oe, .ref op, .ref ocs, .ref ods, .long oh, .long ol], oC ot 6 [.int (nI dp), .long sh, .long sl], oC oc 1 [.ref owd, .long ((jKy sh sl y1 y2 (jLv y2 y1)).1), .long ((jKy sh sl y1 y2 (jLv y2 y1)).2)], aI G owd 44 u1, oC oo 2 [.ref om], aZ G om 512 mk, oC oe 4 [.long c0, .long h0, .long l0], oC op 5 [.ref ob, .int (nI nq)], aI G ob 229 f, aH G ocs 4 (fun j => some (kk j)), aQ G ods 256 dec, moC oy r (nI 0) ((jKy sh sl y1 y2 (jLv y2 y1)).1) ((jKy sh sl y1 y2 (jLv y2 y1)).2) (nI dp) sh sl (nI nq) oh ol w0 w1 w2, aI G (r 0) 256 ckS, aI G (r 1) 256 ckU, aI G (r 2) 176 (bN u2.1), aI G (r 3) 16 (bN u2.2.1), aI G (r 4) 16 (bN u2.2.2), aZ G (r 5) 256 ins, aZ G (r 6) 1024 sb, aI G (r 7) 4 per, aJ G (r 8) 4 ph, aJ G (r 9) 4 pl, aI G (r 10) 4 ss, aI G (r 11) 1024 sv, aI G (r 12) 1024 sw, aZ G (r 13) 512 mk2, aI G (r 14) 229 f, aI G (r 15) 1024 hp, aJ G (r 16) 1024 hh, aJ G (r 17) 1024 hl9] ++ tl) := hD
      refine W.cs (cells' := 60 + 4 * j + 4) (slots' := 20000 + 20 * j + 20) rfl rfl ?_
      refine W.eq (g2 := F0 m 1553 ls [.long (jIf (nI 0) (jKy sh sl y1 y2 (jLv y2 y1)).2 (jKy sh sl y1 y2 (jLv y2 y1)).1)]) rfl ?_
      refine lv_lstore (lv' := [(6, .long (jIf (nI 0) (jKy sh sl y1 y2 (jLv y2 y1)).2 (jKy sh sl y1 y2 (jLv y2 y1)).1)), (5, .int (nI 0)), (0, .ref b), (1, .ref ox), (2, .ref oy), (3, .ref oq), (4, .int (nI (9 * j)))]) hx hb dLa_law_1553 hl (by decide) rfl (fun ls hl => ?_)
      refine lv_aload_n hx hb dLa_law_1555 rfl (lv_at hl 4 rfl) ?_
      refine clLa_88 (As := []) (rest := []) hx hb hml hown hts (k_Mo_thrown l G oy r (nI 0) ((jKy sh sl y1 y2 (jLv y2 y1)).1) ((jKy sh sl y1 y2 (jLv y2 y1)).2) (nI dp) sh sl (nI nq) oh ol w0 w1 w2) hG hA hP hD hS 12 rfl [12] rfl rfl (fun _ => rfl) rfl hl.1 rfl (Nat.le_of_ble_eq_true rfl) ⟨Nat.le_of_ble_eq_true rfl, Nat.le_of_ble_eq_true rfl⟩ ⟨hcf.1, hcf.2⟩ dLa_law_1556 (fun _ H locs _ hP hD hS => ?_)
      have hP : va_P G.1 vwCl ([aJ G oq 1 (vp_updL fo 0 (jIf (nI 0) (jKy sh sl y1 y2 (jLv y2 y1)).2 (jKy sh sl y1 y2 (jLv y2 y1)).1)), oC ox 7 [.ref oc, .ref ot, .ref oo, .ref oe, .ref op, .ref ocs, .ref ods, .long oh, .long ol], oC ot 6 [.int (nI dp), .long sh, .long sl], oC oc 1 [.ref owd, .long ((jKy sh sl y1 y2 (jLv y2 y1)).1), .long ((jKy sh sl y1 y2 (jLv y2 y1)).2)], aI G owd 44 u1, oC oo 2 [.ref om], aZ G om 512 mk, oC oe 4 [.long c0, .long h0, .long l0], oC op 5 [.ref ob, .int (nI nq)], aI G ob 229 f, aH G ocs 4 (fun j => some (kk j)), aQ G ods 256 dec, moC oy r (nI 0) ((jKy sh sl y1 y2 (jLv y2 y1)).1) ((jKy sh sl y1 y2 (jLv y2 y1)).2) (nI dp) sh sl (nI nq) oh ol w0 w1 w2, aI G (r 0) 256 ckS, aI G (r 1) 256 ckU, aI G (r 2) 176 (bN u2.1), aI G (r 3) 16 (bN u2.2.1), aI G (r 4) 16 (bN u2.2.2), aZ G (r 5) 256 ins, aZ G (r 6) 1024 sb, aI G (r 7) 4 per, aJ G (r 8) 4 ph, aJ G (r 9) 4 pl, aI G (r 10) 4 ss, aI G (r 11) 1024 sv, aI G (r 12) 1024 sw, aZ G (r 13) 512 mk2, aI G (r 14) 229 f, aI G (r 15) 1024 hp, aJ G (r 16) 1024 hh, aJ G (r 17) 1024 hl9] ++ tl) H := hP
      have hD : va_D A ([aJ G oq 1 (vp_updL fo 0 (jIf (nI 0) (jKy sh sl y1 y2 (jLv y2 y1)).2 (jKy sh sl y1 y2 (jLv y2 y1)).1)), oC ox 7 [.ref oc, .ref ot, .ref oo, .ref oe, .ref op, .ref ocs, .ref ods, .long oh, .long ol], oC ot 6 [.int (nI dp), .long sh, .long sl], oC oc 1 [.ref owd, .long ((jKy sh sl y1 y2 (jLv y2 y1)).1), .long ((jKy sh sl y1 y2 (jLv y2 y1)).2)], aI G owd 44 u1, oC oo 2 [.ref om], aZ G om 512 mk, oC oe 4 [.long c0, .long h0, .long l0], oC op 5 [.ref ob, .int (nI nq)], aI G ob 229 f, aH G ocs 4 (fun j => some (kk j)), aQ G ods 256 dec, moC oy r (nI 0) ((jKy sh sl y1 y2 (jLv y2 y1)).1) ((jKy sh sl y1 y2 (jLv y2 y1)).2) (nI dp) sh sl (nI nq) oh ol w0 w1 w2, aI G (r 0) 256 ckS, aI G (r 1) 256 ckU, aI G (r 2) 176 (bN u2.1), aI G (r 3) 16 (bN u2.2.1), aI G (r 4) 16 (bN u2.2.2), aZ G (r 5) 256 ins, aZ G (r 6) 1024 sb, aI G (r 7) 4 per, aJ G (r 8) 4 ph, aJ G (r 9) 4 pl, aI G (r 10) 4 ss, aI G (r 11) 1024 sv, aI G (r 12) 1024 sw, aZ G (r 13) 512 mk2, aI G (r 14) 229 f, aI G (r 15) 1024 hp, aJ G (r 16) 1024 hh, aJ G (r 17) 1024 hl9] ++ tl) := hD
      refine W.cs (cells' := 60 + 4 * j + 4) (slots' := 20000 + 20 * j + 20) rfl rfl ?_
      refine W.eq (g2 := F0 m 1559 ls [.int (nI 0)]) rfl ?_
      refine lv_iload hx hb dLa_law_1559 (lv_at hl 1 rfl) ?_
      refine lv_icmp_eq (tgt := 1566) hx hb dLa_law_1561 rfl (fun _ => ?_) (fun h => absurd (rfl) h)
      refine lv_iload hx hb dLa_law_1566 (lv_at hl 1 rfl) ?_
      refine lv_if_ne (tgt := 1582) hx hb dLa_law_1568 rfl (fun h => absurd (rfl) h) (fun _ => ?_)
      refine lv_aload_n hx hb dLa_law_1571 rfl (lv_at hl 5 rfl) ?_
      refine lv_iconst (v := nI 0) hx hb dLa_law_1572 (by decide) ?_
      refine ck_lald hx hb hG hP 0 rfl (by decide) 0 (rfl) (by decide) dLa_law_1573 ?_
      refine ck_rl (y := jIf (nI 0) (jKy sh sl y1 y2 (jLv y2 y1)).2 (jKy sh sl y1 y2 (jLv y2 y1)).1) (rfl) ?_
      refine lv_lload hx hb dLa_law_1574 (lv_at hl 0 rfl) ?_
      refine W.lcmp hx hb dLa_law_1576 ?_
      refine lv_if_eq (tgt := 1582) hx hb dLa_law_1577 rfl (fun _ => ?_) (fun h => absurd ((lg_cmp_0 _ _).mpr (rfl)) h)
      refine lv_goto (tgt := 1641) hx hb dLa_law_1582 rfl ?_
      refine lv_iinc (v := nI (9 * (j + 1))) (lv' := [(4, .int (nI (9 * (j + 1)))), (6, .long (jIf (nI 0) (jKy sh sl y1 y2 (jLv y2 y1)).2 (jKy sh sl y1 y2 (jLv y2 y1)).1)), (5, .int (nI 0)), (0, .ref b), (1, .ref ox), (2, .ref oy), (3, .ref oq)]) hx hb dLa_law_1641 hl (k := 6) rfl (nI_add (9 * j) 9) (by decide) rfl (fun ls hl => ?_)
      refine lv_goto (tgt := 23) hx hb dLa_law_1644 rfl ?_
      refine W.cs (cells' := 60 + 4 * (j + 1)) (slots' := 20000 + 20 * (j + 1)) (by omega) (by omega) ?_
      subst htl
      exact ih oh ol dp sh sl u1 ((jKy sh sl y1 y2 (jLv y2 y1)).1) ((jKy sh sl y1 y2 (jLv y2 y1)).2) mk c0 h0 l0 nq f dec q sz ch cl fs fv fw T (vp_updL fo 0 (jIf (nI 0) (jKy sh sl y1 y2 (jLv y2 y1)).2 (jKy sh sl y1 y2 (jLv y2 y1)).1)) (nI 0) ((jKy sh sl y1 y2 (jLv y2 y1)).1) ((jKy sh sl y1 y2 (jLv y2 y1)).2) w0 w1 w2 u2.1 u2.2.1 u2.2.2 ins sb per ph pl ss sv sw mk2 hp hh hl9 _ _ _ hdp1 hdp hR1 hR2 hR3 hR4 hP hD hS (lv_sub hl [3, 4, 5, 6, 0] rfl)
    · have hP : va_P G.1 vwCl ([aJ G oq 1 fo, oC ox 7 [.ref oc, .ref ot, .ref oo, .ref oe, .ref op, .ref ocs, .ref ods, .long oh, .long ol], oC ot 6 [.int (nI dp), .long sh, .long sl], oC oc 1 [.ref owd, .long e0, .long f0], aI G owd 44 g, oC oo 2 [.ref om], aZ G om 512 mk, oC oe 4 [.long c0, .long h0, .long l0], oC op 5 [.ref ob, .int (nI nq)], aI G ob 229 f, aH G ocs 4 (fun j => some (kk j)), aQ G ods 256 dec, moC oy r th fi se (nI dp) sh sl (nI nq) oh ol w0 w1 w2, aI G (r 0) 256 ckS, aI G (r 1) 256 ckU, aI G (r 2) 176 (bN ff), aI G (r 3) 16 (bN gg), aI G (r 4) 16 (bN mm), aZ G (r 5) 256 ins, aZ G (r 6) 1024 sb, aI G (r 7) 4 per, aJ G (r 8) 4 ph, aJ G (r 9) 4 pl, aI G (r 10) 4 ss, aI G (r 11) 1024 sv, aI G (r 12) 1024 sw, aZ G (r 13) 512 mk2, aI G (r 14) 229 f, aI G (r 15) 1024 hp, aJ G (r 16) 1024 hh, aJ G (r 17) 1024 hl9] ++ (chA (chB G kk ks kv kw q sz ch cl fs fv fw) ++ decW G T)) H := hP
      have hD : va_D A ([aJ G oq 1 fo, oC ox 7 [.ref oc, .ref ot, .ref oo, .ref oe, .ref op, .ref ocs, .ref ods, .long oh, .long ol], oC ot 6 [.int (nI dp), .long sh, .long sl], oC oc 1 [.ref owd, .long e0, .long f0], aI G owd 44 g, oC oo 2 [.ref om], aZ G om 512 mk, oC oe 4 [.long c0, .long h0, .long l0], oC op 5 [.ref ob, .int (nI nq)], aI G ob 229 f, aH G ocs 4 (fun j => some (kk j)), aQ G ods 256 dec, moC oy r th fi se (nI dp) sh sl (nI nq) oh ol w0 w1 w2, aI G (r 0) 256 ckS, aI G (r 1) 256 ckU, aI G (r 2) 176 (bN ff), aI G (r 3) 16 (bN gg), aI G (r 4) 16 (bN mm), aZ G (r 5) 256 ins, aZ G (r 6) 1024 sb, aI G (r 7) 4 per, aJ G (r 8) 4 ph, aJ G (r 9) 4 pl, aI G (r 10) 4 ss, aI G (r 11) 1024 sv, aI G (r 12) 1024 sw, aZ G (r 13) 512 mk2, aI G (r 14) 229 f, aI G (r 15) 1024 hp, aJ G (r 16) 1024 hh, aJ G (r 17) 1024 hl9] ++ (chA (chB G kk ks kv kw q sz ch cl fs fv fw) ++ decW G T)) := hD
      generalize htl : (chA (chB G kk ks kv kw q sz ch cl fs fv fw) ++ decW G T) = tl at hP hD
      refine lv_aload_n hx hb dLa_law_1490 rfl (lv_at hl 1 rfl) ?_
      refine lv_aload_n hx hb dLa_law_1491 rfl (lv_at hl 0 rfl) ?_
      refine lv_iload hx hb dLa_law_1492 (lv_at hl 4 rfl) ?_
      refine lv_iconst (v := nI 1) hx hb dLa_law_1494 (by decide) ?_
      refine lv_iadd hx hb dLa_law_1495 ?_
      refine ck_sld hx hb hX hbl hbA hS (9 * j + 1) (nI_add _ _) (by omega) (by omega) hy1 dLa_law_1496 ?_
      refine lv_aload_n hx hb dLa_law_1497 rfl (lv_at hl 0 rfl) ?_
      refine lv_iload hx hb dLa_law_1498 (lv_at hl 4 rfl) ?_
      refine lv_iconst (v := nI 2) hx hb dLa_law_1500 (by decide) ?_
      refine lv_iadd hx hb dLa_law_1501 ?_
      refine ck_sld hx hb hX hbl hbA hS (9 * j + 2) (nI_add _ _) (by omega) (by omega) hy2 dLa_law_1502 ?_
      refine lv_aload_n hx hb dLa_law_1503 rfl (lv_at hl 0 rfl) ?_
      refine lv_iload hx hb dLa_law_1504 (lv_at hl 4 rfl) ?_
      refine lv_iconst (v := nI 3) hx hb dLa_law_1506 (by decide) ?_
      refine lv_iadd hx hb dLa_law_1507 ?_
      refine ck_sld hx hb hX hbl hbA hS (9 * j + 3) (nI_add _ _) (by omega) (by omega) hy3 dLa_law_1508 ?_
      refine lv_if_eq (tgt := 1516) hx hb dLa_law_1509 rfl (fun _ => ?_) (fun h => absurd (hb3) h)
      refine lv_iconst (v := nI 0) hx hb dLa_law_1516 (by decide) ?_
      refine lv_aload_n hx hb dLa_law_1517 rfl (lv_at hl 3 rfl) ?_
      refine clLa_144 (As := [.ref ox, .int y1, .int y2, .int (nI 0), .ref oq]) (rest := []) hx hb hml hown hts (w_La_key_IAE (wi := [oC ox 7 [.ref oc, .ref ot, .ref oo, .ref oe, .ref op, .ref ocs, .ref ods, .long oh, .long ol], oC ot 6 [.int (nI dp), .long sh, .long sl]]) l G ox oq y1 y2 (nI 0) (x_CK_key l hl0 G ox oc ot oo oe op ocs ods oh ol dp hdp sh sl y1 y2 (nI 0) hs) 0 rfl [0, 1] rfl rfl rfl) hG hA hP hD hS [1, 2] rfl rfl (fun _ => rfl) rfl hl.1 rfl (Nat.le_of_ble_eq_true rfl) ⟨Nat.le_of_ble_eq_true rfl, Nat.le_of_ble_eq_true rfl⟩ ⟨Nat.le_trans (Nat.add_le_add_left (Nat.le_of_ble_eq_true rfl) _) hcf.1, Nat.le_trans (Nat.add_le_add_left (Nat.le_of_ble_eq_true rfl) _) hcf.2⟩ dLa_law_1518 (fun _ H locs _ hP hD hS => ?_)
      have hP : va_P G.1 vwCl ([aJ G oq 1 fo, oC ox 7 [.ref oc, .ref ot, .ref oo, .ref oe, .ref op, .ref ocs, .ref ods, .long oh, .long ol], oC ot 6 [.int (nI dp), .long sh, .long sl], oC oc 1 [.ref owd, .long e0, .long f0], aI G owd 44 g, oC oo 2 [.ref om], aZ G om 512 mk, oC oe 4 [.long c0, .long h0, .long l0], oC op 5 [.ref ob, .int (nI nq)], aI G ob 229 f, aH G ocs 4 (fun j => some (kk j)), aQ G ods 256 dec, moC oy r th fi se (nI dp) sh sl (nI nq) oh ol w0 w1 w2, aI G (r 0) 256 ckS, aI G (r 1) 256 ckU, aI G (r 2) 176 (bN ff), aI G (r 3) 16 (bN gg), aI G (r 4) 16 (bN mm), aZ G (r 5) 256 ins, aZ G (r 6) 1024 sb, aI G (r 7) 4 per, aJ G (r 8) 4 ph, aJ G (r 9) 4 pl, aI G (r 10) 4 ss, aI G (r 11) 1024 sv, aI G (r 12) 1024 sw, aZ G (r 13) 512 mk2, aI G (r 14) 229 f, aI G (r 15) 1024 hp, aJ G (r 16) 1024 hh, aJ G (r 17) 1024 hl9] ++ tl) H := hP
      have hD : va_D A ([aJ G oq 1 fo, oC ox 7 [.ref oc, .ref ot, .ref oo, .ref oe, .ref op, .ref ocs, .ref ods, .long oh, .long ol], oC ot 6 [.int (nI dp), .long sh, .long sl], oC oc 1 [.ref owd, .long e0, .long f0], aI G owd 44 g, oC oo 2 [.ref om], aZ G om 512 mk, oC oe 4 [.long c0, .long h0, .long l0], oC op 5 [.ref ob, .int (nI nq)], aI G ob 229 f, aH G ocs 4 (fun j => some (kk j)), aQ G ods 256 dec, moC oy r th fi se (nI dp) sh sl (nI nq) oh ol w0 w1 w2, aI G (r 0) 256 ckS, aI G (r 1) 256 ckU, aI G (r 2) 176 (bN ff), aI G (r 3) 16 (bN gg), aI G (r 4) 16 (bN mm), aZ G (r 5) 256 ins, aZ G (r 6) 1024 sb, aI G (r 7) 4 per, aJ G (r 8) 4 ph, aJ G (r 9) 4 pl, aI G (r 10) 4 ss, aI G (r 11) 1024 sv, aI G (r 12) 1024 sw, aZ G (r 13) 512 mk2, aI G (r 14) 229 f, aI G (r 15) 1024 hp, aJ G (r 16) 1024 hh, aJ G (r 17) 1024 hl9] ++ tl) := hD
      refine W.widen (k := 60 + 4 * j + 4) (n := 20000 + 20 * j + 20) (Nat.add_le_add_left (Nat.le_of_ble_eq_true rfl) _) (Nat.add_le_add_left (Nat.le_of_ble_eq_true rfl) _) ?_
      refine W.eq (g2 := F0 m 1521 ls [.int (nI 1)]) rfl ?_
      refine lv_istore (lv' := [(5, .int (nI 1)), (0, .ref b), (1, .ref ox), (2, .ref oy), (3, .ref oq), (4, .int (nI (9 * j)))]) hx hb dLa_law_1521 hl (by decide) rfl (fun ls hl => ?_)
      refine lv_aload_n hx hb dLa_law_1523 rfl (lv_at hl 3 rfl) ?_
      refine lv_aload_n hx hb dLa_law_1524 rfl (lv_at hl 1 rfl) ?_
      refine lv_iload hx hb dLa_law_1525 (lv_at hl 5 rfl) ?_
      refine lv_iconst (v := nI 1) hx hb dLa_law_1527 (by decide) ?_
      refine lv_iadd hx hb dLa_law_1528 ?_
      refine ck_sld hx hb hX hbl hbA hS (9 * j + 1) (nI_add _ _) (by omega) (by omega) hy1 dLa_law_1529 ?_
      refine lv_aload_n hx hb dLa_law_1530 rfl (lv_at hl 1 rfl) ?_
      refine lv_iload hx hb dLa_law_1531 (lv_at hl 5 rfl) ?_
      refine lv_iconst (v := nI 2) hx hb dLa_law_1533 (by decide) ?_
      refine lv_iadd hx hb dLa_law_1534 ?_
      refine ck_sld hx hb hX hbl hbA hS (9 * j + 2) (nI_add _ _) (by omega) (by omega) hy2 dLa_law_1535 ?_
      refine lv_aload_n hx hb dLa_law_1536 rfl (lv_at hl 1 rfl) ?_
      refine lv_iload hx hb dLa_law_1537 (lv_at hl 5 rfl) ?_
      refine lv_iconst (v := nI 3) hx hb dLa_law_1539 (by decide) ?_
      refine lv_iadd hx hb dLa_law_1540 ?_
      refine ck_sld hx hb hX hbl hbA hS (9 * j + 3) (nI_add _ _) (by omega) (by omega) hy3 dLa_law_1541 ?_
      refine lv_if_eq (tgt := 1549) hx hb dLa_law_1542 rfl (fun _ => ?_) (fun h => absurd (hb3) h)
      refine lv_iconst (v := nI 0) hx hb dLa_law_1549 (by decide) ?_
      refine clLa_146 (As := [.int y1, .int y2, .int (nI 0)]) (rest := []) hx hb hml hown hts (k_Mo_key_e l G oy r th fi se dp hdp sh sl (nI nq) oh ol w0 w1 w2 y1 y2 (nI 0) hs) hG hA hP hD hS 12 rfl [12] rfl rfl (fun _ => rfl) rfl hl.1 rfl (Nat.le_of_ble_eq_true rfl) ⟨Nat.le_of_ble_eq_true rfl, Nat.le_of_ble_eq_true rfl⟩ ⟨hcf.1, hcf.2⟩ dLa_law_1550 (fun _ H locs _ hP hD hS => ?_)
      have hP : va_P G.1 vwCl ([aJ G oq 1 fo, oC ox 7 [.ref oc, .ref ot, .ref oo, .ref oe, .ref op, .ref ocs, .ref ods, .long oh, .long ol], oC ot 6 [.int (nI dp), .long sh, .long sl], oC oc 1 [.ref owd, .long e0, .long f0], aI G owd 44 g, oC oo 2 [.ref om], aZ G om 512 mk, oC oe 4 [.long c0, .long h0, .long l0], oC op 5 [.ref ob, .int (nI nq)], aI G ob 229 f, aH G ocs 4 (fun j => some (kk j)), aQ G ods 256 dec, moC oy r (nI 1) fi se (nI dp) sh sl (nI nq) oh ol w0 w1 w2, aI G (r 0) 256 ckS, aI G (r 1) 256 ckU, aI G (r 2) 176 (bN ff), aI G (r 3) 16 (bN gg), aI G (r 4) 16 (bN mm), aZ G (r 5) 256 ins, aZ G (r 6) 1024 sb, aI G (r 7) 4 per, aJ G (r 8) 4 ph, aJ G (r 9) 4 pl, aI G (r 10) 4 ss, aI G (r 11) 1024 sv, aI G (r 12) 1024 sw, aZ G (r 13) 512 mk2, aI G (r 14) 229 f, aI G (r 15) 1024 hp, aJ G (r 16) 1024 hh, aJ G (r 17) 1024 hl9] ++ tl) H := hP
      have hD : va_D A ([aJ G oq 1 fo, oC ox 7 [.ref oc, .ref ot, .ref oo, .ref oe, .ref op, .ref ocs, .ref ods, .long oh, .long ol], oC ot 6 [.int (nI dp), .long sh, .long sl], oC oc 1 [.ref owd, .long e0, .long f0], aI G owd 44 g, oC oo 2 [.ref om], aZ G om 512 mk, oC oe 4 [.long c0, .long h0, .long l0], oC op 5 [.ref ob, .int (nI nq)], aI G ob 229 f, aH G ocs 4 (fun j => some (kk j)), aQ G ods 256 dec, moC oy r (nI 1) fi se (nI dp) sh sl (nI nq) oh ol w0 w1 w2, aI G (r 0) 256 ckS, aI G (r 1) 256 ckU, aI G (r 2) 176 (bN ff), aI G (r 3) 16 (bN gg), aI G (r 4) 16 (bN mm), aZ G (r 5) 256 ins, aZ G (r 6) 1024 sb, aI G (r 7) 4 per, aJ G (r 8) 4 ph, aJ G (r 9) 4 pl, aI G (r 10) 4 ss, aI G (r 11) 1024 sv, aI G (r 12) 1024 sw, aZ G (r 13) 512 mk2, aI G (r 14) 229 f, aI G (r 15) 1024 hp, aJ G (r 16) 1024 hh, aJ G (r 17) 1024 hl9] ++ tl) := hD
      refine W.cs (cells' := 60 + 4 * j + 4) (slots' := 20000 + 20 * j + 20) rfl rfl ?_
      refine W.eq (g2 := F0 m 1553 ls [.long (lN 0)]) rfl ?_
      refine lv_lstore (lv' := [(6, .long (lN 0)), (5, .int (nI 1)), (0, .ref b), (1, .ref ox), (2, .ref oy), (3, .ref oq), (4, .int (nI (9 * j)))]) hx hb dLa_law_1553 hl (by decide) rfl (fun ls hl => ?_)
      refine lv_aload_n hx hb dLa_law_1555 rfl (lv_at hl 4 rfl) ?_
      refine clLa_88 (As := []) (rest := []) hx hb hml hown hts (k_Mo_thrown l G oy r (nI 1) fi se (nI dp) sh sl (nI nq) oh ol w0 w1 w2) hG hA hP hD hS 12 rfl [12] rfl rfl (fun _ => rfl) rfl hl.1 rfl (Nat.le_of_ble_eq_true rfl) ⟨Nat.le_of_ble_eq_true rfl, Nat.le_of_ble_eq_true rfl⟩ ⟨hcf.1, hcf.2⟩ dLa_law_1556 (fun _ H locs _ hP hD hS => ?_)
      have hP : va_P G.1 vwCl ([aJ G oq 1 fo, oC ox 7 [.ref oc, .ref ot, .ref oo, .ref oe, .ref op, .ref ocs, .ref ods, .long oh, .long ol], oC ot 6 [.int (nI dp), .long sh, .long sl], oC oc 1 [.ref owd, .long e0, .long f0], aI G owd 44 g, oC oo 2 [.ref om], aZ G om 512 mk, oC oe 4 [.long c0, .long h0, .long l0], oC op 5 [.ref ob, .int (nI nq)], aI G ob 229 f, aH G ocs 4 (fun j => some (kk j)), aQ G ods 256 dec, moC oy r (nI 1) fi se (nI dp) sh sl (nI nq) oh ol w0 w1 w2, aI G (r 0) 256 ckS, aI G (r 1) 256 ckU, aI G (r 2) 176 (bN ff), aI G (r 3) 16 (bN gg), aI G (r 4) 16 (bN mm), aZ G (r 5) 256 ins, aZ G (r 6) 1024 sb, aI G (r 7) 4 per, aJ G (r 8) 4 ph, aJ G (r 9) 4 pl, aI G (r 10) 4 ss, aI G (r 11) 1024 sv, aI G (r 12) 1024 sw, aZ G (r 13) 512 mk2, aI G (r 14) 229 f, aI G (r 15) 1024 hp, aJ G (r 16) 1024 hh, aJ G (r 17) 1024 hl9] ++ tl) H := hP
      have hD : va_D A ([aJ G oq 1 fo, oC ox 7 [.ref oc, .ref ot, .ref oo, .ref oe, .ref op, .ref ocs, .ref ods, .long oh, .long ol], oC ot 6 [.int (nI dp), .long sh, .long sl], oC oc 1 [.ref owd, .long e0, .long f0], aI G owd 44 g, oC oo 2 [.ref om], aZ G om 512 mk, oC oe 4 [.long c0, .long h0, .long l0], oC op 5 [.ref ob, .int (nI nq)], aI G ob 229 f, aH G ocs 4 (fun j => some (kk j)), aQ G ods 256 dec, moC oy r (nI 1) fi se (nI dp) sh sl (nI nq) oh ol w0 w1 w2, aI G (r 0) 256 ckS, aI G (r 1) 256 ckU, aI G (r 2) 176 (bN ff), aI G (r 3) 16 (bN gg), aI G (r 4) 16 (bN mm), aZ G (r 5) 256 ins, aZ G (r 6) 1024 sb, aI G (r 7) 4 per, aJ G (r 8) 4 ph, aJ G (r 9) 4 pl, aI G (r 10) 4 ss, aI G (r 11) 1024 sv, aI G (r 12) 1024 sw, aZ G (r 13) 512 mk2, aI G (r 14) 229 f, aI G (r 15) 1024 hp, aJ G (r 16) 1024 hh, aJ G (r 17) 1024 hl9] ++ tl) := hD
      refine W.cs (cells' := 60 + 4 * j + 4) (slots' := 20000 + 20 * j + 20) rfl rfl ?_
      refine W.eq (g2 := F0 m 1559 ls [.int (nI 1)]) rfl ?_
      refine lv_iload hx hb dLa_law_1559 (lv_at hl 1 rfl) ?_
      refine lv_icmp_eq (tgt := 1566) hx hb dLa_law_1561 rfl (fun _ => ?_) (fun h => absurd (rfl) h)
      refine lv_iload hx hb dLa_law_1566 (lv_at hl 1 rfl) ?_
      refine lv_if_ne (tgt := 1582) hx hb dLa_law_1568 rfl (fun _ => ?_) (fun h => absurd h (by decide))
      refine lv_goto (tgt := 1641) hx hb dLa_law_1582 rfl ?_
      refine lv_iinc (v := nI (9 * (j + 1))) (lv' := [(4, .int (nI (9 * (j + 1)))), (6, .long (lN 0)), (5, .int (nI 1)), (0, .ref b), (1, .ref ox), (2, .ref oy), (3, .ref oq)]) hx hb dLa_law_1641 hl (k := 6) rfl (nI_add (9 * j) 9) (by decide) rfl (fun ls hl => ?_)
      refine lv_goto (tgt := 23) hx hb dLa_law_1644 rfl ?_
      refine W.cs (cells' := 60 + 4 * (j + 1)) (slots' := 20000 + 20 * (j + 1)) (by omega) (by omega) ?_
      subst htl
      exact ih oh ol dp sh sl g e0 f0 mk c0 h0 l0 nq f dec q sz ch cl fs fv fw T fo (nI 1) fi se w0 w1 w2 ff gg mm ins sb per ph pl ss sv sw mk2 hp hh hl9 _ _ _ hdp1 hdp hR1 hR2 hR3 hR4 hP hD hS (lv_sub hl [3, 4, 5, 6, 0] rfl)
  · rcases Bool.eq_false_or_eq_true (jSub dp y1 y2) with hs | hs
    · have hP : va_P G.1 vwCl ([aJ G oq 1 fo, oC ox 7 [.ref oc, .ref ot, .ref oo, .ref oe, .ref op, .ref ocs, .ref ods, .long oh, .long ol], oC ot 6 [.int (nI dp), .long sh, .long sl], oC oc 1 [.ref owd, .long e0, .long f0], aI G owd 44 g, oC oo 2 [.ref om], aZ G om 512 mk, oC oe 4 [.long c0, .long h0, .long l0], oC op 5 [.ref ob, .int (nI nq)], aI G ob 229 f, aH G ocs 4 (fun j => some (kk j)), aQ G ods 256 dec, moC oy r th fi se (nI dp) sh sl (nI nq) oh ol w0 w1 w2, aI G (r 0) 256 ckS, aI G (r 1) 256 ckU, aI G (r 2) 176 (bN ff), aI G (r 3) 16 (bN gg), aI G (r 4) 16 (bN mm), aZ G (r 5) 256 ins, aZ G (r 6) 1024 sb, aI G (r 7) 4 per, aJ G (r 8) 4 ph, aJ G (r 9) 4 pl, aI G (r 10) 4 ss, aI G (r 11) 1024 sv, aI G (r 12) 1024 sw, aZ G (r 13) 512 mk2, aI G (r 14) 229 f, aI G (r 15) 1024 hp, aJ G (r 16) 1024 hh, aJ G (r 17) 1024 hl9] ++ (chA (chB G kk ks kv kw q sz ch cl fs fv fw) ++ decW G T)) H := hP
      have hD : va_D A ([aJ G oq 1 fo, oC ox 7 [.ref oc, .ref ot, .ref oo, .ref oe, .ref op, .ref ocs, .ref ods, .long oh, .long ol], oC ot 6 [.int (nI dp), .long sh, .long sl], oC oc 1 [.ref owd, .long e0, .long f0], aI G owd 44 g, oC oo 2 [.ref om], aZ G om 512 mk, oC oe 4 [.long c0, .long h0, .long l0], oC op 5 [.ref ob, .int (nI nq)], aI G ob 229 f, aH G ocs 4 (fun j => some (kk j)), aQ G ods 256 dec, moC oy r th fi se (nI dp) sh sl (nI nq) oh ol w0 w1 w2, aI G (r 0) 256 ckS, aI G (r 1) 256 ckU, aI G (r 2) 176 (bN ff), aI G (r 3) 16 (bN gg), aI G (r 4) 16 (bN mm), aZ G (r 5) 256 ins, aZ G (r 6) 1024 sb, aI G (r 7) 4 per, aJ G (r 8) 4 ph, aJ G (r 9) 4 pl, aI G (r 10) 4 ss, aI G (r 11) 1024 sv, aI G (r 12) 1024 sw, aZ G (r 13) 512 mk2, aI G (r 14) 229 f, aI G (r 15) 1024 hp, aJ G (r 16) 1024 hh, aJ G (r 17) 1024 hl9] ++ (chA (chB G kk ks kv kw q sz ch cl fs fv fw) ++ decW G T)) := hD
      generalize htl : (chA (chB G kk ks kv kw q sz ch cl fs fv fw) ++ decW G T) = tl at hP hD
      refine lv_aload_n hx hb dLa_law_1490 rfl (lv_at hl 1 rfl) ?_
      refine lv_aload_n hx hb dLa_law_1491 rfl (lv_at hl 0 rfl) ?_
      refine lv_iload hx hb dLa_law_1492 (lv_at hl 4 rfl) ?_
      refine lv_iconst (v := nI 1) hx hb dLa_law_1494 (by decide) ?_
      refine lv_iadd hx hb dLa_law_1495 ?_
      refine ck_sld hx hb hX hbl hbA hS (9 * j + 1) (nI_add _ _) (by omega) (by omega) hy1 dLa_law_1496 ?_
      refine lv_aload_n hx hb dLa_law_1497 rfl (lv_at hl 0 rfl) ?_
      refine lv_iload hx hb dLa_law_1498 (lv_at hl 4 rfl) ?_
      refine lv_iconst (v := nI 2) hx hb dLa_law_1500 (by decide) ?_
      refine lv_iadd hx hb dLa_law_1501 ?_
      refine ck_sld hx hb hX hbl hbA hS (9 * j + 2) (nI_add _ _) (by omega) (by omega) hy2 dLa_law_1502 ?_
      refine lv_aload_n hx hb dLa_law_1503 rfl (lv_at hl 0 rfl) ?_
      refine lv_iload hx hb dLa_law_1504 (lv_at hl 4 rfl) ?_
      refine lv_iconst (v := nI 3) hx hb dLa_law_1506 (by decide) ?_
      refine lv_iadd hx hb dLa_law_1507 ?_
      refine ck_sld hx hb hX hbl hbA hS (9 * j + 3) (nI_add _ _) (by omega) (by omega) hy3 dLa_law_1508 ?_
      refine lv_if_eq (tgt := 1516) hx hb dLa_law_1509 rfl (fun h => absurd h (hb3)) (fun _ => ?_)
      refine lv_iconst (v := nI 1) hx hb dLa_law_1512 (by decide) ?_
      refine lv_goto (tgt := 1517) hx hb dLa_law_1513 rfl ?_
      refine lv_aload_n hx hb dLa_law_1517 rfl (lv_at hl 3 rfl) ?_
      refine clLa_144 (As := [.ref ox, .int y1, .int y2, .int (nI 1), .ref oq]) (rest := []) hx hb hml hown hts (w_La_key l G ox oq y1 y2 (nI 1) fo _ (k_CK_key l G ox oc ot oo oe op ocs ods oh ol dp hdp sh sl owd g e0 f0 y1 y2 (nI 1) hs) rfl (fun _ => rfl)) hG hA hP hD hS [0, 1, 2, 3, 4] rfl rfl (fun _ => rfl) rfl hl.1 rfl (Nat.le_of_ble_eq_true rfl) ⟨Nat.le_of_ble_eq_true rfl, Nat.le_of_ble_eq_true rfl⟩ ⟨Nat.le_trans (Nat.add_le_add_left (Nat.le_of_ble_eq_true rfl) _) hcf.1, Nat.le_trans (Nat.add_le_add_left (Nat.le_of_ble_eq_true rfl) _) hcf.2⟩ dLa_law_1518 (fun u1 H locs _ hP hD hS => ?_)
      have hP : va_P G.1 vwCl ([aJ G oq 1 (vp_updL fo 0 (jIf (nI 1) (jKy sh sl y1 y2 (jLv y2 y1)).2 (jKy sh sl y1 y2 (jLv y2 y1)).1)), oC ox 7 [.ref oc, .ref ot, .ref oo, .ref oe, .ref op, .ref ocs, .ref ods, .long oh, .long ol], oC ot 6 [.int (nI dp), .long sh, .long sl], oC oc 1 [.ref owd, .long ((jKy sh sl y1 y2 (jLv y2 y1)).1), .long ((jKy sh sl y1 y2 (jLv y2 y1)).2)], aI G owd 44 u1, oC oo 2 [.ref om], aZ G om 512 mk, oC oe 4 [.long c0, .long h0, .long l0], oC op 5 [.ref ob, .int (nI nq)], aI G ob 229 f, aH G ocs 4 (fun j => some (kk j)), aQ G ods 256 dec, moC oy r th fi se (nI dp) sh sl (nI nq) oh ol w0 w1 w2, aI G (r 0) 256 ckS, aI G (r 1) 256 ckU, aI G (r 2) 176 (bN ff), aI G (r 3) 16 (bN gg), aI G (r 4) 16 (bN mm), aZ G (r 5) 256 ins, aZ G (r 6) 1024 sb, aI G (r 7) 4 per, aJ G (r 8) 4 ph, aJ G (r 9) 4 pl, aI G (r 10) 4 ss, aI G (r 11) 1024 sv, aI G (r 12) 1024 sw, aZ G (r 13) 512 mk2, aI G (r 14) 229 f, aI G (r 15) 1024 hp, aJ G (r 16) 1024 hh, aJ G (r 17) 1024 hl9] ++ tl) H := hP
      have hD : va_D A ([aJ G oq 1 (vp_updL fo 0 (jIf (nI 1) (jKy sh sl y1 y2 (jLv y2 y1)).2 (jKy sh sl y1 y2 (jLv y2 y1)).1)), oC ox 7 [.ref oc, .ref ot, .ref oo, .ref oe, .ref op, .ref ocs, .ref ods, .long oh, .long ol], oC ot 6 [.int (nI dp), .long sh, .long sl], oC oc 1 [.ref owd, .long ((jKy sh sl y1 y2 (jLv y2 y1)).1), .long ((jKy sh sl y1 y2 (jLv y2 y1)).2)], aI G owd 44 u1, oC oo 2 [.ref om], aZ G om 512 mk, oC oe 4 [.long c0, .long h0, .long l0], oC op 5 [.ref ob, .int (nI nq)], aI G ob 229 f, aH G ocs 4 (fun j => some (kk j)), aQ G ods 256 dec, moC oy r th fi se (nI dp) sh sl (nI nq) oh ol w0 w1 w2, aI G (r 0) 256 ckS, aI G (r 1) 256 ckU, aI G (r 2) 176 (bN ff), aI G (r 3) 16 (bN gg), aI G (r 4) 16 (bN mm), aZ G (r 5) 256 ins, aZ G (r 6) 1024 sb, aI G (r 7) 4 per, aJ G (r 8) 4 ph, aJ G (r 9) 4 pl, aI G (r 10) 4 ss, aI G (r 11) 1024 sv, aI G (r 12) 1024 sw, aZ G (r 13) 512 mk2, aI G (r 14) 229 f, aI G (r 15) 1024 hp, aJ G (r 16) 1024 hh, aJ G (r 17) 1024 hl9] ++ tl) := hD
      refine W.widen (k := 60 + 4 * j + 4) (n := 20000 + 20 * j + 20) (Nat.add_le_add_left (Nat.le_of_ble_eq_true rfl) _) (Nat.add_le_add_left (Nat.le_of_ble_eq_true rfl) _) ?_
      refine W.eq (g2 := F0 m 1521 ls [.int (nI 0)]) rfl ?_
      refine lv_istore (lv' := [(5, .int (nI 0)), (0, .ref b), (1, .ref ox), (2, .ref oy), (3, .ref oq), (4, .int (nI (9 * j)))]) hx hb dLa_law_1521 hl (by decide) rfl (fun ls hl => ?_)
      refine lv_aload_n hx hb dLa_law_1523 rfl (lv_at hl 3 rfl) ?_
      refine lv_aload_n hx hb dLa_law_1524 rfl (lv_at hl 1 rfl) ?_
      refine lv_iload hx hb dLa_law_1525 (lv_at hl 5 rfl) ?_
      refine lv_iconst (v := nI 1) hx hb dLa_law_1527 (by decide) ?_
      refine lv_iadd hx hb dLa_law_1528 ?_
      refine ck_sld hx hb hX hbl hbA hS (9 * j + 1) (nI_add _ _) (by omega) (by omega) hy1 dLa_law_1529 ?_
      refine lv_aload_n hx hb dLa_law_1530 rfl (lv_at hl 1 rfl) ?_
      refine lv_iload hx hb dLa_law_1531 (lv_at hl 5 rfl) ?_
      refine lv_iconst (v := nI 2) hx hb dLa_law_1533 (by decide) ?_
      refine lv_iadd hx hb dLa_law_1534 ?_
      refine ck_sld hx hb hX hbl hbA hS (9 * j + 2) (nI_add _ _) (by omega) (by omega) hy2 dLa_law_1535 ?_
      refine lv_aload_n hx hb dLa_law_1536 rfl (lv_at hl 1 rfl) ?_
      refine lv_iload hx hb dLa_law_1537 (lv_at hl 5 rfl) ?_
      refine lv_iconst (v := nI 3) hx hb dLa_law_1539 (by decide) ?_
      refine lv_iadd hx hb dLa_law_1540 ?_
      refine ck_sld hx hb hX hbl hbA hS (9 * j + 3) (nI_add _ _) (by omega) (by omega) hy3 dLa_law_1541 ?_
      refine lv_if_eq (tgt := 1549) hx hb dLa_law_1542 rfl (fun h => absurd h (hb3)) (fun _ => ?_)
      refine lv_iconst (v := nI 1) hx hb dLa_law_1545 (by decide) ?_
      refine lv_goto (tgt := 1550) hx hb dLa_law_1546 rfl ?_
      refine clLa_146 (As := [.int y1, .int y2, .int (nI 1)]) (rest := []) hx hb hml hown hts (k_Mo_key l G oy r th fi se dp hdp sh sl (nI nq) oh ol w0 w1 w2 ff gg mm y1 y2 (nI 1) hs) hG hA hP hD hS 12 rfl [12, 13, 15, 16, 17] rfl rfl (fun _ => rfl) rfl hl.1 rfl (Nat.le_of_ble_eq_true rfl) ⟨Nat.le_of_ble_eq_true rfl, Nat.le_of_ble_eq_true rfl⟩ ⟨hcf.1, hcf.2⟩ dLa_law_1550 (fun u2 H locs _ hP hD hS => ?_)
      have hP : va_P G.1 vwCl ([aJ G oq 1 (vp_updL fo 0 (jIf (nI 1) (jKy sh sl y1 y2 (jLv y2 y1)).2 (jKy sh sl y1 y2 (jLv y2 y1)).1)), oC ox 7 [.ref oc, .ref ot, .ref oo, .ref oe, .ref op, .ref ocs, .ref ods, .long oh, .long ol], oC ot 6 [.int (nI dp), .long sh, .long sl], oC oc 1 [.ref owd, .long ((jKy sh sl y1 y2 (jLv y2 y1)).1), .long ((jKy sh sl y1 y2 (jLv y2 y1)).2)], aI G owd 44 u1, oC oo 2 [.ref om], aZ G om 512 mk, oC oe 4 [.long c0, .long h0, .long l0], oC op 5 [.ref ob, .int (nI nq)], aI G ob 229 f, aH G ocs 4 (fun j => some (kk j)), aQ G ods 256 dec, moC oy r (nI 0) ((jKy sh sl y1 y2 (jLv y2 y1)).1) ((jKy sh sl y1 y2 (jLv y2 y1)).2) (nI dp) sh sl (nI nq) oh ol w0 w1 w2, aI G (r 0) 256 ckS, aI G (r 1) 256 ckU, aI G (r 2) 176 (bN u2.1), aI G (r 3) 16 (bN u2.2.1), aI G (r 4) 16 (bN u2.2.2), aZ G (r 5) 256 ins, aZ G (r 6) 1024 sb, aI G (r 7) 4 per, aJ G (r 8) 4 ph, aJ G (r 9) 4 pl, aI G (r 10) 4 ss, aI G (r 11) 1024 sv, aI G (r 12) 1024 sw, aZ G (r 13) 512 mk2, aI G (r 14) 229 f, aI G (r 15) 1024 hp, aJ G (r 16) 1024 hh, aJ G (r 17) 1024 hl9] ++ tl) H := hP
      have hD : va_D A ([aJ G oq 1 (vp_updL fo 0 (jIf (nI 1) (jKy sh sl y1 y2 (jLv y2 y1)).2 (jKy sh sl y1 y2 (jLv y2 y1)).1)), oC ox 7 [.ref oc, .ref ot, .ref oo, .ref oe, .ref op, .ref ocs, .ref ods, .long oh, .long ol], oC ot 6 [.int (nI dp), .long sh, .long sl], oC oc 1 [.ref owd, .long ((jKy sh sl y1 y2 (jLv y2 y1)).1), .long ((jKy sh sl y1 y2 (jLv y2 y1)).2)], aI G owd 44 u1, oC oo 2 [.ref om], aZ G om 512 mk, oC oe 4 [.long c0, .long h0, .long l0], oC op 5 [.ref ob, .int (nI nq)], aI G ob 229 f, aH G ocs 4 (fun j => some (kk j)), aQ G ods 256 dec, moC oy r (nI 0) ((jKy sh sl y1 y2 (jLv y2 y1)).1) ((jKy sh sl y1 y2 (jLv y2 y1)).2) (nI dp) sh sl (nI nq) oh ol w0 w1 w2, aI G (r 0) 256 ckS, aI G (r 1) 256 ckU, aI G (r 2) 176 (bN u2.1), aI G (r 3) 16 (bN u2.2.1), aI G (r 4) 16 (bN u2.2.2), aZ G (r 5) 256 ins, aZ G (r 6) 1024 sb, aI G (r 7) 4 per, aJ G (r 8) 4 ph, aJ G (r 9) 4 pl, aI G (r 10) 4 ss, aI G (r 11) 1024 sv, aI G (r 12) 1024 sw, aZ G (r 13) 512 mk2, aI G (r 14) 229 f, aI G (r 15) 1024 hp, aJ G (r 16) 1024 hh, aJ G (r 17) 1024 hl9] ++ tl) := hD
      refine W.cs (cells' := 60 + 4 * j + 4) (slots' := 20000 + 20 * j + 20) rfl rfl ?_
      refine W.eq (g2 := F0 m 1553 ls [.long (jIf (nI 1) (jKy sh sl y1 y2 (jLv y2 y1)).2 (jKy sh sl y1 y2 (jLv y2 y1)).1)]) rfl ?_
      refine lv_lstore (lv' := [(6, .long (jIf (nI 1) (jKy sh sl y1 y2 (jLv y2 y1)).2 (jKy sh sl y1 y2 (jLv y2 y1)).1)), (5, .int (nI 0)), (0, .ref b), (1, .ref ox), (2, .ref oy), (3, .ref oq), (4, .int (nI (9 * j)))]) hx hb dLa_law_1553 hl (by decide) rfl (fun ls hl => ?_)
      refine lv_aload_n hx hb dLa_law_1555 rfl (lv_at hl 4 rfl) ?_
      refine clLa_88 (As := []) (rest := []) hx hb hml hown hts (k_Mo_thrown l G oy r (nI 0) ((jKy sh sl y1 y2 (jLv y2 y1)).1) ((jKy sh sl y1 y2 (jLv y2 y1)).2) (nI dp) sh sl (nI nq) oh ol w0 w1 w2) hG hA hP hD hS 12 rfl [12] rfl rfl (fun _ => rfl) rfl hl.1 rfl (Nat.le_of_ble_eq_true rfl) ⟨Nat.le_of_ble_eq_true rfl, Nat.le_of_ble_eq_true rfl⟩ ⟨hcf.1, hcf.2⟩ dLa_law_1556 (fun _ H locs _ hP hD hS => ?_)
      have hP : va_P G.1 vwCl ([aJ G oq 1 (vp_updL fo 0 (jIf (nI 1) (jKy sh sl y1 y2 (jLv y2 y1)).2 (jKy sh sl y1 y2 (jLv y2 y1)).1)), oC ox 7 [.ref oc, .ref ot, .ref oo, .ref oe, .ref op, .ref ocs, .ref ods, .long oh, .long ol], oC ot 6 [.int (nI dp), .long sh, .long sl], oC oc 1 [.ref owd, .long ((jKy sh sl y1 y2 (jLv y2 y1)).1), .long ((jKy sh sl y1 y2 (jLv y2 y1)).2)], aI G owd 44 u1, oC oo 2 [.ref om], aZ G om 512 mk, oC oe 4 [.long c0, .long h0, .long l0], oC op 5 [.ref ob, .int (nI nq)], aI G ob 229 f, aH G ocs 4 (fun j => some (kk j)), aQ G ods 256 dec, moC oy r (nI 0) ((jKy sh sl y1 y2 (jLv y2 y1)).1) ((jKy sh sl y1 y2 (jLv y2 y1)).2) (nI dp) sh sl (nI nq) oh ol w0 w1 w2, aI G (r 0) 256 ckS, aI G (r 1) 256 ckU, aI G (r 2) 176 (bN u2.1), aI G (r 3) 16 (bN u2.2.1), aI G (r 4) 16 (bN u2.2.2), aZ G (r 5) 256 ins, aZ G (r 6) 1024 sb, aI G (r 7) 4 per, aJ G (r 8) 4 ph, aJ G (r 9) 4 pl, aI G (r 10) 4 ss, aI G (r 11) 1024 sv, aI G (r 12) 1024 sw, aZ G (r 13) 512 mk2, aI G (r 14) 229 f, aI G (r 15) 1024 hp, aJ G (r 16) 1024 hh, aJ G (r 17) 1024 hl9] ++ tl) H := hP
      have hD : va_D A ([aJ G oq 1 (vp_updL fo 0 (jIf (nI 1) (jKy sh sl y1 y2 (jLv y2 y1)).2 (jKy sh sl y1 y2 (jLv y2 y1)).1)), oC ox 7 [.ref oc, .ref ot, .ref oo, .ref oe, .ref op, .ref ocs, .ref ods, .long oh, .long ol], oC ot 6 [.int (nI dp), .long sh, .long sl], oC oc 1 [.ref owd, .long ((jKy sh sl y1 y2 (jLv y2 y1)).1), .long ((jKy sh sl y1 y2 (jLv y2 y1)).2)], aI G owd 44 u1, oC oo 2 [.ref om], aZ G om 512 mk, oC oe 4 [.long c0, .long h0, .long l0], oC op 5 [.ref ob, .int (nI nq)], aI G ob 229 f, aH G ocs 4 (fun j => some (kk j)), aQ G ods 256 dec, moC oy r (nI 0) ((jKy sh sl y1 y2 (jLv y2 y1)).1) ((jKy sh sl y1 y2 (jLv y2 y1)).2) (nI dp) sh sl (nI nq) oh ol w0 w1 w2, aI G (r 0) 256 ckS, aI G (r 1) 256 ckU, aI G (r 2) 176 (bN u2.1), aI G (r 3) 16 (bN u2.2.1), aI G (r 4) 16 (bN u2.2.2), aZ G (r 5) 256 ins, aZ G (r 6) 1024 sb, aI G (r 7) 4 per, aJ G (r 8) 4 ph, aJ G (r 9) 4 pl, aI G (r 10) 4 ss, aI G (r 11) 1024 sv, aI G (r 12) 1024 sw, aZ G (r 13) 512 mk2, aI G (r 14) 229 f, aI G (r 15) 1024 hp, aJ G (r 16) 1024 hh, aJ G (r 17) 1024 hl9] ++ tl) := hD
      refine W.cs (cells' := 60 + 4 * j + 4) (slots' := 20000 + 20 * j + 20) rfl rfl ?_
      refine W.eq (g2 := F0 m 1559 ls [.int (nI 0)]) rfl ?_
      refine lv_iload hx hb dLa_law_1559 (lv_at hl 1 rfl) ?_
      refine lv_icmp_eq (tgt := 1566) hx hb dLa_law_1561 rfl (fun _ => ?_) (fun h => absurd (rfl) h)
      refine lv_iload hx hb dLa_law_1566 (lv_at hl 1 rfl) ?_
      refine lv_if_ne (tgt := 1582) hx hb dLa_law_1568 rfl (fun h => absurd (rfl) h) (fun _ => ?_)
      refine lv_aload_n hx hb dLa_law_1571 rfl (lv_at hl 5 rfl) ?_
      refine lv_iconst (v := nI 0) hx hb dLa_law_1572 (by decide) ?_
      refine ck_lald hx hb hG hP 0 rfl (by decide) 0 (rfl) (by decide) dLa_law_1573 ?_
      refine ck_rl (y := jIf (nI 1) (jKy sh sl y1 y2 (jLv y2 y1)).2 (jKy sh sl y1 y2 (jLv y2 y1)).1) (rfl) ?_
      refine lv_lload hx hb dLa_law_1574 (lv_at hl 0 rfl) ?_
      refine W.lcmp hx hb dLa_law_1576 ?_
      refine lv_if_eq (tgt := 1582) hx hb dLa_law_1577 rfl (fun _ => ?_) (fun h => absurd ((lg_cmp_0 _ _).mpr (rfl)) h)
      refine lv_goto (tgt := 1641) hx hb dLa_law_1582 rfl ?_
      refine lv_iinc (v := nI (9 * (j + 1))) (lv' := [(4, .int (nI (9 * (j + 1)))), (6, .long (jIf (nI 1) (jKy sh sl y1 y2 (jLv y2 y1)).2 (jKy sh sl y1 y2 (jLv y2 y1)).1)), (5, .int (nI 0)), (0, .ref b), (1, .ref ox), (2, .ref oy), (3, .ref oq)]) hx hb dLa_law_1641 hl (k := 6) rfl (nI_add (9 * j) 9) (by decide) rfl (fun ls hl => ?_)
      refine lv_goto (tgt := 23) hx hb dLa_law_1644 rfl ?_
      refine W.cs (cells' := 60 + 4 * (j + 1)) (slots' := 20000 + 20 * (j + 1)) (by omega) (by omega) ?_
      subst htl
      exact ih oh ol dp sh sl u1 ((jKy sh sl y1 y2 (jLv y2 y1)).1) ((jKy sh sl y1 y2 (jLv y2 y1)).2) mk c0 h0 l0 nq f dec q sz ch cl fs fv fw T (vp_updL fo 0 (jIf (nI 1) (jKy sh sl y1 y2 (jLv y2 y1)).2 (jKy sh sl y1 y2 (jLv y2 y1)).1)) (nI 0) ((jKy sh sl y1 y2 (jLv y2 y1)).1) ((jKy sh sl y1 y2 (jLv y2 y1)).2) w0 w1 w2 u2.1 u2.2.1 u2.2.2 ins sb per ph pl ss sv sw mk2 hp hh hl9 _ _ _ hdp1 hdp hR1 hR2 hR3 hR4 hP hD hS (lv_sub hl [3, 4, 5, 6, 0] rfl)
    · have hP : va_P G.1 vwCl ([aJ G oq 1 fo, oC ox 7 [.ref oc, .ref ot, .ref oo, .ref oe, .ref op, .ref ocs, .ref ods, .long oh, .long ol], oC ot 6 [.int (nI dp), .long sh, .long sl], oC oc 1 [.ref owd, .long e0, .long f0], aI G owd 44 g, oC oo 2 [.ref om], aZ G om 512 mk, oC oe 4 [.long c0, .long h0, .long l0], oC op 5 [.ref ob, .int (nI nq)], aI G ob 229 f, aH G ocs 4 (fun j => some (kk j)), aQ G ods 256 dec, moC oy r th fi se (nI dp) sh sl (nI nq) oh ol w0 w1 w2, aI G (r 0) 256 ckS, aI G (r 1) 256 ckU, aI G (r 2) 176 (bN ff), aI G (r 3) 16 (bN gg), aI G (r 4) 16 (bN mm), aZ G (r 5) 256 ins, aZ G (r 6) 1024 sb, aI G (r 7) 4 per, aJ G (r 8) 4 ph, aJ G (r 9) 4 pl, aI G (r 10) 4 ss, aI G (r 11) 1024 sv, aI G (r 12) 1024 sw, aZ G (r 13) 512 mk2, aI G (r 14) 229 f, aI G (r 15) 1024 hp, aJ G (r 16) 1024 hh, aJ G (r 17) 1024 hl9] ++ (chA (chB G kk ks kv kw q sz ch cl fs fv fw) ++ decW G T)) H := hP
      have hD : va_D A ([aJ G oq 1 fo, oC ox 7 [.ref oc, .ref ot, .ref oo, .ref oe, .ref op, .ref ocs, .ref ods, .long oh, .long ol], oC ot 6 [.int (nI dp), .long sh, .long sl], oC oc 1 [.ref owd, .long e0, .long f0], aI G owd 44 g, oC oo 2 [.ref om], aZ G om 512 mk, oC oe 4 [.long c0, .long h0, .long l0], oC op 5 [.ref ob, .int (nI nq)], aI G ob 229 f, aH G ocs 4 (fun j => some (kk j)), aQ G ods 256 dec, moC oy r th fi se (nI dp) sh sl (nI nq) oh ol w0 w1 w2, aI G (r 0) 256 ckS, aI G (r 1) 256 ckU, aI G (r 2) 176 (bN ff), aI G (r 3) 16 (bN gg), aI G (r 4) 16 (bN mm), aZ G (r 5) 256 ins, aZ G (r 6) 1024 sb, aI G (r 7) 4 per, aJ G (r 8) 4 ph, aJ G (r 9) 4 pl, aI G (r 10) 4 ss, aI G (r 11) 1024 sv, aI G (r 12) 1024 sw, aZ G (r 13) 512 mk2, aI G (r 14) 229 f, aI G (r 15) 1024 hp, aJ G (r 16) 1024 hh, aJ G (r 17) 1024 hl9] ++ (chA (chB G kk ks kv kw q sz ch cl fs fv fw) ++ decW G T)) := hD
      generalize htl : (chA (chB G kk ks kv kw q sz ch cl fs fv fw) ++ decW G T) = tl at hP hD
      refine lv_aload_n hx hb dLa_law_1490 rfl (lv_at hl 1 rfl) ?_
      refine lv_aload_n hx hb dLa_law_1491 rfl (lv_at hl 0 rfl) ?_
      refine lv_iload hx hb dLa_law_1492 (lv_at hl 4 rfl) ?_
      refine lv_iconst (v := nI 1) hx hb dLa_law_1494 (by decide) ?_
      refine lv_iadd hx hb dLa_law_1495 ?_
      refine ck_sld hx hb hX hbl hbA hS (9 * j + 1) (nI_add _ _) (by omega) (by omega) hy1 dLa_law_1496 ?_
      refine lv_aload_n hx hb dLa_law_1497 rfl (lv_at hl 0 rfl) ?_
      refine lv_iload hx hb dLa_law_1498 (lv_at hl 4 rfl) ?_
      refine lv_iconst (v := nI 2) hx hb dLa_law_1500 (by decide) ?_
      refine lv_iadd hx hb dLa_law_1501 ?_
      refine ck_sld hx hb hX hbl hbA hS (9 * j + 2) (nI_add _ _) (by omega) (by omega) hy2 dLa_law_1502 ?_
      refine lv_aload_n hx hb dLa_law_1503 rfl (lv_at hl 0 rfl) ?_
      refine lv_iload hx hb dLa_law_1504 (lv_at hl 4 rfl) ?_
      refine lv_iconst (v := nI 3) hx hb dLa_law_1506 (by decide) ?_
      refine lv_iadd hx hb dLa_law_1507 ?_
      refine ck_sld hx hb hX hbl hbA hS (9 * j + 3) (nI_add _ _) (by omega) (by omega) hy3 dLa_law_1508 ?_
      refine lv_if_eq (tgt := 1516) hx hb dLa_law_1509 rfl (fun h => absurd h (hb3)) (fun _ => ?_)
      refine lv_iconst (v := nI 1) hx hb dLa_law_1512 (by decide) ?_
      refine lv_goto (tgt := 1517) hx hb dLa_law_1513 rfl ?_
      refine lv_aload_n hx hb dLa_law_1517 rfl (lv_at hl 3 rfl) ?_
      refine clLa_144 (As := [.ref ox, .int y1, .int y2, .int (nI 1), .ref oq]) (rest := []) hx hb hml hown hts (w_La_key_IAE (wi := [oC ox 7 [.ref oc, .ref ot, .ref oo, .ref oe, .ref op, .ref ocs, .ref ods, .long oh, .long ol], oC ot 6 [.int (nI dp), .long sh, .long sl]]) l G ox oq y1 y2 (nI 1) (x_CK_key l hl0 G ox oc ot oo oe op ocs ods oh ol dp hdp sh sl y1 y2 (nI 1) hs) 0 rfl [0, 1] rfl rfl rfl) hG hA hP hD hS [1, 2] rfl rfl (fun _ => rfl) rfl hl.1 rfl (Nat.le_of_ble_eq_true rfl) ⟨Nat.le_of_ble_eq_true rfl, Nat.le_of_ble_eq_true rfl⟩ ⟨Nat.le_trans (Nat.add_le_add_left (Nat.le_of_ble_eq_true rfl) _) hcf.1, Nat.le_trans (Nat.add_le_add_left (Nat.le_of_ble_eq_true rfl) _) hcf.2⟩ dLa_law_1518 (fun _ H locs _ hP hD hS => ?_)
      have hP : va_P G.1 vwCl ([aJ G oq 1 fo, oC ox 7 [.ref oc, .ref ot, .ref oo, .ref oe, .ref op, .ref ocs, .ref ods, .long oh, .long ol], oC ot 6 [.int (nI dp), .long sh, .long sl], oC oc 1 [.ref owd, .long e0, .long f0], aI G owd 44 g, oC oo 2 [.ref om], aZ G om 512 mk, oC oe 4 [.long c0, .long h0, .long l0], oC op 5 [.ref ob, .int (nI nq)], aI G ob 229 f, aH G ocs 4 (fun j => some (kk j)), aQ G ods 256 dec, moC oy r th fi se (nI dp) sh sl (nI nq) oh ol w0 w1 w2, aI G (r 0) 256 ckS, aI G (r 1) 256 ckU, aI G (r 2) 176 (bN ff), aI G (r 3) 16 (bN gg), aI G (r 4) 16 (bN mm), aZ G (r 5) 256 ins, aZ G (r 6) 1024 sb, aI G (r 7) 4 per, aJ G (r 8) 4 ph, aJ G (r 9) 4 pl, aI G (r 10) 4 ss, aI G (r 11) 1024 sv, aI G (r 12) 1024 sw, aZ G (r 13) 512 mk2, aI G (r 14) 229 f, aI G (r 15) 1024 hp, aJ G (r 16) 1024 hh, aJ G (r 17) 1024 hl9] ++ tl) H := hP
      have hD : va_D A ([aJ G oq 1 fo, oC ox 7 [.ref oc, .ref ot, .ref oo, .ref oe, .ref op, .ref ocs, .ref ods, .long oh, .long ol], oC ot 6 [.int (nI dp), .long sh, .long sl], oC oc 1 [.ref owd, .long e0, .long f0], aI G owd 44 g, oC oo 2 [.ref om], aZ G om 512 mk, oC oe 4 [.long c0, .long h0, .long l0], oC op 5 [.ref ob, .int (nI nq)], aI G ob 229 f, aH G ocs 4 (fun j => some (kk j)), aQ G ods 256 dec, moC oy r th fi se (nI dp) sh sl (nI nq) oh ol w0 w1 w2, aI G (r 0) 256 ckS, aI G (r 1) 256 ckU, aI G (r 2) 176 (bN ff), aI G (r 3) 16 (bN gg), aI G (r 4) 16 (bN mm), aZ G (r 5) 256 ins, aZ G (r 6) 1024 sb, aI G (r 7) 4 per, aJ G (r 8) 4 ph, aJ G (r 9) 4 pl, aI G (r 10) 4 ss, aI G (r 11) 1024 sv, aI G (r 12) 1024 sw, aZ G (r 13) 512 mk2, aI G (r 14) 229 f, aI G (r 15) 1024 hp, aJ G (r 16) 1024 hh, aJ G (r 17) 1024 hl9] ++ tl) := hD
      refine W.widen (k := 60 + 4 * j + 4) (n := 20000 + 20 * j + 20) (Nat.add_le_add_left (Nat.le_of_ble_eq_true rfl) _) (Nat.add_le_add_left (Nat.le_of_ble_eq_true rfl) _) ?_
      refine W.eq (g2 := F0 m 1521 ls [.int (nI 1)]) rfl ?_
      refine lv_istore (lv' := [(5, .int (nI 1)), (0, .ref b), (1, .ref ox), (2, .ref oy), (3, .ref oq), (4, .int (nI (9 * j)))]) hx hb dLa_law_1521 hl (by decide) rfl (fun ls hl => ?_)
      refine lv_aload_n hx hb dLa_law_1523 rfl (lv_at hl 3 rfl) ?_
      refine lv_aload_n hx hb dLa_law_1524 rfl (lv_at hl 1 rfl) ?_
      refine lv_iload hx hb dLa_law_1525 (lv_at hl 5 rfl) ?_
      refine lv_iconst (v := nI 1) hx hb dLa_law_1527 (by decide) ?_
      refine lv_iadd hx hb dLa_law_1528 ?_
      refine ck_sld hx hb hX hbl hbA hS (9 * j + 1) (nI_add _ _) (by omega) (by omega) hy1 dLa_law_1529 ?_
      refine lv_aload_n hx hb dLa_law_1530 rfl (lv_at hl 1 rfl) ?_
      refine lv_iload hx hb dLa_law_1531 (lv_at hl 5 rfl) ?_
      refine lv_iconst (v := nI 2) hx hb dLa_law_1533 (by decide) ?_
      refine lv_iadd hx hb dLa_law_1534 ?_
      refine ck_sld hx hb hX hbl hbA hS (9 * j + 2) (nI_add _ _) (by omega) (by omega) hy2 dLa_law_1535 ?_
      refine lv_aload_n hx hb dLa_law_1536 rfl (lv_at hl 1 rfl) ?_
      refine lv_iload hx hb dLa_law_1537 (lv_at hl 5 rfl) ?_
      refine lv_iconst (v := nI 3) hx hb dLa_law_1539 (by decide) ?_
      refine lv_iadd hx hb dLa_law_1540 ?_
      refine ck_sld hx hb hX hbl hbA hS (9 * j + 3) (nI_add _ _) (by omega) (by omega) hy3 dLa_law_1541 ?_
      refine lv_if_eq (tgt := 1549) hx hb dLa_law_1542 rfl (fun h => absurd h (hb3)) (fun _ => ?_)
      refine lv_iconst (v := nI 1) hx hb dLa_law_1545 (by decide) ?_
      refine lv_goto (tgt := 1550) hx hb dLa_law_1546 rfl ?_
      refine clLa_146 (As := [.int y1, .int y2, .int (nI 1)]) (rest := []) hx hb hml hown hts (k_Mo_key_e l G oy r th fi se dp hdp sh sl (nI nq) oh ol w0 w1 w2 y1 y2 (nI 1) hs) hG hA hP hD hS 12 rfl [12] rfl rfl (fun _ => rfl) rfl hl.1 rfl (Nat.le_of_ble_eq_true rfl) ⟨Nat.le_of_ble_eq_true rfl, Nat.le_of_ble_eq_true rfl⟩ ⟨hcf.1, hcf.2⟩ dLa_law_1550 (fun _ H locs _ hP hD hS => ?_)
      have hP : va_P G.1 vwCl ([aJ G oq 1 fo, oC ox 7 [.ref oc, .ref ot, .ref oo, .ref oe, .ref op, .ref ocs, .ref ods, .long oh, .long ol], oC ot 6 [.int (nI dp), .long sh, .long sl], oC oc 1 [.ref owd, .long e0, .long f0], aI G owd 44 g, oC oo 2 [.ref om], aZ G om 512 mk, oC oe 4 [.long c0, .long h0, .long l0], oC op 5 [.ref ob, .int (nI nq)], aI G ob 229 f, aH G ocs 4 (fun j => some (kk j)), aQ G ods 256 dec, moC oy r (nI 1) fi se (nI dp) sh sl (nI nq) oh ol w0 w1 w2, aI G (r 0) 256 ckS, aI G (r 1) 256 ckU, aI G (r 2) 176 (bN ff), aI G (r 3) 16 (bN gg), aI G (r 4) 16 (bN mm), aZ G (r 5) 256 ins, aZ G (r 6) 1024 sb, aI G (r 7) 4 per, aJ G (r 8) 4 ph, aJ G (r 9) 4 pl, aI G (r 10) 4 ss, aI G (r 11) 1024 sv, aI G (r 12) 1024 sw, aZ G (r 13) 512 mk2, aI G (r 14) 229 f, aI G (r 15) 1024 hp, aJ G (r 16) 1024 hh, aJ G (r 17) 1024 hl9] ++ tl) H := hP
      have hD : va_D A ([aJ G oq 1 fo, oC ox 7 [.ref oc, .ref ot, .ref oo, .ref oe, .ref op, .ref ocs, .ref ods, .long oh, .long ol], oC ot 6 [.int (nI dp), .long sh, .long sl], oC oc 1 [.ref owd, .long e0, .long f0], aI G owd 44 g, oC oo 2 [.ref om], aZ G om 512 mk, oC oe 4 [.long c0, .long h0, .long l0], oC op 5 [.ref ob, .int (nI nq)], aI G ob 229 f, aH G ocs 4 (fun j => some (kk j)), aQ G ods 256 dec, moC oy r (nI 1) fi se (nI dp) sh sl (nI nq) oh ol w0 w1 w2, aI G (r 0) 256 ckS, aI G (r 1) 256 ckU, aI G (r 2) 176 (bN ff), aI G (r 3) 16 (bN gg), aI G (r 4) 16 (bN mm), aZ G (r 5) 256 ins, aZ G (r 6) 1024 sb, aI G (r 7) 4 per, aJ G (r 8) 4 ph, aJ G (r 9) 4 pl, aI G (r 10) 4 ss, aI G (r 11) 1024 sv, aI G (r 12) 1024 sw, aZ G (r 13) 512 mk2, aI G (r 14) 229 f, aI G (r 15) 1024 hp, aJ G (r 16) 1024 hh, aJ G (r 17) 1024 hl9] ++ tl) := hD
      refine W.cs (cells' := 60 + 4 * j + 4) (slots' := 20000 + 20 * j + 20) rfl rfl ?_
      refine W.eq (g2 := F0 m 1553 ls [.long (lN 0)]) rfl ?_
      refine lv_lstore (lv' := [(6, .long (lN 0)), (5, .int (nI 1)), (0, .ref b), (1, .ref ox), (2, .ref oy), (3, .ref oq), (4, .int (nI (9 * j)))]) hx hb dLa_law_1553 hl (by decide) rfl (fun ls hl => ?_)
      refine lv_aload_n hx hb dLa_law_1555 rfl (lv_at hl 4 rfl) ?_
      refine clLa_88 (As := []) (rest := []) hx hb hml hown hts (k_Mo_thrown l G oy r (nI 1) fi se (nI dp) sh sl (nI nq) oh ol w0 w1 w2) hG hA hP hD hS 12 rfl [12] rfl rfl (fun _ => rfl) rfl hl.1 rfl (Nat.le_of_ble_eq_true rfl) ⟨Nat.le_of_ble_eq_true rfl, Nat.le_of_ble_eq_true rfl⟩ ⟨hcf.1, hcf.2⟩ dLa_law_1556 (fun _ H locs _ hP hD hS => ?_)
      have hP : va_P G.1 vwCl ([aJ G oq 1 fo, oC ox 7 [.ref oc, .ref ot, .ref oo, .ref oe, .ref op, .ref ocs, .ref ods, .long oh, .long ol], oC ot 6 [.int (nI dp), .long sh, .long sl], oC oc 1 [.ref owd, .long e0, .long f0], aI G owd 44 g, oC oo 2 [.ref om], aZ G om 512 mk, oC oe 4 [.long c0, .long h0, .long l0], oC op 5 [.ref ob, .int (nI nq)], aI G ob 229 f, aH G ocs 4 (fun j => some (kk j)), aQ G ods 256 dec, moC oy r (nI 1) fi se (nI dp) sh sl (nI nq) oh ol w0 w1 w2, aI G (r 0) 256 ckS, aI G (r 1) 256 ckU, aI G (r 2) 176 (bN ff), aI G (r 3) 16 (bN gg), aI G (r 4) 16 (bN mm), aZ G (r 5) 256 ins, aZ G (r 6) 1024 sb, aI G (r 7) 4 per, aJ G (r 8) 4 ph, aJ G (r 9) 4 pl, aI G (r 10) 4 ss, aI G (r 11) 1024 sv, aI G (r 12) 1024 sw, aZ G (r 13) 512 mk2, aI G (r 14) 229 f, aI G (r 15) 1024 hp, aJ G (r 16) 1024 hh, aJ G (r 17) 1024 hl9] ++ tl) H := hP
      have hD : va_D A ([aJ G oq 1 fo, oC ox 7 [.ref oc, .ref ot, .ref oo, .ref oe, .ref op, .ref ocs, .ref ods, .long oh, .long ol], oC ot 6 [.int (nI dp), .long sh, .long sl], oC oc 1 [.ref owd, .long e0, .long f0], aI G owd 44 g, oC oo 2 [.ref om], aZ G om 512 mk, oC oe 4 [.long c0, .long h0, .long l0], oC op 5 [.ref ob, .int (nI nq)], aI G ob 229 f, aH G ocs 4 (fun j => some (kk j)), aQ G ods 256 dec, moC oy r (nI 1) fi se (nI dp) sh sl (nI nq) oh ol w0 w1 w2, aI G (r 0) 256 ckS, aI G (r 1) 256 ckU, aI G (r 2) 176 (bN ff), aI G (r 3) 16 (bN gg), aI G (r 4) 16 (bN mm), aZ G (r 5) 256 ins, aZ G (r 6) 1024 sb, aI G (r 7) 4 per, aJ G (r 8) 4 ph, aJ G (r 9) 4 pl, aI G (r 10) 4 ss, aI G (r 11) 1024 sv, aI G (r 12) 1024 sw, aZ G (r 13) 512 mk2, aI G (r 14) 229 f, aI G (r 15) 1024 hp, aJ G (r 16) 1024 hh, aJ G (r 17) 1024 hl9] ++ tl) := hD
      refine W.cs (cells' := 60 + 4 * j + 4) (slots' := 20000 + 20 * j + 20) rfl rfl ?_
      refine W.eq (g2 := F0 m 1559 ls [.int (nI 1)]) rfl ?_
      refine lv_iload hx hb dLa_law_1559 (lv_at hl 1 rfl) ?_
      refine lv_icmp_eq (tgt := 1566) hx hb dLa_law_1561 rfl (fun _ => ?_) (fun h => absurd (rfl) h)
      refine lv_iload hx hb dLa_law_1566 (lv_at hl 1 rfl) ?_
      refine lv_if_ne (tgt := 1582) hx hb dLa_law_1568 rfl (fun _ => ?_) (fun h => absurd h (by decide))
      refine lv_goto (tgt := 1641) hx hb dLa_law_1582 rfl ?_
      refine lv_iinc (v := nI (9 * (j + 1))) (lv' := [(4, .int (nI (9 * (j + 1)))), (6, .long (lN 0)), (5, .int (nI 1)), (0, .ref b), (1, .ref ox), (2, .ref oy), (3, .ref oq)]) hx hb dLa_law_1641 hl (k := 6) rfl (nI_add (9 * j) 9) (by decide) rfl (fun ls hl => ?_)
      refine lv_goto (tgt := 23) hx hb dLa_law_1644 rfl ?_
      refine W.cs (cells' := 60 + 4 * (j + 1)) (slots' := 20000 + 20 * (j + 1)) (by omega) (by omega) ?_
      subst htl
      exact ih oh ol dp sh sl g e0 f0 mk c0 h0 l0 nq f dec q sz ch cl fs fv fw T fo (nI 1) fi se w0 w1 w2 ff gg mm ins sb per ph pl ss sv sw mk2 hp hh hl9 _ _ _ hdp1 hdp hR1 hR2 hR3 hR4 hP hD hS (lv_sub hl [3, 4, 5, 6, 0] rfl)
set_option maxHeartbeats 4000000 in
set_option maxRecDepth 100000 in
theorem law_begin {p : Program} {l : Launch} {e : Env} {s : State} {m : MethodId} {below : List Frame} {meth : Method} {c : Code} {A : Nat → Prop} {G : gG} {b : Nat} {L : Nat} {xs : Nat → Int32} {ox oc owd ot oo om oe op ob ocs ods oq oy : Nat} {kk ks kv kw r : Nat → Nat} (hC0 : LC p l s m c A G b L xs) {j : Nat} (hj : 9 * j + 9 ≤ L) (ih : LAp p l e s m below meth c A G b ox oc owd ot oo om oe op ob ocs ods oq oy kk ks kv kw r 23 (j + 1)) : LAp p l e s m below meth c A G b ox oc owd ot oo om oe op ob ocs ods oq oy kk ks kv kw r 124 j := by
  intro oh ol dp sh sl g e0 f0 mk c0 h0 l0 nq f dec q sz ch cl fs fv fw T fo th fi se w0 w1 w2 ff gg mm ins sb per ph pl ss sv sw mk2 hp hh hl9 H locs ls hdp1 hdp hR1 hR2 hR3 hR4 hP hD hS hl
  obtain ⟨hx, hb, hml, hown, hts, hG, hA, hX, hbl, hbA, hl0, hLN⟩ := hC0
  have hcf : 60 + 4 * j + 4 ≤ room_1.cells ∧ 20000 + 20 * j + 20 ≤ room_1.slots := ⟨by show _ ≤ 601024; omega, by show _ ≤ 7293034; omega⟩
  have hp2 := p2_le hdp
  have hp1 := Nat.two_pow_pos dp
  have hl : lv_has ls 8 [(0, .ref b), (1, .ref ox), (2, .ref oy), (3, .ref oq), (4, .int (nI (9 * j)))] := hl
  obtain ⟨y1, hy1⟩ : ∃ y, xs (9 * j + 1) = y := ⟨_, rfl⟩
  obtain ⟨y2, hy2⟩ : ∃ y, xs (9 * j + 2) = y := ⟨_, rfl⟩
  obtain ⟨y3, hy3⟩ : ∃ y, xs (9 * j + 3) = y := ⟨_, rfl⟩
  obtain ⟨y4, hy4⟩ : ∃ y, xs (9 * j + 4) = y := ⟨_, rfl⟩
  obtain ⟨y5, hy5⟩ : ∃ y, xs (9 * j + 5) = y := ⟨_, rfl⟩
  by_cases hd : (decide (y1 < nI 1) || !decide (y1 ≤ nI 8)) = true
  · have hP : va_P G.1 vwCl ([aJ G oq 1 fo, oC ox 7 [.ref oc, .ref ot, .ref oo, .ref oe, .ref op, .ref ocs, .ref ods, .long oh, .long ol], oC ot 6 [.int (nI dp), .long sh, .long sl], oC oc 1 [.ref owd, .long e0, .long f0], aI G owd 44 g, oC oo 2 [.ref om], aZ G om 512 mk, oC oe 4 [.long c0, .long h0, .long l0], oC op 5 [.ref ob, .int (nI nq)], aI G ob 229 f, aH G ocs 4 (fun j => some (kk j)), aQ G ods 256 dec, moC oy r th fi se (nI dp) sh sl (nI nq) oh ol w0 w1 w2, aI G (r 0) 256 ckS, aI G (r 1) 256 ckU, aI G (r 2) 176 (bN ff), aI G (r 3) 16 (bN gg), aI G (r 4) 16 (bN mm), aZ G (r 5) 256 ins, aZ G (r 6) 1024 sb, aI G (r 7) 4 per, aJ G (r 8) 4 ph, aJ G (r 9) 4 pl, aI G (r 10) 4 ss, aI G (r 11) 1024 sv, aI G (r 12) 1024 sw, aZ G (r 13) 512 mk2, aI G (r 14) 229 f, aI G (r 15) 1024 hp, aJ G (r 16) 1024 hh, aJ G (r 17) 1024 hl9] ++ (chA (chB G kk ks kv kw q sz ch cl fs fv fw) ++ decW G T)) H := hP
    have hD : va_D A ([aJ G oq 1 fo, oC ox 7 [.ref oc, .ref ot, .ref oo, .ref oe, .ref op, .ref ocs, .ref ods, .long oh, .long ol], oC ot 6 [.int (nI dp), .long sh, .long sl], oC oc 1 [.ref owd, .long e0, .long f0], aI G owd 44 g, oC oo 2 [.ref om], aZ G om 512 mk, oC oe 4 [.long c0, .long h0, .long l0], oC op 5 [.ref ob, .int (nI nq)], aI G ob 229 f, aH G ocs 4 (fun j => some (kk j)), aQ G ods 256 dec, moC oy r th fi se (nI dp) sh sl (nI nq) oh ol w0 w1 w2, aI G (r 0) 256 ckS, aI G (r 1) 256 ckU, aI G (r 2) 176 (bN ff), aI G (r 3) 16 (bN gg), aI G (r 4) 16 (bN mm), aZ G (r 5) 256 ins, aZ G (r 6) 1024 sb, aI G (r 7) 4 per, aJ G (r 8) 4 ph, aJ G (r 9) 4 pl, aI G (r 10) 4 ss, aI G (r 11) 1024 sv, aI G (r 12) 1024 sw, aZ G (r 13) 512 mk2, aI G (r 14) 229 f, aI G (r 15) 1024 hp, aJ G (r 16) 1024 hh, aJ G (r 17) 1024 hl9] ++ (chA (chB G kk ks kv kw q sz ch cl fs fv fw) ++ decW G T)) := hD
    generalize htl : (chA (chB G kk ks kv kw q sz ch cl fs fv fw) ++ decW G T) = tl at hP hD
    refine lv_aload_n hx hb dLa_law_124 rfl (lv_at hl 1 rfl) ?_
    refine lv_aload_n hx hb dLa_law_125 rfl (lv_at hl 0 rfl) ?_
    refine lv_iload hx hb dLa_law_126 (lv_at hl 4 rfl) ?_
    refine lv_iconst (v := nI 1) hx hb dLa_law_128 (by decide) ?_
    refine lv_iadd hx hb dLa_law_129 ?_
    refine ck_sld hx hb hX hbl hbA hS (9 * j + 1) (nI_add _ _) (by omega) (by omega) hy1 dLa_law_130 ?_
    refine lv_aload_n hx hb dLa_law_131 rfl (lv_at hl 0 rfl) ?_
    refine lv_iload hx hb dLa_law_132 (lv_at hl 4 rfl) ?_
    refine lv_iconst (v := nI 2) hx hb dLa_law_134 (by decide) ?_
    refine lv_iadd hx hb dLa_law_135 ?_
    refine ck_sld hx hb hX hbl hbA hS (9 * j + 2) (nI_add _ _) (by omega) (by omega) hy2 dLa_law_136 ?_
    refine lv_i2l (v := y2.toInt64) hx hb dLa_law_137 rfl ?_
    refine lv_bipush (v := nI 32) hx hb dLa_law_138 (by decide) ?_
    refine lv_lshl (v := lsh y2.toInt64 (nI 32)) hx hb dLa_law_140 rfl ?_
    refine lv_aload_n hx hb dLa_law_141 rfl (lv_at hl 0 rfl) ?_
    refine lv_iload hx hb dLa_law_142 (lv_at hl 4 rfl) ?_
    refine lv_iconst (v := nI 3) hx hb dLa_law_144 (by decide) ?_
    refine lv_iadd hx hb dLa_law_145 ?_
    refine ck_sld hx hb hX hbl hbA hS (9 * j + 3) (nI_add _ _) (by omega) (by omega) hy3 dLa_law_146 ?_
    refine lv_i2l (v := y3.toInt64) hx hb dLa_law_147 rfl ?_
    refine lv_ldc2 (v := lN 4294967295) hx hb hown (hts _ kkLa_80) dLa_law_148 ?_
    refine lv_land hx hb dLa_law_151 ?_
    refine lv_lor hx hb dLa_law_152 ?_
    refine ck_rl (y := jLL y2 y3) rfl ?_
    refine lv_aload_n hx hb dLa_law_153 rfl (lv_at hl 0 rfl) ?_
    refine lv_iload hx hb dLa_law_154 (lv_at hl 4 rfl) ?_
    refine lv_iconst (v := nI 4) hx hb dLa_law_156 (by decide) ?_
    refine lv_iadd hx hb dLa_law_157 ?_
    refine ck_sld hx hb hX hbl hbA hS (9 * j + 4) (nI_add _ _) (by omega) (by omega) hy4 dLa_law_158 ?_
    refine lv_i2l (v := y4.toInt64) hx hb dLa_law_159 rfl ?_
    refine lv_bipush (v := nI 32) hx hb dLa_law_160 (by decide) ?_
    refine lv_lshl (v := lsh y4.toInt64 (nI 32)) hx hb dLa_law_162 rfl ?_
    refine lv_aload_n hx hb dLa_law_163 rfl (lv_at hl 0 rfl) ?_
    refine lv_iload hx hb dLa_law_164 (lv_at hl 4 rfl) ?_
    refine lv_iconst (v := nI 5) hx hb dLa_law_166 (by decide) ?_
    refine lv_iadd hx hb dLa_law_167 ?_
    refine ck_sld hx hb hX hbl hbA hS (9 * j + 5) (nI_add _ _) (by omega) (by omega) hy5 dLa_law_168 ?_
    refine lv_i2l (v := y5.toInt64) hx hb dLa_law_169 rfl ?_
    refine lv_ldc2 (v := lN 4294967295) hx hb hown (hts _ kkLa_80) dLa_law_170 ?_
    refine lv_land hx hb dLa_law_173 ?_
    refine lv_lor hx hb dLa_law_174 ?_
    refine ck_rl (y := jLL y4 y5) rfl ?_
    refine clLa_82 (As := [.ref ox, .int y1, .long (jLL y2 y3), .long (jLL y4 y5)]) (rest := []) hx hb hml hown hts (w_La_begin_IAE (wi := [oC ox 7 [.ref oc, .ref ot, .ref oo, .ref oe, .ref op, .ref ocs, .ref ods, .long oh, .long ol]]) l G ox y1 (jLL y2 y3) (jLL y4 y5) (x_CK_begin l hl0 G ox y1 (jLL y2 y3) (jLL y4 y5) hd) 0 rfl [] rfl rfl rfl) hG hA hP hD hS [1] rfl rfl (fun _ => rfl) rfl hl.1 rfl (Nat.le_of_ble_eq_true rfl) ⟨Nat.le_of_ble_eq_true rfl, Nat.le_of_ble_eq_true rfl⟩ ⟨Nat.le_trans (Nat.add_le_add_left (Nat.le_of_ble_eq_true rfl) _) hcf.1, Nat.le_trans (Nat.add_le_add_left (Nat.le_of_ble_eq_true rfl) _) hcf.2⟩ dLa_law_175 (fun _ H locs _ hP hD hS => ?_)
    have hP : va_P G.1 vwCl ([aJ G oq 1 fo, oC ox 7 [.ref oc, .ref ot, .ref oo, .ref oe, .ref op, .ref ocs, .ref ods, .long oh, .long ol], oC ot 6 [.int (nI dp), .long sh, .long sl], oC oc 1 [.ref owd, .long e0, .long f0], aI G owd 44 g, oC oo 2 [.ref om], aZ G om 512 mk, oC oe 4 [.long c0, .long h0, .long l0], oC op 5 [.ref ob, .int (nI nq)], aI G ob 229 f, aH G ocs 4 (fun j => some (kk j)), aQ G ods 256 dec, moC oy r th fi se (nI dp) sh sl (nI nq) oh ol w0 w1 w2, aI G (r 0) 256 ckS, aI G (r 1) 256 ckU, aI G (r 2) 176 (bN ff), aI G (r 3) 16 (bN gg), aI G (r 4) 16 (bN mm), aZ G (r 5) 256 ins, aZ G (r 6) 1024 sb, aI G (r 7) 4 per, aJ G (r 8) 4 ph, aJ G (r 9) 4 pl, aI G (r 10) 4 ss, aI G (r 11) 1024 sv, aI G (r 12) 1024 sw, aZ G (r 13) 512 mk2, aI G (r 14) 229 f, aI G (r 15) 1024 hp, aJ G (r 16) 1024 hh, aJ G (r 17) 1024 hl9] ++ tl) H := hP
    have hD : va_D A ([aJ G oq 1 fo, oC ox 7 [.ref oc, .ref ot, .ref oo, .ref oe, .ref op, .ref ocs, .ref ods, .long oh, .long ol], oC ot 6 [.int (nI dp), .long sh, .long sl], oC oc 1 [.ref owd, .long e0, .long f0], aI G owd 44 g, oC oo 2 [.ref om], aZ G om 512 mk, oC oe 4 [.long c0, .long h0, .long l0], oC op 5 [.ref ob, .int (nI nq)], aI G ob 229 f, aH G ocs 4 (fun j => some (kk j)), aQ G ods 256 dec, moC oy r th fi se (nI dp) sh sl (nI nq) oh ol w0 w1 w2, aI G (r 0) 256 ckS, aI G (r 1) 256 ckU, aI G (r 2) 176 (bN ff), aI G (r 3) 16 (bN gg), aI G (r 4) 16 (bN mm), aZ G (r 5) 256 ins, aZ G (r 6) 1024 sb, aI G (r 7) 4 per, aJ G (r 8) 4 ph, aJ G (r 9) 4 pl, aI G (r 10) 4 ss, aI G (r 11) 1024 sv, aI G (r 12) 1024 sw, aZ G (r 13) 512 mk2, aI G (r 14) 229 f, aI G (r 15) 1024 hp, aJ G (r 16) 1024 hh, aJ G (r 17) 1024 hl9] ++ tl) := hD
    refine W.widen (k := 60 + 4 * j + 4) (n := 20000 + 20 * j + 20) (Nat.add_le_add_left (Nat.le_of_ble_eq_true rfl) _) (Nat.add_le_add_left (Nat.le_of_ble_eq_true rfl) _) ?_
    refine W.eq (g2 := F0 m 178 ls [.int (nI 1)]) rfl ?_
    refine lv_istore (lv' := [(5, .int (nI 1)), (0, .ref b), (1, .ref ox), (2, .ref oy), (3, .ref oq), (4, .int (nI (9 * j)))]) hx hb dLa_law_178 hl (by decide) rfl (fun ls hl => ?_)
    refine lv_aload_n hx hb dLa_law_180 rfl (lv_at hl 3 rfl) ?_
    refine lv_aload_n hx hb dLa_law_181 rfl (lv_at hl 1 rfl) ?_
    refine lv_iload hx hb dLa_law_182 (lv_at hl 5 rfl) ?_
    refine lv_iconst (v := nI 1) hx hb dLa_law_184 (by decide) ?_
    refine lv_iadd hx hb dLa_law_185 ?_
    refine ck_sld hx hb hX hbl hbA hS (9 * j + 1) (nI_add _ _) (by omega) (by omega) hy1 dLa_law_186 ?_
    refine lv_aload_n hx hb dLa_law_187 rfl (lv_at hl 1 rfl) ?_
    refine lv_iload hx hb dLa_law_188 (lv_at hl 5 rfl) ?_
    refine lv_iconst (v := nI 2) hx hb dLa_law_190 (by decide) ?_
    refine lv_iadd hx hb dLa_law_191 ?_
    refine ck_sld hx hb hX hbl hbA hS (9 * j + 2) (nI_add _ _) (by omega) (by omega) hy2 dLa_law_192 ?_
    refine lv_i2l (v := y2.toInt64) hx hb dLa_law_193 rfl ?_
    refine lv_bipush (v := nI 32) hx hb dLa_law_194 (by decide) ?_
    refine lv_lshl (v := lsh y2.toInt64 (nI 32)) hx hb dLa_law_196 rfl ?_
    refine lv_aload_n hx hb dLa_law_197 rfl (lv_at hl 1 rfl) ?_
    refine lv_iload hx hb dLa_law_198 (lv_at hl 5 rfl) ?_
    refine lv_iconst (v := nI 3) hx hb dLa_law_200 (by decide) ?_
    refine lv_iadd hx hb dLa_law_201 ?_
    refine ck_sld hx hb hX hbl hbA hS (9 * j + 3) (nI_add _ _) (by omega) (by omega) hy3 dLa_law_202 ?_
    refine lv_i2l (v := y3.toInt64) hx hb dLa_law_203 rfl ?_
    refine lv_ldc2 (v := lN 4294967295) hx hb hown (hts _ kkLa_80) dLa_law_204 ?_
    refine lv_land hx hb dLa_law_207 ?_
    refine lv_lor hx hb dLa_law_208 ?_
    refine ck_rl (y := jLL y2 y3) rfl ?_
    refine lv_aload_n hx hb dLa_law_209 rfl (lv_at hl 1 rfl) ?_
    refine lv_iload hx hb dLa_law_210 (lv_at hl 5 rfl) ?_
    refine lv_iconst (v := nI 4) hx hb dLa_law_212 (by decide) ?_
    refine lv_iadd hx hb dLa_law_213 ?_
    refine ck_sld hx hb hX hbl hbA hS (9 * j + 4) (nI_add _ _) (by omega) (by omega) hy4 dLa_law_214 ?_
    refine lv_i2l (v := y4.toInt64) hx hb dLa_law_215 rfl ?_
    refine lv_bipush (v := nI 32) hx hb dLa_law_216 (by decide) ?_
    refine lv_lshl (v := lsh y4.toInt64 (nI 32)) hx hb dLa_law_218 rfl ?_
    refine lv_aload_n hx hb dLa_law_219 rfl (lv_at hl 1 rfl) ?_
    refine lv_iload hx hb dLa_law_220 (lv_at hl 5 rfl) ?_
    refine lv_iconst (v := nI 5) hx hb dLa_law_222 (by decide) ?_
    refine lv_iadd hx hb dLa_law_223 ?_
    refine ck_sld hx hb hX hbl hbA hS (9 * j + 5) (nI_add _ _) (by omega) (by omega) hy5 dLa_law_224 ?_
    refine lv_i2l (v := y5.toInt64) hx hb dLa_law_225 rfl ?_
    refine lv_ldc2 (v := lN 4294967295) hx hb hown (hts _ kkLa_80) dLa_law_226 ?_
    refine lv_land hx hb dLa_law_229 ?_
    refine lv_lor hx hb dLa_law_230 ?_
    refine ck_rl (y := jLL y4 y5) rfl ?_
    refine clLa_87 (As := [.int y1, .long (jLL y2 y3), .long (jLL y4 y5)]) (rest := []) hx hb hml hown hts (k_Mo_begin_e l G oy r th fi se (nI dp) sh sl (nI nq) oh ol w0 w1 w2 y1 (jLL y2 y3) (jLL y4 y5) hd) hG hA hP hD hS 12 rfl [12] rfl rfl (fun _ => rfl) rfl hl.1 rfl (Nat.le_of_ble_eq_true rfl) ⟨Nat.le_of_ble_eq_true rfl, Nat.le_of_ble_eq_true rfl⟩ ⟨hcf.1, hcf.2⟩ dLa_law_231 (fun _ H locs _ hP hD hS => ?_)
    have hP : va_P G.1 vwCl ([aJ G oq 1 fo, oC ox 7 [.ref oc, .ref ot, .ref oo, .ref oe, .ref op, .ref ocs, .ref ods, .long oh, .long ol], oC ot 6 [.int (nI dp), .long sh, .long sl], oC oc 1 [.ref owd, .long e0, .long f0], aI G owd 44 g, oC oo 2 [.ref om], aZ G om 512 mk, oC oe 4 [.long c0, .long h0, .long l0], oC op 5 [.ref ob, .int (nI nq)], aI G ob 229 f, aH G ocs 4 (fun j => some (kk j)), aQ G ods 256 dec, moC oy r (nI 1) fi se (nI dp) sh sl (nI nq) oh ol w0 w1 w2, aI G (r 0) 256 ckS, aI G (r 1) 256 ckU, aI G (r 2) 176 (bN ff), aI G (r 3) 16 (bN gg), aI G (r 4) 16 (bN mm), aZ G (r 5) 256 ins, aZ G (r 6) 1024 sb, aI G (r 7) 4 per, aJ G (r 8) 4 ph, aJ G (r 9) 4 pl, aI G (r 10) 4 ss, aI G (r 11) 1024 sv, aI G (r 12) 1024 sw, aZ G (r 13) 512 mk2, aI G (r 14) 229 f, aI G (r 15) 1024 hp, aJ G (r 16) 1024 hh, aJ G (r 17) 1024 hl9] ++ tl) H := hP
    have hD : va_D A ([aJ G oq 1 fo, oC ox 7 [.ref oc, .ref ot, .ref oo, .ref oe, .ref op, .ref ocs, .ref ods, .long oh, .long ol], oC ot 6 [.int (nI dp), .long sh, .long sl], oC oc 1 [.ref owd, .long e0, .long f0], aI G owd 44 g, oC oo 2 [.ref om], aZ G om 512 mk, oC oe 4 [.long c0, .long h0, .long l0], oC op 5 [.ref ob, .int (nI nq)], aI G ob 229 f, aH G ocs 4 (fun j => some (kk j)), aQ G ods 256 dec, moC oy r (nI 1) fi se (nI dp) sh sl (nI nq) oh ol w0 w1 w2, aI G (r 0) 256 ckS, aI G (r 1) 256 ckU, aI G (r 2) 176 (bN ff), aI G (r 3) 16 (bN gg), aI G (r 4) 16 (bN mm), aZ G (r 5) 256 ins, aZ G (r 6) 1024 sb, aI G (r 7) 4 per, aJ G (r 8) 4 ph, aJ G (r 9) 4 pl, aI G (r 10) 4 ss, aI G (r 11) 1024 sv, aI G (r 12) 1024 sw, aZ G (r 13) 512 mk2, aI G (r 14) 229 f, aI G (r 15) 1024 hp, aJ G (r 16) 1024 hh, aJ G (r 17) 1024 hl9] ++ tl) := hD
    refine W.cs (cells' := 60 + 4 * j + 4) (slots' := 20000 + 20 * j + 20) rfl rfl ?_
    refine W.eq (g2 := F0 m 234 ls []) rfl ?_
    refine lv_aload_n hx hb dLa_law_234 rfl (lv_at hl 3 rfl) ?_
    refine clLa_88 (As := []) (rest := []) hx hb hml hown hts (k_Mo_thrown l G oy r (nI 1) fi se (nI dp) sh sl (nI nq) oh ol w0 w1 w2) hG hA hP hD hS 12 rfl [12] rfl rfl (fun _ => rfl) rfl hl.1 rfl (Nat.le_of_ble_eq_true rfl) ⟨Nat.le_of_ble_eq_true rfl, Nat.le_of_ble_eq_true rfl⟩ ⟨hcf.1, hcf.2⟩ dLa_law_235 (fun _ H locs _ hP hD hS => ?_)
    have hP : va_P G.1 vwCl ([aJ G oq 1 fo, oC ox 7 [.ref oc, .ref ot, .ref oo, .ref oe, .ref op, .ref ocs, .ref ods, .long oh, .long ol], oC ot 6 [.int (nI dp), .long sh, .long sl], oC oc 1 [.ref owd, .long e0, .long f0], aI G owd 44 g, oC oo 2 [.ref om], aZ G om 512 mk, oC oe 4 [.long c0, .long h0, .long l0], oC op 5 [.ref ob, .int (nI nq)], aI G ob 229 f, aH G ocs 4 (fun j => some (kk j)), aQ G ods 256 dec, moC oy r (nI 1) fi se (nI dp) sh sl (nI nq) oh ol w0 w1 w2, aI G (r 0) 256 ckS, aI G (r 1) 256 ckU, aI G (r 2) 176 (bN ff), aI G (r 3) 16 (bN gg), aI G (r 4) 16 (bN mm), aZ G (r 5) 256 ins, aZ G (r 6) 1024 sb, aI G (r 7) 4 per, aJ G (r 8) 4 ph, aJ G (r 9) 4 pl, aI G (r 10) 4 ss, aI G (r 11) 1024 sv, aI G (r 12) 1024 sw, aZ G (r 13) 512 mk2, aI G (r 14) 229 f, aI G (r 15) 1024 hp, aJ G (r 16) 1024 hh, aJ G (r 17) 1024 hl9] ++ tl) H := hP
    have hD : va_D A ([aJ G oq 1 fo, oC ox 7 [.ref oc, .ref ot, .ref oo, .ref oe, .ref op, .ref ocs, .ref ods, .long oh, .long ol], oC ot 6 [.int (nI dp), .long sh, .long sl], oC oc 1 [.ref owd, .long e0, .long f0], aI G owd 44 g, oC oo 2 [.ref om], aZ G om 512 mk, oC oe 4 [.long c0, .long h0, .long l0], oC op 5 [.ref ob, .int (nI nq)], aI G ob 229 f, aH G ocs 4 (fun j => some (kk j)), aQ G ods 256 dec, moC oy r (nI 1) fi se (nI dp) sh sl (nI nq) oh ol w0 w1 w2, aI G (r 0) 256 ckS, aI G (r 1) 256 ckU, aI G (r 2) 176 (bN ff), aI G (r 3) 16 (bN gg), aI G (r 4) 16 (bN mm), aZ G (r 5) 256 ins, aZ G (r 6) 1024 sb, aI G (r 7) 4 per, aJ G (r 8) 4 ph, aJ G (r 9) 4 pl, aI G (r 10) 4 ss, aI G (r 11) 1024 sv, aI G (r 12) 1024 sw, aZ G (r 13) 512 mk2, aI G (r 14) 229 f, aI G (r 15) 1024 hp, aJ G (r 16) 1024 hh, aJ G (r 17) 1024 hl9] ++ tl) := hD
    refine W.cs (cells' := 60 + 4 * j + 4) (slots' := 20000 + 20 * j + 20) rfl rfl ?_
    refine W.eq (g2 := F0 m 238 ls [.int (nI 1)]) rfl ?_
    refine lv_iload hx hb dLa_law_238 (lv_at hl 0 rfl) ?_
    refine lv_icmp_eq (tgt := 245) hx hb dLa_law_240 rfl (fun _ => ?_) (fun h => absurd (rfl) h)
    refine lv_goto (tgt := 1641) hx hb dLa_law_245 rfl ?_
    refine lv_iinc (v := nI (9 * (j + 1))) (lv' := [(4, .int (nI (9 * (j + 1)))), (5, .int (nI 1)), (0, .ref b), (1, .ref ox), (2, .ref oy), (3, .ref oq)]) hx hb dLa_law_1641 hl (k := 5) rfl (nI_add (9 * j) 9) (by decide) rfl (fun ls hl => ?_)
    refine lv_goto (tgt := 23) hx hb dLa_law_1644 rfl ?_
    refine W.cs (cells' := 60 + 4 * (j + 1)) (slots' := 20000 + 20 * (j + 1)) (by omega) (by omega) ?_
    subst htl
    exact ih oh ol dp sh sl g e0 f0 mk c0 h0 l0 nq f dec q sz ch cl fs fv fw T fo (nI 1) fi se w0 w1 w2 ff gg mm ins sb per ph pl ss sv sw mk2 hp hh hl9 _ _ _ hdp1 hdp hR1 hR2 hR3 hR4 hP hD hS (lv_sub hl [2, 3, 4, 5, 0] rfl)
  · obtain ⟨d, hd1, hd2, rfl⟩ := dp_ok hd
    have hP : va_P G.1 vwCl ([aJ G oq 1 fo, oC ox 7 [.ref oc, .ref ot, .ref oo, .ref oe, .ref op, .ref ocs, .ref ods, .long oh, .long ol], oC ot 6 [.int (nI dp), .long sh, .long sl], oC oc 1 [.ref owd, .long e0, .long f0], aI G owd 44 g, oC oo 2 [.ref om], aZ G om 512 mk, oC oe 4 [.long c0, .long h0, .long l0], oC op 5 [.ref ob, .int (nI nq)], aI G ob 229 f, aH G ocs 4 (fun j => some (kk j)), aQ G ods 256 dec, moC oy r th fi se (nI dp) sh sl (nI nq) oh ol w0 w1 w2, aI G (r 0) 256 ckS, aI G (r 1) 256 ckU, aI G (r 2) 176 (bN ff), aI G (r 3) 16 (bN gg), aI G (r 4) 16 (bN mm), aZ G (r 5) 256 ins, aZ G (r 6) 1024 sb, aI G (r 7) 4 per, aJ G (r 8) 4 ph, aJ G (r 9) 4 pl, aI G (r 10) 4 ss, aI G (r 11) 1024 sv, aI G (r 12) 1024 sw, aZ G (r 13) 512 mk2, aI G (r 14) 229 f, aI G (r 15) 1024 hp, aJ G (r 16) 1024 hh, aJ G (r 17) 1024 hl9, oC (kk 0) 0 [.ref (ks 0), .ref (kv 0), .ref (kw 0), .int (nI (q 0)), .int (nI (sz 0)), .long (ch 0), .long (cl 0)], aZ G (ks 0) 256 (fs 0), aI G (kv 0) 128 (fv 0), aI G (kw 0) 128 (fw 0), oC (kk 1) 0 [.ref (ks 1), .ref (kv 1), .ref (kw 1), .int (nI (q 1)), .int (nI (sz 1)), .long (ch 1), .long (cl 1)], aZ G (ks 1) 256 (fs 1), aI G (kv 1) 128 (fv 1), aI G (kw 1) 128 (fw 1), oC (kk 2) 0 [.ref (ks 2), .ref (kv 2), .ref (kw 2), .int (nI (q 2)), .int (nI (sz 2)), .long (ch 2), .long (cl 2)], aZ G (ks 2) 256 (fs 2), aI G (kv 2) 128 (fv 2), aI G (kw 2) 128 (fw 2), oC (kk 3) 0 [.ref (ks 3), .ref (kv 3), .ref (kw 3), .int (nI (q 3)), .int (nI (sz 3)), .long (ch 3), .long (cl 3)], aZ G (ks 3) 256 (fs 3), aI G (kv 3) 128 (fv 3), aI G (kw 3) 128 (fw 3)] ++ decW G T) H := hP
    have hD : va_D A ([aJ G oq 1 fo, oC ox 7 [.ref oc, .ref ot, .ref oo, .ref oe, .ref op, .ref ocs, .ref ods, .long oh, .long ol], oC ot 6 [.int (nI dp), .long sh, .long sl], oC oc 1 [.ref owd, .long e0, .long f0], aI G owd 44 g, oC oo 2 [.ref om], aZ G om 512 mk, oC oe 4 [.long c0, .long h0, .long l0], oC op 5 [.ref ob, .int (nI nq)], aI G ob 229 f, aH G ocs 4 (fun j => some (kk j)), aQ G ods 256 dec, moC oy r th fi se (nI dp) sh sl (nI nq) oh ol w0 w1 w2, aI G (r 0) 256 ckS, aI G (r 1) 256 ckU, aI G (r 2) 176 (bN ff), aI G (r 3) 16 (bN gg), aI G (r 4) 16 (bN mm), aZ G (r 5) 256 ins, aZ G (r 6) 1024 sb, aI G (r 7) 4 per, aJ G (r 8) 4 ph, aJ G (r 9) 4 pl, aI G (r 10) 4 ss, aI G (r 11) 1024 sv, aI G (r 12) 1024 sw, aZ G (r 13) 512 mk2, aI G (r 14) 229 f, aI G (r 15) 1024 hp, aJ G (r 16) 1024 hh, aJ G (r 17) 1024 hl9, oC (kk 0) 0 [.ref (ks 0), .ref (kv 0), .ref (kw 0), .int (nI (q 0)), .int (nI (sz 0)), .long (ch 0), .long (cl 0)], aZ G (ks 0) 256 (fs 0), aI G (kv 0) 128 (fv 0), aI G (kw 0) 128 (fw 0), oC (kk 1) 0 [.ref (ks 1), .ref (kv 1), .ref (kw 1), .int (nI (q 1)), .int (nI (sz 1)), .long (ch 1), .long (cl 1)], aZ G (ks 1) 256 (fs 1), aI G (kv 1) 128 (fv 1), aI G (kw 1) 128 (fw 1), oC (kk 2) 0 [.ref (ks 2), .ref (kv 2), .ref (kw 2), .int (nI (q 2)), .int (nI (sz 2)), .long (ch 2), .long (cl 2)], aZ G (ks 2) 256 (fs 2), aI G (kv 2) 128 (fv 2), aI G (kw 2) 128 (fw 2), oC (kk 3) 0 [.ref (ks 3), .ref (kv 3), .ref (kw 3), .int (nI (q 3)), .int (nI (sz 3)), .long (ch 3), .long (cl 3)], aZ G (ks 3) 256 (fs 3), aI G (kv 3) 128 (fv 3), aI G (kw 3) 128 (fw 3)] ++ decW G T) := hD
    generalize htl : decW G T = tl at hP hD
    refine lv_aload_n hx hb dLa_law_124 rfl (lv_at hl 1 rfl) ?_
    refine lv_aload_n hx hb dLa_law_125 rfl (lv_at hl 0 rfl) ?_
    refine lv_iload hx hb dLa_law_126 (lv_at hl 4 rfl) ?_
    refine lv_iconst (v := nI 1) hx hb dLa_law_128 (by decide) ?_
    refine lv_iadd hx hb dLa_law_129 ?_
    refine ck_sld hx hb hX hbl hbA hS (9 * j + 1) (nI_add _ _) (by omega) (by omega) hy1 dLa_law_130 ?_
    refine lv_aload_n hx hb dLa_law_131 rfl (lv_at hl 0 rfl) ?_
    refine lv_iload hx hb dLa_law_132 (lv_at hl 4 rfl) ?_
    refine lv_iconst (v := nI 2) hx hb dLa_law_134 (by decide) ?_
    refine lv_iadd hx hb dLa_law_135 ?_
    refine ck_sld hx hb hX hbl hbA hS (9 * j + 2) (nI_add _ _) (by omega) (by omega) hy2 dLa_law_136 ?_
    refine lv_i2l (v := y2.toInt64) hx hb dLa_law_137 rfl ?_
    refine lv_bipush (v := nI 32) hx hb dLa_law_138 (by decide) ?_
    refine lv_lshl (v := lsh y2.toInt64 (nI 32)) hx hb dLa_law_140 rfl ?_
    refine lv_aload_n hx hb dLa_law_141 rfl (lv_at hl 0 rfl) ?_
    refine lv_iload hx hb dLa_law_142 (lv_at hl 4 rfl) ?_
    refine lv_iconst (v := nI 3) hx hb dLa_law_144 (by decide) ?_
    refine lv_iadd hx hb dLa_law_145 ?_
    refine ck_sld hx hb hX hbl hbA hS (9 * j + 3) (nI_add _ _) (by omega) (by omega) hy3 dLa_law_146 ?_
    refine lv_i2l (v := y3.toInt64) hx hb dLa_law_147 rfl ?_
    refine lv_ldc2 (v := lN 4294967295) hx hb hown (hts _ kkLa_80) dLa_law_148 ?_
    refine lv_land hx hb dLa_law_151 ?_
    refine lv_lor hx hb dLa_law_152 ?_
    refine ck_rl (y := jLL y2 y3) rfl ?_
    refine lv_aload_n hx hb dLa_law_153 rfl (lv_at hl 0 rfl) ?_
    refine lv_iload hx hb dLa_law_154 (lv_at hl 4 rfl) ?_
    refine lv_iconst (v := nI 4) hx hb dLa_law_156 (by decide) ?_
    refine lv_iadd hx hb dLa_law_157 ?_
    refine ck_sld hx hb hX hbl hbA hS (9 * j + 4) (nI_add _ _) (by omega) (by omega) hy4 dLa_law_158 ?_
    refine lv_i2l (v := y4.toInt64) hx hb dLa_law_159 rfl ?_
    refine lv_bipush (v := nI 32) hx hb dLa_law_160 (by decide) ?_
    refine lv_lshl (v := lsh y4.toInt64 (nI 32)) hx hb dLa_law_162 rfl ?_
    refine lv_aload_n hx hb dLa_law_163 rfl (lv_at hl 0 rfl) ?_
    refine lv_iload hx hb dLa_law_164 (lv_at hl 4 rfl) ?_
    refine lv_iconst (v := nI 5) hx hb dLa_law_166 (by decide) ?_
    refine lv_iadd hx hb dLa_law_167 ?_
    refine ck_sld hx hb hX hbl hbA hS (9 * j + 5) (nI_add _ _) (by omega) (by omega) hy5 dLa_law_168 ?_
    refine lv_i2l (v := y5.toInt64) hx hb dLa_law_169 rfl ?_
    refine lv_ldc2 (v := lN 4294967295) hx hb hown (hts _ kkLa_80) dLa_law_170 ?_
    refine lv_land hx hb dLa_law_173 ?_
    refine lv_lor hx hb dLa_law_174 ?_
    refine ck_rl (y := jLL y4 y5) rfl ?_
    refine clLa_82 (As := [.ref ox, .int (nI d), .long (jLL y2 y3), .long (jLL y4 y5)]) (rest := []) hx hb hml hown hts (w_La_begin l G ox (nI d) (jLL y2 y3) (jLL y4 y5) (k_CK_begin l G ox oc ot oo oe op ocs ods oh ol kk ks kv kw (fun c => nI (q c)) (fun c => nI (sz c)) ch cl fs ob d hd1 hd2 (nI dp) (nI nq) sh sl (jLL y2 y3) (jLL y4 y5) dec) rfl (fun _ => rfl)) hG hA hP hD hS [1, 2, 8, 10, 11, 31, 32, 35, 36, 39, 40, 43, 44] rfl rfl (fun _ => rfl) rfl hl.1 rfl (Nat.le_of_ble_eq_true rfl) ⟨Nat.le_of_ble_eq_true rfl, Nat.le_of_ble_eq_true rfl⟩ ⟨Nat.le_trans (Nat.add_le_add_left (Nat.le_of_ble_eq_true rfl) _) hcf.1, Nat.le_trans (Nat.add_le_add_left (Nat.le_of_ble_eq_true rfl) _) hcf.2⟩ dLa_law_175 (fun _ H locs _ hP hD hS => ?_)
    have hP : va_P G.1 vwCl ([aJ G oq 1 fo, oC ox 7 [.ref oc, .ref ot, .ref oo, .ref oe, .ref op, .ref ocs, .ref ods, .long oh, .long ol], oC ot 6 [.int (nI d), .long (jLL y2 y3), .long (jLL y4 y5)], oC oc 1 [.ref owd, .long e0, .long f0], aI G owd 44 g, oC oo 2 [.ref om], aZ G om 512 mk, oC oe 4 [.long c0, .long h0, .long l0], oC op 5 [.ref ob, .int (nI 0)], aI G ob 229 f, aH G ocs 4 (fun j => some (kk j)), aQ G ods 256 (fun _ => none), moC oy r th fi se (nI dp) sh sl (nI nq) oh ol w0 w1 w2, aI G (r 0) 256 ckS, aI G (r 1) 256 ckU, aI G (r 2) 176 (bN ff), aI G (r 3) 16 (bN gg), aI G (r 4) 16 (bN mm), aZ G (r 5) 256 ins, aZ G (r 6) 1024 sb, aI G (r 7) 4 per, aJ G (r 8) 4 ph, aJ G (r 9) 4 pl, aI G (r 10) 4 ss, aI G (r 11) 1024 sv, aI G (r 12) 1024 sw, aZ G (r 13) 512 mk2, aI G (r 14) 229 f, aI G (r 15) 1024 hp, aJ G (r 16) 1024 hh, aJ G (r 17) 1024 hl9, oC (kk 0) 0 [.ref (ks 0), .ref (kv 0), .ref (kw 0), .int (nI 0), .int (nI 0), .long (ch 0), .long (cl 0)], aZ G (ks 0) 256 (fun _ => nI 0), aI G (kv 0) 128 (fv 0), aI G (kw 0) 128 (fw 0), oC (kk 1) 0 [.ref (ks 1), .ref (kv 1), .ref (kw 1), .int (nI 0), .int (nI 0), .long (ch 1), .long (cl 1)], aZ G (ks 1) 256 (fun _ => nI 0), aI G (kv 1) 128 (fv 1), aI G (kw 1) 128 (fw 1), oC (kk 2) 0 [.ref (ks 2), .ref (kv 2), .ref (kw 2), .int (nI 0), .int (nI 0), .long (ch 2), .long (cl 2)], aZ G (ks 2) 256 (fun _ => nI 0), aI G (kv 2) 128 (fv 2), aI G (kw 2) 128 (fw 2), oC (kk 3) 0 [.ref (ks 3), .ref (kv 3), .ref (kw 3), .int (nI 0), .int (nI 0), .long (ch 3), .long (cl 3)], aZ G (ks 3) 256 (fun _ => nI 0), aI G (kv 3) 128 (fv 3), aI G (kw 3) 128 (fw 3)] ++ tl) H := hP
    have hD : va_D A ([aJ G oq 1 fo, oC ox 7 [.ref oc, .ref ot, .ref oo, .ref oe, .ref op, .ref ocs, .ref ods, .long oh, .long ol], oC ot 6 [.int (nI d), .long (jLL y2 y3), .long (jLL y4 y5)], oC oc 1 [.ref owd, .long e0, .long f0], aI G owd 44 g, oC oo 2 [.ref om], aZ G om 512 mk, oC oe 4 [.long c0, .long h0, .long l0], oC op 5 [.ref ob, .int (nI 0)], aI G ob 229 f, aH G ocs 4 (fun j => some (kk j)), aQ G ods 256 (fun _ => none), moC oy r th fi se (nI dp) sh sl (nI nq) oh ol w0 w1 w2, aI G (r 0) 256 ckS, aI G (r 1) 256 ckU, aI G (r 2) 176 (bN ff), aI G (r 3) 16 (bN gg), aI G (r 4) 16 (bN mm), aZ G (r 5) 256 ins, aZ G (r 6) 1024 sb, aI G (r 7) 4 per, aJ G (r 8) 4 ph, aJ G (r 9) 4 pl, aI G (r 10) 4 ss, aI G (r 11) 1024 sv, aI G (r 12) 1024 sw, aZ G (r 13) 512 mk2, aI G (r 14) 229 f, aI G (r 15) 1024 hp, aJ G (r 16) 1024 hh, aJ G (r 17) 1024 hl9, oC (kk 0) 0 [.ref (ks 0), .ref (kv 0), .ref (kw 0), .int (nI 0), .int (nI 0), .long (ch 0), .long (cl 0)], aZ G (ks 0) 256 (fun _ => nI 0), aI G (kv 0) 128 (fv 0), aI G (kw 0) 128 (fw 0), oC (kk 1) 0 [.ref (ks 1), .ref (kv 1), .ref (kw 1), .int (nI 0), .int (nI 0), .long (ch 1), .long (cl 1)], aZ G (ks 1) 256 (fun _ => nI 0), aI G (kv 1) 128 (fv 1), aI G (kw 1) 128 (fw 1), oC (kk 2) 0 [.ref (ks 2), .ref (kv 2), .ref (kw 2), .int (nI 0), .int (nI 0), .long (ch 2), .long (cl 2)], aZ G (ks 2) 256 (fun _ => nI 0), aI G (kv 2) 128 (fv 2), aI G (kw 2) 128 (fw 2), oC (kk 3) 0 [.ref (ks 3), .ref (kv 3), .ref (kw 3), .int (nI 0), .int (nI 0), .long (ch 3), .long (cl 3)], aZ G (ks 3) 256 (fun _ => nI 0), aI G (kv 3) 128 (fv 3), aI G (kw 3) 128 (fw 3)] ++ tl) := hD
    refine W.widen (k := 60 + 4 * j + 4) (n := 20000 + 20 * j + 20) (Nat.add_le_add_left (Nat.le_of_ble_eq_true rfl) _) (Nat.add_le_add_left (Nat.le_of_ble_eq_true rfl) _) ?_
    refine W.eq (g2 := F0 m 178 ls [.int (nI 0)]) rfl ?_
    refine lv_istore (lv' := [(5, .int (nI 0)), (0, .ref b), (1, .ref ox), (2, .ref oy), (3, .ref oq), (4, .int (nI (9 * j)))]) hx hb dLa_law_178 hl (by decide) rfl (fun ls hl => ?_)
    refine lv_aload_n hx hb dLa_law_180 rfl (lv_at hl 3 rfl) ?_
    refine lv_aload_n hx hb dLa_law_181 rfl (lv_at hl 1 rfl) ?_
    refine lv_iload hx hb dLa_law_182 (lv_at hl 5 rfl) ?_
    refine lv_iconst (v := nI 1) hx hb dLa_law_184 (by decide) ?_
    refine lv_iadd hx hb dLa_law_185 ?_
    refine ck_sld hx hb hX hbl hbA hS (9 * j + 1) (nI_add _ _) (by omega) (by omega) hy1 dLa_law_186 ?_
    refine lv_aload_n hx hb dLa_law_187 rfl (lv_at hl 1 rfl) ?_
    refine lv_iload hx hb dLa_law_188 (lv_at hl 5 rfl) ?_
    refine lv_iconst (v := nI 2) hx hb dLa_law_190 (by decide) ?_
    refine lv_iadd hx hb dLa_law_191 ?_
    refine ck_sld hx hb hX hbl hbA hS (9 * j + 2) (nI_add _ _) (by omega) (by omega) hy2 dLa_law_192 ?_
    refine lv_i2l (v := y2.toInt64) hx hb dLa_law_193 rfl ?_
    refine lv_bipush (v := nI 32) hx hb dLa_law_194 (by decide) ?_
    refine lv_lshl (v := lsh y2.toInt64 (nI 32)) hx hb dLa_law_196 rfl ?_
    refine lv_aload_n hx hb dLa_law_197 rfl (lv_at hl 1 rfl) ?_
    refine lv_iload hx hb dLa_law_198 (lv_at hl 5 rfl) ?_
    refine lv_iconst (v := nI 3) hx hb dLa_law_200 (by decide) ?_
    refine lv_iadd hx hb dLa_law_201 ?_
    refine ck_sld hx hb hX hbl hbA hS (9 * j + 3) (nI_add _ _) (by omega) (by omega) hy3 dLa_law_202 ?_
    refine lv_i2l (v := y3.toInt64) hx hb dLa_law_203 rfl ?_
    refine lv_ldc2 (v := lN 4294967295) hx hb hown (hts _ kkLa_80) dLa_law_204 ?_
    refine lv_land hx hb dLa_law_207 ?_
    refine lv_lor hx hb dLa_law_208 ?_
    refine ck_rl (y := jLL y2 y3) rfl ?_
    refine lv_aload_n hx hb dLa_law_209 rfl (lv_at hl 1 rfl) ?_
    refine lv_iload hx hb dLa_law_210 (lv_at hl 5 rfl) ?_
    refine lv_iconst (v := nI 4) hx hb dLa_law_212 (by decide) ?_
    refine lv_iadd hx hb dLa_law_213 ?_
    refine ck_sld hx hb hX hbl hbA hS (9 * j + 4) (nI_add _ _) (by omega) (by omega) hy4 dLa_law_214 ?_
    refine lv_i2l (v := y4.toInt64) hx hb dLa_law_215 rfl ?_
    refine lv_bipush (v := nI 32) hx hb dLa_law_216 (by decide) ?_
    refine lv_lshl (v := lsh y4.toInt64 (nI 32)) hx hb dLa_law_218 rfl ?_
    refine lv_aload_n hx hb dLa_law_219 rfl (lv_at hl 1 rfl) ?_
    refine lv_iload hx hb dLa_law_220 (lv_at hl 5 rfl) ?_
    refine lv_iconst (v := nI 5) hx hb dLa_law_222 (by decide) ?_
    refine lv_iadd hx hb dLa_law_223 ?_
    refine ck_sld hx hb hX hbl hbA hS (9 * j + 5) (nI_add _ _) (by omega) (by omega) hy5 dLa_law_224 ?_
    refine lv_i2l (v := y5.toInt64) hx hb dLa_law_225 rfl ?_
    refine lv_ldc2 (v := lN 4294967295) hx hb hown (hts _ kkLa_80) dLa_law_226 ?_
    refine lv_land hx hb dLa_law_229 ?_
    refine lv_lor hx hb dLa_law_230 ?_
    refine ck_rl (y := jLL y4 y5) rfl ?_
    refine clLa_87 (As := [.int (nI d), .long (jLL y2 y3), .long (jLL y4 y5)]) (rest := []) hx hb hml hown hts (k_Mo_begin l G oy r th fi se (nI dp) sh sl (nI nq) oh ol w0 w1 w2 ins sb hp per ss d hd1 hd2 (jLL y2 y3) (jLL y4 y5)) hG hA hP hD hS 12 rfl [12, 18, 19, 28, 20, 23] rfl rfl (fun _ => rfl) rfl hl.1 rfl (Nat.le_of_ble_eq_true rfl) ⟨Nat.le_of_ble_eq_true rfl, Nat.le_of_ble_eq_true rfl⟩ ⟨hcf.1, hcf.2⟩ dLa_law_231 (fun _ H locs _ hP hD hS => ?_)
    have hP : va_P G.1 vwCl ([aJ G oq 1 fo, oC ox 7 [.ref oc, .ref ot, .ref oo, .ref oe, .ref op, .ref ocs, .ref ods, .long oh, .long ol], oC ot 6 [.int (nI d), .long (jLL y2 y3), .long (jLL y4 y5)], oC oc 1 [.ref owd, .long e0, .long f0], aI G owd 44 g, oC oo 2 [.ref om], aZ G om 512 mk, oC oe 4 [.long c0, .long h0, .long l0], oC op 5 [.ref ob, .int (nI 0)], aI G ob 229 f, aH G ocs 4 (fun j => some (kk j)), aQ G ods 256 (fun _ => none), moC oy r (nI 0) fi se (nI d) (jLL y2 y3) (jLL y4 y5) (nI 0) oh ol w0 w1 w2, aI G (r 0) 256 ckS, aI G (r 1) 256 ckU, aI G (r 2) 176 (bN ff), aI G (r 3) 16 (bN gg), aI G (r 4) 16 (bN mm), aZ G (r 5) 256 (fun _ => nI 0), aZ G (r 6) 1024 (fun _ => nI 0), aI G (r 7) 4 (fun _ => nI 0), aJ G (r 8) 4 ph, aJ G (r 9) 4 pl, aI G (r 10) 4 (fun _ => nI 0), aI G (r 11) 1024 sv, aI G (r 12) 1024 sw, aZ G (r 13) 512 mk2, aI G (r 14) 229 f, aI G (r 15) 1024 (fun _ => (-1)), aJ G (r 16) 1024 hh, aJ G (r 17) 1024 hl9, oC (kk 0) 0 [.ref (ks 0), .ref (kv 0), .ref (kw 0), .int (nI 0), .int (nI 0), .long (ch 0), .long (cl 0)], aZ G (ks 0) 256 (fun _ => nI 0), aI G (kv 0) 128 (fv 0), aI G (kw 0) 128 (fw 0), oC (kk 1) 0 [.ref (ks 1), .ref (kv 1), .ref (kw 1), .int (nI 0), .int (nI 0), .long (ch 1), .long (cl 1)], aZ G (ks 1) 256 (fun _ => nI 0), aI G (kv 1) 128 (fv 1), aI G (kw 1) 128 (fw 1), oC (kk 2) 0 [.ref (ks 2), .ref (kv 2), .ref (kw 2), .int (nI 0), .int (nI 0), .long (ch 2), .long (cl 2)], aZ G (ks 2) 256 (fun _ => nI 0), aI G (kv 2) 128 (fv 2), aI G (kw 2) 128 (fw 2), oC (kk 3) 0 [.ref (ks 3), .ref (kv 3), .ref (kw 3), .int (nI 0), .int (nI 0), .long (ch 3), .long (cl 3)], aZ G (ks 3) 256 (fun _ => nI 0), aI G (kv 3) 128 (fv 3), aI G (kw 3) 128 (fw 3)] ++ tl) H := hP
    have hD : va_D A ([aJ G oq 1 fo, oC ox 7 [.ref oc, .ref ot, .ref oo, .ref oe, .ref op, .ref ocs, .ref ods, .long oh, .long ol], oC ot 6 [.int (nI d), .long (jLL y2 y3), .long (jLL y4 y5)], oC oc 1 [.ref owd, .long e0, .long f0], aI G owd 44 g, oC oo 2 [.ref om], aZ G om 512 mk, oC oe 4 [.long c0, .long h0, .long l0], oC op 5 [.ref ob, .int (nI 0)], aI G ob 229 f, aH G ocs 4 (fun j => some (kk j)), aQ G ods 256 (fun _ => none), moC oy r (nI 0) fi se (nI d) (jLL y2 y3) (jLL y4 y5) (nI 0) oh ol w0 w1 w2, aI G (r 0) 256 ckS, aI G (r 1) 256 ckU, aI G (r 2) 176 (bN ff), aI G (r 3) 16 (bN gg), aI G (r 4) 16 (bN mm), aZ G (r 5) 256 (fun _ => nI 0), aZ G (r 6) 1024 (fun _ => nI 0), aI G (r 7) 4 (fun _ => nI 0), aJ G (r 8) 4 ph, aJ G (r 9) 4 pl, aI G (r 10) 4 (fun _ => nI 0), aI G (r 11) 1024 sv, aI G (r 12) 1024 sw, aZ G (r 13) 512 mk2, aI G (r 14) 229 f, aI G (r 15) 1024 (fun _ => (-1)), aJ G (r 16) 1024 hh, aJ G (r 17) 1024 hl9, oC (kk 0) 0 [.ref (ks 0), .ref (kv 0), .ref (kw 0), .int (nI 0), .int (nI 0), .long (ch 0), .long (cl 0)], aZ G (ks 0) 256 (fun _ => nI 0), aI G (kv 0) 128 (fv 0), aI G (kw 0) 128 (fw 0), oC (kk 1) 0 [.ref (ks 1), .ref (kv 1), .ref (kw 1), .int (nI 0), .int (nI 0), .long (ch 1), .long (cl 1)], aZ G (ks 1) 256 (fun _ => nI 0), aI G (kv 1) 128 (fv 1), aI G (kw 1) 128 (fw 1), oC (kk 2) 0 [.ref (ks 2), .ref (kv 2), .ref (kw 2), .int (nI 0), .int (nI 0), .long (ch 2), .long (cl 2)], aZ G (ks 2) 256 (fun _ => nI 0), aI G (kv 2) 128 (fv 2), aI G (kw 2) 128 (fw 2), oC (kk 3) 0 [.ref (ks 3), .ref (kv 3), .ref (kw 3), .int (nI 0), .int (nI 0), .long (ch 3), .long (cl 3)], aZ G (ks 3) 256 (fun _ => nI 0), aI G (kv 3) 128 (fv 3), aI G (kw 3) 128 (fw 3)] ++ tl) := hD
    refine W.cs (cells' := 60 + 4 * j + 4) (slots' := 20000 + 20 * j + 20) rfl rfl ?_
    refine W.eq (g2 := F0 m 234 ls []) rfl ?_
    refine lv_aload_n hx hb dLa_law_234 rfl (lv_at hl 3 rfl) ?_
    refine clLa_88 (As := []) (rest := []) hx hb hml hown hts (k_Mo_thrown l G oy r (nI 0) fi se (nI d) (jLL y2 y3) (jLL y4 y5) (nI 0) oh ol w0 w1 w2) hG hA hP hD hS 12 rfl [12] rfl rfl (fun _ => rfl) rfl hl.1 rfl (Nat.le_of_ble_eq_true rfl) ⟨Nat.le_of_ble_eq_true rfl, Nat.le_of_ble_eq_true rfl⟩ ⟨hcf.1, hcf.2⟩ dLa_law_235 (fun _ H locs _ hP hD hS => ?_)
    have hP : va_P G.1 vwCl ([aJ G oq 1 fo, oC ox 7 [.ref oc, .ref ot, .ref oo, .ref oe, .ref op, .ref ocs, .ref ods, .long oh, .long ol], oC ot 6 [.int (nI d), .long (jLL y2 y3), .long (jLL y4 y5)], oC oc 1 [.ref owd, .long e0, .long f0], aI G owd 44 g, oC oo 2 [.ref om], aZ G om 512 mk, oC oe 4 [.long c0, .long h0, .long l0], oC op 5 [.ref ob, .int (nI 0)], aI G ob 229 f, aH G ocs 4 (fun j => some (kk j)), aQ G ods 256 (fun _ => none), moC oy r (nI 0) fi se (nI d) (jLL y2 y3) (jLL y4 y5) (nI 0) oh ol w0 w1 w2, aI G (r 0) 256 ckS, aI G (r 1) 256 ckU, aI G (r 2) 176 (bN ff), aI G (r 3) 16 (bN gg), aI G (r 4) 16 (bN mm), aZ G (r 5) 256 (fun _ => nI 0), aZ G (r 6) 1024 (fun _ => nI 0), aI G (r 7) 4 (fun _ => nI 0), aJ G (r 8) 4 ph, aJ G (r 9) 4 pl, aI G (r 10) 4 (fun _ => nI 0), aI G (r 11) 1024 sv, aI G (r 12) 1024 sw, aZ G (r 13) 512 mk2, aI G (r 14) 229 f, aI G (r 15) 1024 (fun _ => (-1)), aJ G (r 16) 1024 hh, aJ G (r 17) 1024 hl9, oC (kk 0) 0 [.ref (ks 0), .ref (kv 0), .ref (kw 0), .int (nI 0), .int (nI 0), .long (ch 0), .long (cl 0)], aZ G (ks 0) 256 (fun _ => nI 0), aI G (kv 0) 128 (fv 0), aI G (kw 0) 128 (fw 0), oC (kk 1) 0 [.ref (ks 1), .ref (kv 1), .ref (kw 1), .int (nI 0), .int (nI 0), .long (ch 1), .long (cl 1)], aZ G (ks 1) 256 (fun _ => nI 0), aI G (kv 1) 128 (fv 1), aI G (kw 1) 128 (fw 1), oC (kk 2) 0 [.ref (ks 2), .ref (kv 2), .ref (kw 2), .int (nI 0), .int (nI 0), .long (ch 2), .long (cl 2)], aZ G (ks 2) 256 (fun _ => nI 0), aI G (kv 2) 128 (fv 2), aI G (kw 2) 128 (fw 2), oC (kk 3) 0 [.ref (ks 3), .ref (kv 3), .ref (kw 3), .int (nI 0), .int (nI 0), .long (ch 3), .long (cl 3)], aZ G (ks 3) 256 (fun _ => nI 0), aI G (kv 3) 128 (fv 3), aI G (kw 3) 128 (fw 3)] ++ tl) H := hP
    have hD : va_D A ([aJ G oq 1 fo, oC ox 7 [.ref oc, .ref ot, .ref oo, .ref oe, .ref op, .ref ocs, .ref ods, .long oh, .long ol], oC ot 6 [.int (nI d), .long (jLL y2 y3), .long (jLL y4 y5)], oC oc 1 [.ref owd, .long e0, .long f0], aI G owd 44 g, oC oo 2 [.ref om], aZ G om 512 mk, oC oe 4 [.long c0, .long h0, .long l0], oC op 5 [.ref ob, .int (nI 0)], aI G ob 229 f, aH G ocs 4 (fun j => some (kk j)), aQ G ods 256 (fun _ => none), moC oy r (nI 0) fi se (nI d) (jLL y2 y3) (jLL y4 y5) (nI 0) oh ol w0 w1 w2, aI G (r 0) 256 ckS, aI G (r 1) 256 ckU, aI G (r 2) 176 (bN ff), aI G (r 3) 16 (bN gg), aI G (r 4) 16 (bN mm), aZ G (r 5) 256 (fun _ => nI 0), aZ G (r 6) 1024 (fun _ => nI 0), aI G (r 7) 4 (fun _ => nI 0), aJ G (r 8) 4 ph, aJ G (r 9) 4 pl, aI G (r 10) 4 (fun _ => nI 0), aI G (r 11) 1024 sv, aI G (r 12) 1024 sw, aZ G (r 13) 512 mk2, aI G (r 14) 229 f, aI G (r 15) 1024 (fun _ => (-1)), aJ G (r 16) 1024 hh, aJ G (r 17) 1024 hl9, oC (kk 0) 0 [.ref (ks 0), .ref (kv 0), .ref (kw 0), .int (nI 0), .int (nI 0), .long (ch 0), .long (cl 0)], aZ G (ks 0) 256 (fun _ => nI 0), aI G (kv 0) 128 (fv 0), aI G (kw 0) 128 (fw 0), oC (kk 1) 0 [.ref (ks 1), .ref (kv 1), .ref (kw 1), .int (nI 0), .int (nI 0), .long (ch 1), .long (cl 1)], aZ G (ks 1) 256 (fun _ => nI 0), aI G (kv 1) 128 (fv 1), aI G (kw 1) 128 (fw 1), oC (kk 2) 0 [.ref (ks 2), .ref (kv 2), .ref (kw 2), .int (nI 0), .int (nI 0), .long (ch 2), .long (cl 2)], aZ G (ks 2) 256 (fun _ => nI 0), aI G (kv 2) 128 (fv 2), aI G (kw 2) 128 (fw 2), oC (kk 3) 0 [.ref (ks 3), .ref (kv 3), .ref (kw 3), .int (nI 0), .int (nI 0), .long (ch 3), .long (cl 3)], aZ G (ks 3) 256 (fun _ => nI 0), aI G (kv 3) 128 (fv 3), aI G (kw 3) 128 (fw 3)] ++ tl) := hD
    refine W.cs (cells' := 60 + 4 * j + 4) (slots' := 20000 + 20 * j + 20) rfl rfl ?_
    refine W.eq (g2 := F0 m 238 ls [.int (nI 0)]) rfl ?_
    refine lv_iload hx hb dLa_law_238 (lv_at hl 0 rfl) ?_
    refine lv_icmp_eq (tgt := 245) hx hb dLa_law_240 rfl (fun _ => ?_) (fun h => absurd (rfl) h)
    refine lv_goto (tgt := 1641) hx hb dLa_law_245 rfl ?_
    refine lv_iinc (v := nI (9 * (j + 1))) (lv' := [(4, .int (nI (9 * (j + 1)))), (5, .int (nI 0)), (0, .ref b), (1, .ref ox), (2, .ref oy), (3, .ref oq)]) hx hb dLa_law_1641 hl (k := 5) rfl (nI_add (9 * j) 9) (by decide) rfl (fun ls hl => ?_)
    refine lv_goto (tgt := 23) hx hb dLa_law_1644 rfl ?_
    refine W.cs (cells' := 60 + 4 * (j + 1)) (slots' := 20000 + 20 * (j + 1)) (by omega) (by omega) ?_
    have hP := P_pre hP
    have hD := D_pre hD
    exact ih oh ol d (jLL y2 y3) (jLL y4 y5) g e0 f0 mk c0 h0 l0 0 f (fun _ => none) (fun _ => 0) (fun _ => 0) ch cl (fun _ _ => nI 0) fv fw ([]) fo (nI 0) fi se w0 w1 w2 ff gg mm (fun _ => nI 0) (fun _ => nI 0) (fun _ => nI 0) ph pl (fun _ => nI 0) sv sw mk2 (fun _ => (-1)) hh hl9 _ _ _ hd1 hd2 (chR_begin hR1) (fun _ _ _ _ => rfl) (deR_begin hh hl9) (⟨hR4.1, Or.inl rfl⟩) hP hD hS (lv_sub hl [2, 3, 4, 5, 0] rfl)
