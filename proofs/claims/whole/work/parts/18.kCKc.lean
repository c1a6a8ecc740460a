/-! CoverKeys: more of its public methods -/
def cntR (dp : Nat) (d : Int32) (fv fw : Nat → Int32) : Nat → Nat
  | 0 => 0
  | n + 1 => if jDer dp d (fv n) (fw n) = true then cntR dp d fv fw n + 1 else cntR dp d fv fw n
theorem cntR_le (dp : Nat) (d : Int32) (fv fw : Nat → Int32) : ∀ n, cntR dp d fv fw n ≤ n
  | 0 => Nat.le_refl _
  | n + 1 => by
    unfold cntR
    have := cntR_le dp d fv fw n
    split <;> omega
set_option maxHeartbeats 4000000 in
set_option maxRecDepth 100000 in
theorem k_CK_open (l : Launch) (G : gG) (ox oc ot oo oe op ocs ods : Nat) (oh ol : Int64) (dp : Nat) (hdp : dp ≤ 8) (sh sl : Int64) (dec : Nat → Option Nat) (dd : Nat) (hd : dd < 2 ^ dp) (owd : Nat) (g : Nat → Int32) (e0 f0 : Int64) (c4 od dq dh dl : Nat) (hc : c4 < 4) (ho : dec dd = some od) (pf : Nat → Int32) (hf lf : Nat → Int64) (hp : ¬ pf c4 = (-1)) (i1 h2 l2 : Int64) : Ck l G yCK_open cCK_open 10 none { frames := 4, cells := 0, slots := 0, locals := 104 } [.ref ox, .int (nI dd), .int (nI c4), .long i1, .long h2, .long l2] [oC ox 7 [.ref oc, .ref ot, .ref oo, .ref oe, .ref op, .ref ocs, .ref ods, .long oh, .long ol], oC oc 1 [.ref owd, .long e0, .long f0], aI G owd 44 g, oC ot 6 [.int (nI dp), .long sh, .long sl], aQ G ods 256 dec, oC od 3 [.ref dq, .ref dh, .ref dl], aI G dq 4 pf, aJ G dh 4 hf, aJ G dl 4 lf] (none) [oC ox 7 [.ref oc, .ref ot, .ref oo, .ref oe, .ref op, .ref ocs, .ref ods, .long (h2 ^^^ (cE (hf c4) (lf c4) (lN 65536 * (nI c4).toInt64 + (pf c4).toInt64) i1).1), .long (l2 ^^^ (cE (hf c4) (lf c4) (lN 65536 * (nI c4).toInt64 + (pf c4).toInt64) i1).2)], oC oc 1 [.ref owd, .long ((cE (hf c4) (lf c4) (lN 65536 * (nI c4).toInt64 + (pf c4).toInt64) i1).1), .long ((cE (hf c4) (lf c4) (lN 65536 * (nI c4).toInt64 + (pf c4).toInt64) i1).2)], aI G owd 44 (jKey (hf c4) (lf c4)), oC ot 6 [.int (nI dp), .long sh, .long sl], aQ G ods 256 dec, oC od 3 [.ref dq, .ref dh, .ref dl], aI G dq 4 pf, aJ G dh 4 hf, aJ G dl 4 lf] := by
  refine Cq.of (by decide) (Nat.le_of_ble_eq_true rfl) ?_
  intro p e s m args below meth c A ls hx hb hr hml hts hown hlk hA hP hD hG hS hl
  have hp2 : 2 ^ dp ≤ 256 := Nat.pow_le_pow_right (n := 2) (by decide) hdp
  have hp1 : 1 ≤ 2 ^ dp := Nat.one_le_two_pow
  have hl : lv_has ls 10 [(0, .ref ox), (1, .int (nI dd)), (2, .int (nI c4)), (3, .long i1), (5, .long h2), (7, .long l2)] := hl
  refine lv_aload_n hx hb dCK_open_0 rfl (lv_at hl 0 rfl) ?_
  refine lv_iload_n hx hb dCK_open_1 rfl (lv_at hl 1 rfl) ?_
  refine clCK_72 (As := [.int (nI dd)]) (rest := []) hx hb hml hown hts (k_CK_checkDecoder l G ox oc ot oo oe op ocs ods oh ol dp hdp sh sl dd hd) hG hA hP hD hS 0 rfl [0, 3] rfl rfl (fun _ => rfl) rfl hl.1 rfl (Nat.le_of_ble_eq_true rfl) ⟨by decide, by decide⟩ ⟨by decide, by decide⟩ dCK_open_2 (fun _ H locs _ hP hD hS => ?_)
  have hP : va_P G.1 vwCl [oC ox 7 [.ref oc, .ref ot, .ref oo, .ref oe, .ref op, .ref ocs, .ref ods, .long oh, .long ol], oC oc 1 [.ref owd, .long e0, .long f0], aI G owd 44 g, oC ot 6 [.int (nI dp), .long sh, .long sl], aQ G ods 256 dec, oC od 3 [.ref dq, .ref dh, .ref dl], aI G dq 4 pf, aJ G dh 4 hf, aJ G dl 4 lf] H := hP
  have hD : va_D A [oC ox 7 [.ref oc, .ref ot, .ref oo, .ref oe, .ref op, .ref ocs, .ref ods, .long oh, .long ol], oC oc 1 [.ref owd, .long e0, .long f0], aI G owd 44 g, oC ot 6 [.int (nI dp), .long sh, .long sl], aQ G ods 256 dec, oC od 3 [.ref dq, .ref dh, .ref dl], aI G dq 4 pf, aJ G dh 4 hf, aJ G dl 4 lf] := hD
  refine W.cs (cells' := 0) (slots' := 0) rfl rfl ?_
  refine W.eq (g2 := F0 m 5 ls []) rfl ?_
  refine lv_iload_n hx hb dCK_open_5 rfl (lv_at hl 2 rfl) ?_
  refine clCK_86 (As := [.int (nI c4)]) (rest := []) hx hb hml hown hts (k_CK_checkChannel l G (nI c4) (jIn_nI (by decide) hc)) hG hA hP hD hS [] rfl rfl (fun _ => rfl) rfl hl.1 rfl (Nat.le_of_ble_eq_true rfl) ⟨by decide, by decide⟩ ⟨by decide, by decide⟩ dCK_open_6 (fun _ H locs _ hP hD hS => ?_)
  have hP : va_P G.1 vwCl [oC ox 7 [.ref oc, .ref ot, .ref oo, .ref oe, .ref op, .ref ocs, .ref ods, .long oh, .long ol], oC oc 1 [.ref owd, .long e0, .long f0], aI G owd 44 g, oC ot 6 [.int (nI dp), .long sh, .long sl], aQ G ods 256 dec, oC od 3 [.ref dq, .ref dh, .ref dl], aI G dq 4 pf, aJ G dh 4 hf, aJ G dl 4 lf] H := hP
  have hD : va_D A [oC ox 7 [.ref oc, .ref ot, .ref oo, .ref oe, .ref op, .ref ocs, .ref ods, .long oh, .long ol], oC oc 1 [.ref owd, .long e0, .long f0], aI G owd 44 g, oC ot 6 [.int (nI dp), .long sh, .long sl], aQ G ods 256 dec, oC od 3 [.ref dq, .ref dh, .ref dl], aI G dq 4 pf, aJ G dh 4 hf, aJ G dl 4 lf] := hD
  refine W.cs (cells' := 0) (slots' := 0) rfl rfl ?_
  refine W.eq (g2 := F0 m 9 ls []) rfl ?_
  refine lv_aload_n hx hb dCK_open_9 rfl (lv_at hl 0 rfl) ?_
  refine gfCK_52 hx hb hts hown hG hP 0 rfl rfl dCK_open_10 ?_
  refine lv_iload_n hx hb dCK_open_13 rfl (lv_at hl 1 rfl) ?_
  refine ck_qald (v := .ref od) hx hb hG hP 4 rfl (by decide) dd (rfl) (by omega) (by rw [ho]; rfl) dCK_open_14 ?_
  refine lv_astore (lv' := [(9, .ref od), (0, .ref ox), (1, .int (nI dd)), (2, .int (nI c4)), (3, .long i1), (5, .long h2), (7, .long l2)]) hx hb dCK_open_15 hl (by decide) rfl (fun ls hl => ?_)
  refine lv_aload hx hb dCK_open_17 (lv_at hl 0 rfl) ?_
  refine lv_ifnull hx hb dCK_open_19 ?_
  refine lv_aload hx hb dCK_open_22 (lv_at hl 0 rfl) ?_
  refine gfCK_169 hx hb hts hown hG hP 5 rfl rfl dCK_open_24 ?_
  refine lv_iload_n hx hb dCK_open_27 rfl (lv_at hl 3 rfl) ?_
  refine ck_iald hx hb hG hP 6 rfl (by decide) c4 (rfl) (hc) dCK_open_28 ?_
  refine lv_iconst (v := (-1)) hx hb dCK_open_29 (by decide) ?_
  refine lv_icmp_ne (tgt := 43) hx hb dCK_open_30 rfl (fun _ => ?_) (fun h => absurd h (hp))
  refine lv_aload_n hx hb dCK_open_43 rfl (lv_at hl 1 rfl) ?_
  refine gfCK_12 hx hb hts hown hG hP 0 rfl rfl dCK_open_44 ?_
  refine lv_aload hx hb dCK_open_47 (lv_at hl 0 rfl) ?_
  refine gfCK_182 hx hb hts hown hG hP 5 rfl rfl dCK_open_49 ?_
  refine lv_iload_n hx hb dCK_open_52 rfl (lv_at hl 3 rfl) ?_
  refine ck_lald hx hb hG hP 7 rfl (by decide) c4 (rfl) (hc) dCK_open_53 ?_
  refine lv_aload hx hb dCK_open_54 (lv_at hl 0 rfl) ?_
  refine gfCK_186 hx hb hts hown hG hP 5 rfl rfl dCK_open_56 ?_
  refine lv_iload_n hx hb dCK_open_59 rfl (lv_at hl 3 rfl) ?_
  refine ck_lald hx hb hG hP 8 rfl (by decide) c4 (rfl) (hc) dCK_open_60 ?_
  refine clCK_173 (As := [.long (hf c4), .long (lf c4)]) (rest := []) hx hb hml hown hts (k_Ci_key l G oc owd g e0 f0 (hf c4) (lf c4)) hG hA hP hD hS 1 rfl [1, 2] rfl rfl (fun _ => rfl) rfl hl.1 rfl (Nat.le_of_ble_eq_true rfl) ⟨by decide, by decide⟩ ⟨by decide, by decide⟩ dCK_open_61 (fun _ H locs _ hP hD hS => ?_)
  have hP : va_P G.1 vwCl [oC ox 7 [.ref oc, .ref ot, .ref oo, .ref oe, .ref op, .ref ocs, .ref ods, .long oh, .long ol], oC oc 1 [.ref owd, .long e0, .long f0], aI G owd 44 (jKey (hf c4) (lf c4)), oC ot 6 [.int (nI dp), .long sh, .long sl], aQ G ods 256 dec, oC od 3 [.ref dq, .ref dh, .ref dl], aI G dq 4 pf, aJ G dh 4 hf, aJ G dl 4 lf] H := hP
  have hD : va_D A [oC ox 7 [.ref oc, .ref ot, .ref oo, .ref oe, .ref op, .ref ocs, .ref ods, .long oh, .long ol], oC oc 1 [.ref owd, .long e0, .long f0], aI G owd 44 (jKey (hf c4) (lf c4)), oC ot 6 [.int (nI dp), .long sh, .long sl], aQ G ods 256 dec, oC od 3 [.ref dq, .ref dh, .ref dl], aI G dq 4 pf, aJ G dh 4 hf, aJ G dl 4 lf] := hD
  refine W.cs (cells' := 0) (slots' := 0) rfl rfl ?_
  refine W.eq (g2 := F0 m 64 ls []) rfl ?_
  refine lv_aload_n hx hb dCK_open_64 rfl (lv_at hl 1 rfl) ?_
  refine lv_iload_n hx hb dCK_open_65 rfl (lv_at hl 3 rfl) ?_
  refine lv_aload hx hb dCK_open_66 (lv_at hl 0 rfl) ?_
  refine gfCK_169 hx hb hts hown hG hP 5 rfl rfl dCK_open_68 ?_
  refine lv_iload_n hx hb dCK_open_71 rfl (lv_at hl 3 rfl) ?_
  refine ck_iald hx hb hG hP 6 rfl (by decide) c4 (rfl) (hc) dCK_open_72 ?_
  refine lv_lload_n hx hb dCK_open_73 rfl (lv_at hl 4 rfl) ?_
  refine lv_lload hx hb dCK_open_74 (lv_at hl 5 rfl) ?_
  refine lv_lload hx hb dCK_open_76 (lv_at hl 6 rfl) ?_
  refine clCK_176 (As := [.int (nI c4), .int (pf c4), .long i1, .long h2, .long l2]) (rest := []) hx hb hml hown hts (k_CK_maskBlock l G ox oc owd ot oo oe op ocs ods oh ol e0 f0 (jKey (hf c4) (lf c4)) (nI c4) (pf c4) i1 h2 l2) hG hA hP hD hS 0 rfl [0, 1, 2] rfl rfl (fun _ => rfl) rfl hl.1 rfl (Nat.le_of_ble_eq_true rfl) ⟨by decide, by decide⟩ ⟨by decide, by decide⟩ dCK_open_78 (fun _ H locs _ hP hD hS => ?_)
  have hP : va_P G.1 vwCl [oC ox 7 [.ref oc, .ref ot, .ref oo, .ref oe, .ref op, .ref ocs, .ref ods, .long (h2 ^^^ jEH (jKey (hf c4) (lf c4)) (lN 65536 * (nI c4).toInt64 + (pf c4).toInt64) i1), .long (l2 ^^^ jEL (jKey (hf c4) (lf c4)) (lN 65536 * (nI c4).toInt64 + (pf c4).toInt64) i1)], oC oc 1 [.ref owd, .long (jEH (jKey (hf c4) (lf c4)) (lN 65536 * (nI c4).toInt64 + (pf c4).toInt64) i1), .long (jEL (jKey (hf c4) (lf c4)) (lN 65536 * (nI c4).toInt64 + (pf c4).toInt64) i1)], aI G owd 44 (jKey (hf c4) (lf c4)), oC ot 6 [.int (nI dp), .long sh, .long sl], aQ G ods 256 dec, oC od 3 [.ref dq, .ref dh, .ref dl], aI G dq 4 pf, aJ G dh 4 hf, aJ G dl 4 lf] H := hP
  have hD : va_D A [oC ox 7 [.ref oc, .ref ot, .ref oo, .ref oe, .ref op, .ref ocs, .ref ods, .long (h2 ^^^ jEH (jKey (hf c4) (lf c4)) (lN 65536 * (nI c4).toInt64 + (pf c4).toInt64) i1), .long (l2 ^^^ jEL (jKey (hf c4) (lf c4)) (lN 65536 * (nI c4).toInt64 + (pf c4).toInt64) i1)], oC oc 1 [.ref owd, .long (jEH (jKey (hf c4) (lf c4)) (lN 65536 * (nI c4).toInt64 + (pf c4).toInt64) i1), .long (jEL (jKey (hf c4) (lf c4)) (lN 65536 * (nI c4).toInt64 + (pf c4).toInt64) i1)], aI G owd 44 (jKey (hf c4) (lf c4)), oC ot 6 [.int (nI dp), .long sh, .long sl], aQ G ods 256 dec, oC od 3 [.ref dq, .ref dh, .ref dl], aI G dq 4 pf, aJ G dh 4 hf, aJ G dl 4 lf] := hD
  refine W.cs (cells' := 0) (slots' := 0) rfl rfl ?_
  refine W.eq (g2 := F0 m 81 ls []) rfl ?_
  exact cq_vret () (trivial) hx hb hr hlk hP hS rfl (rfl) dCK_open_81
set_option maxHeartbeats 4000000 in
set_option maxRecDepth 100000 in
theorem x_CK_open1 (l : Launch) (hl0 : l.stackTraces = false) (G : gG) (ox oc ot oo oe op ocs ods : Nat) (oh ol : Int64) (dp : Nat) (hdp : dp ≤ 8) (sh sl : Int64) (d1 c1 : Int32) (hd : jIn (2 ^ dp) d1 = false) (i1 h2 l2 : Int64) : Cx l G yCK_open cCK_open 10 none { frames := 7, cells := 1, slots := 6, locals := 103 } [.ref ox, .int d1, .int c1, .long i1, .long h2, .long l2] [oC ox 7 [.ref oc, .ref ot, .ref oo, .ref oe, .ref op, .ref ocs, .ref ods, .long oh, .long ol], oC ot 6 [.int (nI dp), .long sh, .long sl]] "java/lang/IndexOutOfBoundsException" [oC ox 7 [.ref oc, .ref ot, .ref oo, .ref oe, .ref op, .ref ocs, .ref ods, .long oh, .long ol], oC ot 6 [.int (nI dp), .long sh, .long sl]] := by
  refine Cx.of (by decide) (Nat.le_of_ble_eq_true rfl) ?_
  intro p e s m args below meth c A ls hx hb hr hml hts hown hlk htb hA hP hD hG hS hl
  have hl : lv_has ls 10 [(0, .ref ox), (1, .int d1), (2, .int c1), (3, .long i1), (5, .long h2), (7, .long l2)] := hl
  refine lv_aload_n hx hb dCK_open_0 rfl (lv_at hl 0 rfl) ?_
  refine lv_iload_n hx hb dCK_open_1 rfl (lv_at hl 1 rfl) ?_
  exact cxCK_72 (As := [.int d1]) (rest := []) hx hb hml hown hts (x_CK_checkDecoder l hl0 G ox oc ot oo oe op ocs ods oh ol dp hdp sh sl d1 hd) hG hA hP hD hS 0 rfl [0, 1] rfl rfl rfl rfl hl.1 rfl (Nat.le_of_ble_eq_true rfl) ⟨by decide, by decide⟩ ⟨by decide, by decide⟩ dCK_open_2 htb hlk (by decide) (by decide)
set_option maxHeartbeats 4000000 in
set_option maxRecDepth 100000 in
theorem x_CK_open2 (l : Launch) (hl0 : l.stackTraces = false) (G : gG) (ox oc ot oo oe op ocs ods : Nat) (oh ol : Int64) (dp : Nat) (hdp : dp ≤ 8) (sh sl : Int64) (dd : Nat) (hd : dd < 2 ^ dp) (c1 : Int32) (hc : jIn 4 c1 = false) (i1 h2 l2 : Int64) : Cx l G yCK_open cCK_open 10 none { frames := 7, cells := 1, slots := 6, locals := 102 } [.ref ox, .int (nI dd), .int c1, .long i1, .long h2, .long l2] [oC ox 7 [.ref oc, .ref ot, .ref oo, .ref oe, .ref op, .ref ocs, .ref ods, .long oh, .long ol], oC ot 6 [.int (nI dp), .long sh, .long sl]] "java/lang/IndexOutOfBoundsException" [oC ox 7 [.ref oc, .ref ot, .ref oo, .ref oe, .ref op, .ref ocs, .ref ods, .long oh, .long ol], oC ot 6 [.int (nI dp), .long sh, .long sl]] := by
  refine Cx.of (by decide) (Nat.le_of_ble_eq_true rfl) ?_
  intro p e s m args below meth c A ls hx hb hr hml hts hown hlk htb hA hP hD hG hS hl
  have hl : lv_has ls 10 [(0, .ref ox), (1, .int (nI dd)), (2, .int c1), (3, .long i1), (5, .long h2), (7, .long l2)] := hl
  refine lv_aload_n hx hb dCK_open_0 rfl (lv_at hl 0 rfl) ?_
  refine lv_iload_n hx hb dCK_open_1 rfl (lv_at hl 1 rfl) ?_
  refine clCK_72 (As := [.int (nI dd)]) (rest := []) hx hb hml hown hts (k_CK_checkDecoder l G ox oc ot oo oe op ocs ods oh ol dp hdp sh sl dd hd) hG hA hP hD hS 0 rfl [0, 1] rfl rfl (fun _ => rfl) rfl hl.1 rfl (Nat.le_of_ble_eq_true rfl) ⟨by decide, by decide⟩ ⟨by decide, by decide⟩ dCK_open_2 (fun _ H locs _ hP hD hS => ?_)
  have hP : va_P G.1 vwCl [oC ox 7 [.ref oc, .ref ot, .ref oo, .ref oe, .ref op, .ref ocs, .ref ods, .long oh, .long ol], oC ot 6 [.int (nI dp), .long sh, .long sl]] H := hP
  have hD : va_D A [oC ox 7 [.ref oc, .ref ot, .ref oo, .ref oe, .ref op, .ref ocs, .ref ods, .long oh, .long ol], oC ot 6 [.int (nI dp), .long sh, .long sl]] := hD
  refine W.cs (cells' := 0) (slots' := 0) rfl rfl ?_
  refine W.eq (g2 := F0 m 5 ls []) rfl ?_
  refine lv_iload_n hx hb dCK_open_5 rfl (lv_at hl 2 rfl) ?_
  exact cxCK_86 (As := [.int c1]) (rest := []) hx hb hml hown hts (x_CK_checkChannel l hl0 G c1 hc) hG hA hP hD hS [] rfl rfl rfl rfl hl.1 rfl (Nat.le_of_ble_eq_true rfl) ⟨by decide, by decide⟩ ⟨by decide, by decide⟩ dCK_open_6 htb hlk (by decide) (by decide)
set_option maxHeartbeats 4000000 in
set_option maxRecDepth 100000 in
theorem x_CK_open3 (l : Launch) (hl0 : l.stackTraces = false) (G : gG) (ox oc ot oo oe op ocs ods : Nat) (oh ol : Int64) (dp : Nat) (hdp : dp ≤ 8) (sh sl : Int64) (dec : Nat → Option Nat) (dd : Nat) (hd : dd < 2 ^ dp) (c4 : Nat) (hc : c4 < 4) (ho : dec dd = none) (i1 h2 l2 : Int64) : Cx l G yCK_open cCK_open 10 none { frames := 6, cells := 1, slots := 6, locals := 82 } [.ref ox, .int (nI dd), .int (nI c4), .long i1, .long h2, .long l2] [oC ox 7 [.ref oc, .ref ot, .ref oo, .ref oe, .ref op, .ref ocs, .ref ods, .long oh, .long ol], oC ot 6 [.int (nI dp), .long sh, .long sl], aQ G ods 256 dec] "java/lang/IllegalStateException" [oC ox 7 [.ref oc, .ref ot, .ref oo, .ref oe, .ref op, .ref ocs, .ref ods, .long oh, .long ol], oC ot 6 [.int (nI dp), .long sh, .long sl], aQ G ods 256 dec] := by
  refine Cx.of (by decide) (Nat.le_of_ble_eq_true rfl) ?_
  intro p e s m args below meth c A ls hx hb hr hml hts hown hlk htb hA hP hD hG hS hl
  have hp2 : 2 ^ dp ≤ 256 := Nat.pow_le_pow_right (n := 2) (by decide) hdp
  have hp1 : 1 ≤ 2 ^ dp := Nat.one_le_two_pow
  have hl : lv_has ls 10 [(0, .ref ox), (1, .int (nI dd)), (2, .int (nI c4)), (3, .long i1), (5, .long h2), (7, .long l2)] := hl
  refine lv_aload_n hx hb dCK_open_0 rfl (lv_at hl 0 rfl) ?_
  refine lv_iload_n hx hb dCK_open_1 rfl (lv_at hl 1 rfl) ?_
  refine clCK_72 (As := [.int (nI dd)]) (rest := []) hx hb hml hown hts (k_CK_checkDecoder l G ox oc ot oo oe op ocs ods oh ol dp hdp sh sl dd hd) hG hA hP hD hS 0 rfl [0, 1] rfl rfl (fun _ => rfl) rfl hl.1 rfl (Nat.le_of_ble_eq_true rfl) ⟨by decide, by decide⟩ ⟨by decide, by decide⟩ dCK_open_2 (fun _ H locs _ hP hD hS => ?_)
  have hP : va_P G.1 vwCl [oC ox 7 [.ref oc, .ref ot, .ref oo, .ref oe, .ref op, .ref ocs, .ref ods, .long oh, .long ol], oC ot 6 [.int (nI dp), .long sh, .long sl], aQ G ods 256 dec] H := hP
  have hD : va_D A [oC ox 7 [.ref oc, .ref ot, .ref oo, .ref oe, .ref op, .ref ocs, .ref ods, .long oh, .long ol], oC ot 6 [.int (nI dp), .long sh, .long sl], aQ G ods 256 dec] := hD
  refine W.cs (cells' := 0) (slots' := 0) rfl rfl ?_
  refine W.eq (g2 := F0 m 5 ls []) rfl ?_
  refine lv_iload_n hx hb dCK_open_5 rfl (lv_at hl 2 rfl) ?_
  refine clCK_86 (As := [.int (nI c4)]) (rest := []) hx hb hml hown hts (k_CK_checkChannel l G (nI c4) (jIn_nI (by decide) hc)) hG hA hP hD hS [] rfl rfl (fun _ => rfl) rfl hl.1 rfl (Nat.le_of_ble_eq_true rfl) ⟨by decide, by decide⟩ ⟨by decide, by decide⟩ dCK_open_6 (fun _ H locs _ hP hD hS => ?_)
  have hP : va_P G.1 vwCl [oC ox 7 [.ref oc, .ref ot, .ref oo, .ref oe, .ref op, .ref ocs, .ref ods, .long oh, .long ol], oC ot 6 [.int (nI dp), .long sh, .long sl], aQ G ods 256 dec] H := hP
  have hD : va_D A [oC ox 7 [.ref oc, .ref ot, .ref oo, .ref oe, .ref op, .ref ocs, .ref ods, .long oh, .long ol], oC ot 6 [.int (nI dp), .long sh, .long sl], aQ G ods 256 dec] := hD
  refine W.cs (cells' := 0) (slots' := 0) rfl rfl ?_
  refine W.eq (g2 := F0 m 9 ls []) rfl ?_
  refine lv_aload_n hx hb dCK_open_9 rfl (lv_at hl 0 rfl) ?_
  refine gfCK_52 hx hb hts hown hG hP 0 rfl rfl dCK_open_10 ?_
  refine lv_iload_n hx hb dCK_open_13 rfl (lv_at hl 1 rfl) ?_
  refine ck_qald (v := .null) hx hb hG hP 2 rfl (by decide) dd (rfl) (by omega) (by rw [ho]; rfl) dCK_open_14 ?_
  refine lv_astoreN (lv' := [(9, .null), (0, .ref ox), (1, .int (nI dd)), (2, .int (nI c4)), (3, .long i1), (5, .long h2), (7, .long l2)]) hx hb dCK_open_15 hl (by decide) rfl (fun ls hl => ?_)
  refine lv_aloadN hx hb dCK_open_17 (lv_at hl 0 rfl) ?_
  refine lv_ifnullN (tgt := 33) hx hb dCK_open_19 rfl ?_
  exact cxISE (sx := 180) (tx := "no key for that channel") hl0 hx hb hml hown hts htb hlk hG hP hS hl.1 (by decide) dCK_open_33 dCK_open_36 dCK_open_37 dCK_open_39 dCK_open_42 (by decide) (Nat.le_of_ble_eq_true rfl) (by decide) (by decide) (by decide) (by decide)
set_option maxHeartbeats 4000000 in
set_option maxRecDepth 100000 in
theorem x_CK_open4 (l : Launch) (hl0 : l.stackTraces = false) (G : gG) (ox oc ot oo oe op ocs ods : Nat) (oh ol : Int64) (dp : Nat) (hdp : dp ≤ 8) (sh sl : Int64) (dec : Nat → Option Nat) (dd : Nat) (hd : dd < 2 ^ dp) (c4 od dq dh dl : Nat) (hc : c4 < 4) (ho : dec dd = some od) (pf : Nat → Int32) (hp : pf c4 = (-1)) (i1 h2 l2 : Int64) : Cx l G yCK_open cCK_open 10 none { frames := 6, cells := 1, slots := 6, locals := 82 } [.ref ox, .int (nI dd), .int (nI c4), .long i1, .long h2, .long l2] [oC ox 7 [.ref oc, .ref ot, .ref oo, .ref oe, .ref op, .ref ocs, .ref ods, .long oh, .long ol], oC ot 6 [.int (nI dp), .long sh, .long sl], aQ G ods 256 dec, oC od 3 [.ref dq, .ref dh, .ref dl], aI G dq 4 pf] "java/lang/IllegalStateException" [oC ox 7 [.ref oc, .ref ot, .ref oo, .ref oe, .ref op, .ref ocs, .ref ods, .long oh, .long ol], oC ot 6 [.int (nI dp), .long sh, .long sl], aQ G ods 256 dec, oC od 3 [.ref dq, .ref dh, .ref dl], aI G dq 4 pf] := by
  refine Cx.of (by decide) (Nat.le_of_ble_eq_true rfl) ?_
  intro p e s m args below meth c A ls hx hb hr hml hts hown hlk htb hA hP hD hG hS hl
  have hp2 : 2 ^ dp ≤ 256 := Nat.pow_le_pow_right (n := 2) (by decide) hdp
  have hp1 : 1 ≤ 2 ^ dp := Nat.one_le_two_pow
  have hl : lv_has ls 10 [(0, .ref ox), (1, .int (nI dd)), (2, .int (nI c4)), (3, .long i1), (5, .long h2), (7, .long l2)] := hl
  refine lv_aload_n hx hb dCK_open_0 rfl (lv_at hl 0 rfl) ?_
  refine lv_iload_n hx hb dCK_open_1 rfl (lv_at hl 1 rfl) ?_
  refine clCK_72 (As := [.int (nI dd)]) (rest := []) hx hb hml hown hts (k_CK_checkDecoder l G ox oc ot oo oe op ocs ods oh ol dp hdp sh sl dd hd) hG hA hP hD hS 0 rfl [0, 1] rfl rfl (fun _ => rfl) rfl hl.1 rfl (Nat.le_of_ble_eq_true rfl) ⟨by decide, by decide⟩ ⟨by decide, by decide⟩ dCK_open_2 (fun _ H locs _ hP hD hS => ?_)
  have hP : va_P G.1 vwCl [oC ox 7 [.ref oc, .ref ot, .ref oo, .ref oe, .ref op, .ref ocs, .ref ods, .long oh, .long ol], oC ot 6 [.int (nI dp), .long sh, .long sl], aQ G ods 256 dec, oC od 3 [.ref dq, .ref dh, .ref dl], aI G dq 4 pf] H := hP
  have hD : va_D A [oC ox 7 [.ref oc, .ref ot, .ref oo, .ref oe, .ref op, .ref ocs, .ref ods, .long oh, .long ol], oC ot 6 [.int (nI dp), .long sh, .long sl], aQ G ods 256 dec, oC od 3 [.ref dq, .ref dh, .ref dl], aI G dq 4 pf] := hD
  refine W.cs (cells' := 0) (slots' := 0) rfl rfl ?_
  refine W.eq (g2 := F0 m 5 ls []) rfl ?_
  refine lv_iload_n hx hb dCK_open_5 rfl (lv_at hl 2 rfl) ?_
  refine clCK_86 (As := [.int (nI c4)]) (rest := []) hx hb hml hown hts (k_CK_checkChannel l G (nI c4) (jIn_nI (by decide) hc)) hG hA hP hD hS [] rfl rfl (fun _ => rfl) rfl hl.1 rfl (Nat.le_of_ble_eq_true rfl) ⟨by decide, by decide⟩ ⟨by decide, by decide⟩ dCK_open_6 (fun _ H locs _ hP hD hS => ?_)
  have hP : va_P G.1 vwCl [oC ox 7 [.ref oc, .ref ot, .ref oo, .ref oe, .ref op, .ref ocs, .ref ods, .long oh, .long ol], oC ot 6 [.int (nI dp), .long sh, .long sl], aQ G ods 256 dec, oC od 3 [.ref dq, .ref dh, .ref dl], aI G dq 4 pf] H := hP
  have hD : va_D A [oC ox 7 [.ref oc, .ref ot, .ref oo, .ref oe, .ref op, .ref ocs, .ref ods, .long oh, .long ol], oC ot 6 [.int (nI dp), .long sh, .long sl], aQ G ods 256 dec, oC od 3 [.ref dq, .ref dh, .ref dl], aI G dq 4 pf] := hD
  refine W.cs (cells' := 0) (slots' := 0) rfl rfl ?_
  refine W.eq (g2 := F0 m 9 ls []) rfl ?_
  refine lv_aload_n hx hb dCK_open_9 rfl (lv_at hl 0 rfl) ?_
  refine gfCK_52 hx hb hts hown hG hP 0 rfl rfl dCK_open_10 ?_
  refine lv_iload_n hx hb dCK_open_13 rfl (lv_at hl 1 rfl) ?_
  refine ck_qald (v := .ref od) hx hb hG hP 2 rfl (by decide) dd (rfl) (by omega) (by rw [ho]; rfl) dCK_open_14 ?_
  refine lv_astore (lv' := [(9, .ref od), (0, .ref ox), (1, .int (nI dd)), (2, .int (nI c4)), (3, .long i1), (5, .long h2), (7, .long l2)]) hx hb dCK_open_15 hl (by decide) rfl (fun ls hl => ?_)
  refine lv_aload hx hb dCK_open_17 (lv_at hl 0 rfl) ?_
  refine lv_ifnull hx hb dCK_open_19 ?_
  refine lv_aload hx hb dCK_open_22 (lv_at hl 0 rfl) ?_
  refine gfCK_169 hx hb hts hown hG hP 3 rfl rfl dCK_open_24 ?_
  refine lv_iload_n hx hb dCK_open_27 rfl (lv_at hl 3 rfl) ?_
  refine ck_iald hx hb hG hP 4 rfl (by decide) c4 (rfl) (hc) dCK_open_28 ?_
  refine lv_iconst (v := (-1)) hx hb dCK_open_29 (by decide) ?_
  refine lv_icmp_ne (tgt := 43) hx hb dCK_open_30 rfl (fun h => absurd (hp) h) (fun _ => ?_)
  exact cxISE (sx := 180) (tx := "no key for that channel") hl0 hx hb hml hown hts htb hlk hG hP hS hl.1 (by decide) dCK_open_33 dCK_open_36 dCK_open_37 dCK_open_39 dCK_open_42 (by decide) (Nat.le_of_ble_eq_true rfl) (by decide) (by decide) (by decide) (by decide)
set_option maxHeartbeats 4000000 in
set_option maxRecDepth 100000 in
theorem k_CK_subset (l : Launch) (G : gG) (ox oc ot oo oe op ocs ods : Nat) (oh ol : Int64) (kk : Nat → Nat) (ks kv kw c4 : Nat) (hc : c4 < 4) (q sz n1 : Nat) (hq : 0 < q) (hq2 : q < 2 ^ 30) (hs : sz ≤ 128) (hn : n1 < sz) (h1 l1 : Int64) (fv fw : Nat → Int32) (b1 : Int32) : Ck l G yCK_subset cCK_subset 5 (some .int) { frames := 1, cells := 0, slots := 0, locals := 21 } [.ref ox, .int (nI c4), .int (nI n1), .int b1] [oC ox 7 [.ref oc, .ref ot, .ref oo, .ref oe, .ref op, .ref ocs, .ref ods, .long oh, .long ol], aH G ocs 4 (fun j => some (kk j)), oC (kk c4) 0 [.ref ks, .ref kv, .ref kw, .int (nI q), .int (nI sz), .long h1, .long l1], aI G kv 128 fv, aI G kw 128 fw] (some (.int (jIi b1 (fw n1) (fv n1)))) [oC ox 7 [.ref oc, .ref ot, .ref oo, .ref oe, .ref op, .ref ocs, .ref ods, .long oh, .long ol], aH G ocs 4 (fun j => some (kk j)), oC (kk c4) 0 [.ref ks, .ref kv, .ref kw, .int (nI q), .int (nI sz), .long h1, .long l1], aI G kv 128 fv, aI G kw 128 fw] := by
  refine Cq.of (by decide) (Nat.le_of_ble_eq_true rfl) ?_
  intro p e s m args below meth c A ls hx hb hr hml hts hown hlk hA hP hD hG hS hl
  have hl : lv_has ls 5 [(0, .ref ox), (1, .int (nI c4)), (2, .int (nI n1)), (3, .int b1)] := hl
  refine lv_iload_n hx hb dCK_subset_0 rfl (lv_at hl 1 rfl) ?_
  refine clCK_195 (As := [.int (nI c4)]) (rest := []) hx hb hml hown hts (k_CK_isChannel l G (nI c4)) hG hA hP hD hS [] rfl rfl (fun _ => rfl) rfl hl.1 rfl (Nat.le_of_ble_eq_true rfl) ⟨by decide, by decide⟩ ⟨by decide, by decide⟩ dCK_subset_1 (fun _ H locs _ hP hD hS => ?_)
  have hP : va_P G.1 vwCl [oC ox 7 [.ref oc, .ref ot, .ref oo, .ref oe, .ref op, .ref ocs, .ref ods, .long oh, .long ol], aH G ocs 4 (fun j => some (kk j)), oC (kk c4) 0 [.ref ks, .ref kv, .ref kw, .int (nI q), .int (nI sz), .long h1, .long l1], aI G kv 128 fv, aI G kw 128 fw] H := hP
  have hD : va_D A [oC ox 7 [.ref oc, .ref ot, .ref oo, .ref oe, .ref op, .ref ocs, .ref ods, .long oh, .long ol], aH G ocs 4 (fun j => some (kk j)), oC (kk c4) 0 [.ref ks, .ref kv, .ref kw, .int (nI q), .int (nI sz), .long h1, .long l1], aI G kv 128 fv, aI G kw 128 fw] := hD
  refine W.cs (cells' := 0) (slots' := 0) rfl rfl ?_
  refine W.eq (g2 := F0 m 4 ls [.int (jB (jIn 4 (nI c4)))]) rfl ?_
  refine lv_if_ne (tgt := 17) hx hb dCK_subset_4 rfl (fun _ => ?_) (fun h => absurd h (by rw [jIn_nI (by decide) hc]; decide))
  refine lv_aload_n hx hb dCK_subset_17 rfl (lv_at hl 0 rfl) ?_
  refine lv_iload_n hx hb dCK_subset_18 rfl (lv_at hl 1 rfl) ?_
  refine clCK_113 (As := [.int (nI c4)]) (rest := []) hx hb hml hown hts (k_CK_checkBegan l G ox oc ot oo oe op ocs ods oh ol kk ks kv kw c4 hc q hq hq2 (nI sz) h1 l1) hG hA hP hD hS 0 rfl [0, 1, 2] rfl rfl (fun _ => rfl) rfl hl.1 rfl (Nat.le_of_ble_eq_true rfl) ⟨by decide, by decide⟩ ⟨by decide, by decide⟩ dCK_subset_19 (fun _ H locs _ hP hD hS => ?_)
  have hP : va_P G.1 vwCl [oC ox 7 [.ref oc, .ref ot, .ref oo, .ref oe, .ref op, .ref ocs, .ref ods, .long oh, .long ol], aH G ocs 4 (fun j => some (kk j)), oC (kk c4) 0 [.ref ks, .ref kv, .ref kw, .int (nI q), .int (nI sz), .long h1, .long l1], aI G kv 128 fv, aI G kw 128 fw] H := hP
  have hD : va_D A [oC ox 7 [.ref oc, .ref ot, .ref oo, .ref oe, .ref op, .ref ocs, .ref ods, .long oh, .long ol], aH G ocs 4 (fun j => some (kk j)), oC (kk c4) 0 [.ref ks, .ref kv, .ref kw, .int (nI q), .int (nI sz), .long h1, .long l1], aI G kv 128 fv, aI G kw 128 fw] := hD
  refine W.cs (cells' := 0) (slots' := 0) rfl rfl ?_
  refine W.eq (g2 := F0 m 22 ls []) rfl ?_
  refine lv_aload_n hx hb dCK_subset_22 rfl (lv_at hl 0 rfl) ?_
  refine gfCK_46 hx hb hts hown hG hP 0 rfl rfl dCK_subset_23 ?_
  refine lv_iload_n hx hb dCK_subset_26 rfl (lv_at hl 1 rfl) ?_
  refine ck_hald (v := .ref (kk c4)) hx hb hG hP 1 rfl (by decide) c4 (rfl) (hc) (rfl) dCK_subset_27 ?_
  refine lv_astore (lv' := [(4, .ref (kk c4)), (0, .ref ox), (1, .int (nI c4)), (2, .int (nI n1)), (3, .int b1)]) hx hb dCK_subset_28 hl (by decide) rfl (fun ls hl => ?_)
  refine lv_iload_n hx hb dCK_subset_30 rfl (lv_at hl 3 rfl) ?_
  refine lv_if_lt (tgt := 43) hx hb dCK_subset_31 rfl (fun h => absurd h (nI_pos (by omega))) (fun _ => ?_)
  refine lv_iload_n hx hb dCK_subset_34 rfl (lv_at hl 3 rfl) ?_
  refine lv_aload hx hb dCK_subset_35 (lv_at hl 0 rfl) ?_
  refine gfCK_110 hx hb hts hown hG hP 2 rfl rfl dCK_subset_37 ?_
  refine lv_icmp_lt (tgt := 53) hx hb dCK_subset_40 rfl (fun _ => ?_) (fun h => absurd (nI_lt hn (by omega)) h)
  refine lv_iload_n hx hb dCK_subset_53 rfl (lv_at hl 4 rfl) ?_
  refine lv_if_eq (tgt := 67) hx hb dCK_subset_54 rfl (fun h9 => ?_) (fun h9 => ?_)
  · have b_h9 := decide_eq_true h9
    refine lv_aload hx hb dCK_subset_67 (lv_at hl 0 rfl) ?_
    refine gfCK_209 hx hb hts hown hG hP 2 rfl rfl dCK_subset_69 ?_
    refine lv_iload_n hx hb dCK_subset_72 rfl (lv_at hl 3 rfl) ?_
    refine ck_iald hx hb hG hP 3 rfl (by decide) n1 (rfl) (by omega) dCK_subset_73 ?_
    exact cq_iret () (trivial) hx hb hr hlk hP hS (by unfold jIi; rw [if_pos h9]) (rfl) dCK_subset_74
  · have b_h9 := decide_eq_false h9
    refine lv_aload hx hb dCK_subset_57 (lv_at hl 0 rfl) ?_
    refine gfCK_206 hx hb hts hown hG hP 2 rfl rfl dCK_subset_59 ?_
    refine lv_iload_n hx hb dCK_subset_62 rfl (lv_at hl 3 rfl) ?_
    refine ck_iald hx hb hG hP 4 rfl (by decide) n1 (rfl) (by omega) dCK_subset_63 ?_
    refine lv_goto (tgt := 74) hx hb dCK_subset_64 rfl ?_
    exact cq_iret () (trivial) hx hb hr hlk hP hS (by unfold jIi; rw [if_neg h9]) (rfl) dCK_subset_74
set_option maxHeartbeats 4000000 in
set_option maxRecDepth 100000 in
theorem x_CK_subset1 (l : Launch) (hl0 : l.stackTraces = false) (G : gG) (ox : Nat) (c1 n1 b1 : Int32) (hc : jIn 4 c1 = false) : Cx l G yCK_subset cCK_subset 5 (some .int) { frames := 6, cells := 1, slots := 6, locals := 82 } [.ref ox, .int c1, .int n1, .int b1] [] "java/lang/IllegalStateException" [] := by
  refine Cx.of (by decide) (Nat.le_of_ble_eq_true rfl) ?_
  intro p e s m args below meth c A ls hx hb hr hml hts hown hlk htb hA hP hD hG hS hl
  have hl : lv_has ls 5 [(0, .ref ox), (1, .int c1), (2, .int n1), (3, .int b1)] := hl
  refine lv_iload_n hx hb dCK_subset_0 rfl (lv_at hl 1 rfl) ?_
  refine clCK_195 (As := [.int c1]) (rest := []) hx hb hml hown hts (k_CK_isChannel l G c1) hG hA hP hD hS [] rfl rfl (fun _ => rfl) rfl hl.1 rfl (Nat.le_of_ble_eq_true rfl) ⟨by decide, by decide⟩ ⟨by decide, by decide⟩ dCK_subset_1 (fun _ H locs _ hP hD hS => ?_)
  have hP : va_P G.1 vwCl [] H := hP
  have hD : va_D A [] := hD
  refine W.cs (cells' := 0) (slots' := 0) rfl rfl ?_
  refine W.eq (g2 := F0 m 4 ls [.int (jB (jIn 4 c1))]) rfl ?_
  refine lv_if_ne (tgt := 17) hx hb dCK_subset_4 rfl (fun h => absurd (by rw [hc]; rfl) h) (fun _ => ?_)
  exact cxISE (sx := 199) (tx := "no such channel, so no period of it") hl0 hx hb hml hown hts htb hlk hG hP hS hl.1 (by decide) dCK_subset_7 dCK_subset_10 dCK_subset_11 dCK_subset_13 dCK_subset_16 (by decide) (Nat.le_of_ble_eq_true rfl) (by decide) (by decide) (by decide) (by decide)
set_option maxHeartbeats 4000000 in
set_option maxRecDepth 100000 in
theorem x_CK_subset2 (l : Launch) (hl0 : l.stackTraces = false) (G : gG) (ox oc ot oo oe op ocs ods : Nat) (oh ol : Int64) (kk : Nat → Nat) (ks kv kw c4 : Nat) (hc : c4 < 4) (s1 : Int32) (h1 l1 : Int64) (n1 b1 : Int32) : Cx l G yCK_subset cCK_subset 5 (some .int) { frames := 7, cells := 1, slots := 6, locals := 103 } [.ref ox, .int (nI c4), .int n1, .int b1] [oC ox 7 [.ref oc, .ref ot, .ref oo, .ref oe, .ref op, .ref ocs, .ref ods, .long oh, .long ol], aH G ocs 4 (fun j => some (kk j)), oC (kk c4) 0 [.ref ks, .ref kv, .ref kw, .int (nI 0), .int s1, .long h1, .long l1]] "java/lang/IllegalStateException" [oC ox 7 [.ref oc, .ref ot, .ref oo, .ref oe, .ref op, .ref ocs, .ref ods, .long oh, .long ol], aH G ocs 4 (fun j => some (kk j)), oC (kk c4) 0 [.ref ks, .ref kv, .ref kw, .int (nI 0), .int s1, .long h1, .long l1]] := by
  refine Cx.of (by decide) (Nat.le_of_ble_eq_true rfl) ?_
  intro p e s m args below meth c A ls hx hb hr hml hts hown hlk htb hA hP hD hG hS hl
  have hl : lv_has ls 5 [(0, .ref ox), (1, .int (nI c4)), (2, .int n1), (3, .int b1)] := hl
  refine lv_iload_n hx hb dCK_subset_0 rfl (lv_at hl 1 rfl) ?_
  refine clCK_195 (As := [.int (nI c4)]) (rest := []) hx hb hml hown hts (k_CK_isChannel l G (nI c4)) hG hA hP hD hS [] rfl rfl (fun _ => rfl) rfl hl.1 rfl (Nat.le_of_ble_eq_true rfl) ⟨by decide, by decide⟩ ⟨by decide, by decide⟩ dCK_subset_1 (fun _ H locs _ hP hD hS => ?_)
  have hP : va_P G.1 vwCl [oC ox 7 [.ref oc, .ref ot, .ref oo, .ref oe, .ref op, .ref ocs, .ref ods, .long oh, .long ol], aH G ocs 4 (fun j => some (kk j)), oC (kk c4) 0 [.ref ks, .ref kv, .ref kw, .int (nI 0), .int s1, .long h1, .long l1]] H := hP
  have hD : va_D A [oC ox 7 [.ref oc, .ref ot, .ref oo, .ref oe, .ref op, .ref ocs, .ref ods, .long oh, .long ol], aH G ocs 4 (fun j => some (kk j)), oC (kk c4) 0 [.ref ks, .ref kv, .ref kw, .int (nI 0), .int s1, .long h1, .long l1]] := hD
  refine W.cs (cells' := 0) (slots' := 0) rfl rfl ?_
  refine W.eq (g2 := F0 m 4 ls [.int (jB (jIn 4 (nI c4)))]) rfl ?_
  refine lv_if_ne (tgt := 17) hx hb dCK_subset_4 rfl (fun _ => ?_) (fun h => absurd h (by rw [jIn_nI (by decide) hc]; decide))
  refine lv_aload_n hx hb dCK_subset_17 rfl (lv_at hl 0 rfl) ?_
  refine lv_iload_n hx hb dCK_subset_18 rfl (lv_at hl 1 rfl) ?_
  exact cxCK_113 (As := [.int (nI c4)]) (rest := []) hx hb hml hown hts (x_CK_checkBegan l hl0 G ox oc ot oo oe op ocs ods oh ol kk ks kv kw c4 hc s1 h1 l1) hG hA hP hD hS 0 rfl [0, 1, 2] rfl rfl rfl rfl hl.1 rfl (Nat.le_of_ble_eq_true rfl) ⟨by decide, by decide⟩ ⟨by decide, by decide⟩ dCK_subset_19 htb hlk (by decide) (by decide)
set_option maxHeartbeats 4000000 in
set_option maxRecDepth 100000 in
theorem x_CK_subset3 (l : Launch) (hl0 : l.stackTraces = false) (G : gG) (ox oc ot oo oe op ocs ods : Nat) (oh ol : Int64) (kk : Nat → Nat) (ks kv kw c4 : Nat) (hc : c4 < 4) (q sz : Nat) (hq : 0 < q) (hq2 : q < 2 ^ 30) (h1 l1 : Int64) (n1 b1 : Int32) (hn : jIn sz n1 = false) : Cx l G yCK_subset cCK_subset 5 (some .int) { frames := 6, cells := 1, slots := 6, locals := 82 } [.ref ox, .int (nI c4), .int n1, .int b1] [oC ox 7 [.ref oc, .ref ot, .ref oo, .ref oe, .ref op, .ref ocs, .ref ods, .long oh, .long ol], aH G ocs 4 (fun j => some (kk j)), oC (kk c4) 0 [.ref ks, .ref kv, .ref kw, .int (nI q), .int (nI sz), .long h1, .long l1]] "java/lang/IndexOutOfBoundsException" [oC ox 7 [.ref oc, .ref ot, .ref oo, .ref oe, .ref op, .ref ocs, .ref ods, .long oh, .long ol], aH G ocs 4 (fun j => some (kk j)), oC (kk c4) 0 [.ref ks, .ref kv, .ref kw, .int (nI q), .int (nI sz), .long h1, .long l1]] := by
  refine Cx.of (by decide) (Nat.le_of_ble_eq_true rfl) ?_
  intro p e s m args below meth c A ls hx hb hr hml hts hown hlk htb hA hP hD hG hS hl
  have hl : lv_has ls 5 [(0, .ref ox), (1, .int (nI c4)), (2, .int n1), (3, .int b1)] := hl
  refine lv_iload_n hx hb dCK_subset_0 rfl (lv_at hl 1 rfl) ?_
  refine clCK_195 (As := [.int (nI c4)]) (rest := []) hx hb hml hown hts (k_CK_isChannel l G (nI c4)) hG hA hP hD hS [] rfl rfl (fun _ => rfl) rfl hl.1 rfl (Nat.le_of_ble_eq_true rfl) ⟨by decide, by decide⟩ ⟨by decide, by decide⟩ dCK_subset_1 (fun _ H locs _ hP hD hS => ?_)
  have hP : va_P G.1 vwCl [oC ox 7 [.ref oc, .ref ot, .ref oo, .ref oe, .ref op, .ref ocs, .ref ods, .long oh, .long ol], aH G ocs 4 (fun j => some (kk j)), oC (kk c4) 0 [.ref ks, .ref kv, .ref kw, .int (nI q), .int (nI sz), .long h1, .long l1]] H := hP
  have hD : va_D A [oC ox 7 [.ref oc, .ref ot, .ref oo, .ref oe, .ref op, .ref ocs, .ref ods, .long oh, .long ol], aH G ocs 4 (fun j => some (kk j)), oC (kk c4) 0 [.ref ks, .ref kv, .ref kw, .int (nI q), .int (nI sz), .long h1, .long l1]] := hD
  refine W.cs (cells' := 0) (slots' := 0) rfl rfl ?_
  refine W.eq (g2 := F0 m 4 ls [.int (jB (jIn 4 (nI c4)))]) rfl ?_
  refine lv_if_ne (tgt := 17) hx hb dCK_subset_4 rfl (fun _ => ?_) (fun h => absurd h (by rw [jIn_nI (by decide) hc]; decide))
  refine lv_aload_n hx hb dCK_subset_17 rfl (lv_at hl 0 rfl) ?_
  refine lv_iload_n hx hb dCK_subset_18 rfl (lv_at hl 1 rfl) ?_
  refine clCK_113 (As := [.int (nI c4)]) (rest := []) hx hb hml hown hts (k_CK_checkBegan l G ox oc ot oo oe op ocs ods oh ol kk ks kv kw c4 hc q hq hq2 (nI sz) h1 l1) hG hA hP hD hS 0 rfl [0, 1, 2] rfl rfl (fun _ => rfl) rfl hl.1 rfl (Nat.le_of_ble_eq_true rfl) ⟨by decide, by decide⟩ ⟨by decide, by decide⟩ dCK_subset_19 (fun _ H locs _ hP hD hS => ?_)
  have hP : va_P G.1 vwCl [oC ox 7 [.ref oc, .ref ot, .ref oo, .ref oe, .ref op, .ref ocs, .ref ods, .long oh, .long ol], aH G ocs 4 (fun j => some (kk j)), oC (kk c4) 0 [.ref ks, .ref kv, .ref kw, .int (nI q), .int (nI sz), .long h1, .long l1]] H := hP
  have hD : va_D A [oC ox 7 [.ref oc, .ref ot, .ref oo, .ref oe, .ref op, .ref ocs, .ref ods, .long oh, .long ol], aH G ocs 4 (fun j => some (kk j)), oC (kk c4) 0 [.ref ks, .ref kv, .ref kw, .int (nI q), .int (nI sz), .long h1, .long l1]] := hD
  refine W.cs (cells' := 0) (slots' := 0) rfl rfl ?_
  refine W.eq (g2 := F0 m 22 ls []) rfl ?_
  refine lv_aload_n hx hb dCK_subset_22 rfl (lv_at hl 0 rfl) ?_
  refine gfCK_46 hx hb hts hown hG hP 0 rfl rfl dCK_subset_23 ?_
  refine lv_iload_n hx hb dCK_subset_26 rfl (lv_at hl 1 rfl) ?_
  refine ck_hald (v := .ref (kk c4)) hx hb hG hP 1 rfl (by decide) c4 (rfl) (hc) (rfl) dCK_subset_27 ?_
  refine lv_astore (lv' := [(4, .ref (kk c4)), (0, .ref ox), (1, .int (nI c4)), (2, .int n1), (3, .int b1)]) hx hb dCK_subset_28 hl (by decide) rfl (fun ls hl => ?_)
  refine lv_iload_n hx hb dCK_subset_30 rfl (lv_at hl 3 rfl) ?_
  refine lv_if_lt (tgt := 43) hx hb dCK_subset_31 rfl (fun h8 => ?_) (fun h8 => ?_)
  · have b_h8 := decide_eq_true h8
    exact cxIOB (sx := 203) (tx := "no such subset") hl0 hx hb hml hown hts htb hlk hG hP hS hl.1 (by decide) dCK_subset_43 dCK_subset_46 dCK_subset_47 dCK_subset_49 dCK_subset_52 (by decide) (Nat.le_of_ble_eq_true rfl) (by decide) (by decide) (by decide) (by decide)
  · have b_h8 := decide_eq_false h8
    refine lv_iload_n hx hb dCK_subset_34 rfl (lv_at hl 3 rfl) ?_
    refine lv_aload hx hb dCK_subset_35 (lv_at hl 0 rfl) ?_
    refine gfCK_110 hx hb hts hown hG hP 2 rfl rfl dCK_subset_37 ?_
    refine lv_icmp_lt (tgt := 53) hx hb dCK_subset_40 rfl (fun h => absurd h (jIn_lt hn h8)) (fun _ => ?_)
    exact cxIOB (sx := 203) (tx := "no such subset") hl0 hx hb hml hown hts htb hlk hG hP hS hl.1 (by decide) dCK_subset_43 dCK_subset_46 dCK_subset_47 dCK_subset_49 dCK_subset_52 (by decide) (Nat.le_of_ble_eq_true rfl) (by decide) (by decide) (by decide) (by decide)
set_option maxHeartbeats 4000000 in
set_option maxRecDepth 100000 in
theorem k_CK_reach (l : Launch) (G : gG) (ox oc ot oo oe op ocs ods : Nat) (oh ol : Int64) (dp : Nat) (hdp : dp ≤ 8) (sh sl : Int64) (dec : Nat → Option Nat) (dd : Nat) (hd : dd < 2 ^ dp) (kk : Nat → Nat) (ks kv kw c4 : Nat) (hc : c4 < 4) (q sz od : Nat) (hq : 0 < q) (hq2 : q < 2 ^ 30) (hs : sz ≤ 128) (ho : dec dd = some od) (h1 l1 : Int64) (fv fw : Nat → Int32) : Ck l G yCK_reach cCK_reach 6 (some .int) { frames := 3, cells := 0, slots := 0, locals := 68 } [.ref ox, .int (nI dd), .int (nI c4)] [oC ox 7 [.ref oc, .ref ot, .ref oo, .ref oe, .ref op, .ref ocs, .ref ods, .long oh, .long ol], oC ot 6 [.int (nI dp), .long sh, .long sl], aH G ocs 4 (fun j => some (kk j)), oC (kk c4) 0 [.ref ks, .ref kv, .ref kw, .int (nI q), .int (nI sz), .long h1, .long l1], aQ G ods 256 dec, aI G kv 128 fv, aI G kw 128 fw] (some (.int (nI (cntR dp (nI dd) fv fw sz)))) [oC ox 7 [.ref oc, .ref ot, .ref oo, .ref oe, .ref op, .ref ocs, .ref ods, .long oh, .long ol], oC ot 6 [.int (nI dp), .long sh, .long sl], aH G ocs 4 (fun j => some (kk j)), oC (kk c4) 0 [.ref ks, .ref kv, .ref kw, .int (nI q), .int (nI sz), .long h1, .long l1], aQ G ods 256 dec, aI G kv 128 fv, aI G kw 128 fw] := by
  refine Cq.of (by decide) (Nat.le_of_ble_eq_true rfl) ?_
  intro p e s m args below meth c A ls hx hb hr hml hts hown hlk hA hP hD hG hS hl
  have hp2 : 2 ^ dp ≤ 256 := Nat.pow_le_pow_right (n := 2) (by decide) hdp
  have hp1 : 1 ≤ 2 ^ dp := Nat.one_le_two_pow
  have hl : lv_has ls 6 [(0, .ref ox), (1, .int (nI dd)), (2, .int (nI c4))] := hl
  refine lv_aload_n hx hb dCK_reach_0 rfl (lv_at hl 0 rfl) ?_
  refine lv_iload_n hx hb dCK_reach_1 rfl (lv_at hl 1 rfl) ?_
  refine clCK_72 (As := [.int (nI dd)]) (rest := []) hx hb hml hown hts (k_CK_checkDecoder l G ox oc ot oo oe op ocs ods oh ol dp hdp sh sl dd hd) hG hA hP hD hS 0 rfl [0, 1] rfl rfl (fun _ => rfl) rfl hl.1 rfl (Nat.le_of_ble_eq_true rfl) ⟨by decide, by decide⟩ ⟨by decide, by decide⟩ dCK_reach_2 (fun _ H locs _ hP hD hS => ?_)
  have hP : va_P G.1 vwCl [oC ox 7 [.ref oc, .ref ot, .ref oo, .ref oe, .ref op, .ref ocs, .ref ods, .long oh, .long ol], oC ot 6 [.int (nI dp), .long sh, .long sl], aH G ocs 4 (fun j => some (kk j)), oC (kk c4) 0 [.ref ks, .ref kv, .ref kw, .int (nI q), .int (nI sz), .long h1, .long l1], aQ G ods 256 dec, aI G kv 128 fv, aI G kw 128 fw] H := hP
  have hD : va_D A [oC ox 7 [.ref oc, .ref ot, .ref oo, .ref oe, .ref op, .ref ocs, .ref ods, .long oh, .long ol], oC ot 6 [.int (nI dp), .long sh, .long sl], aH G ocs 4 (fun j => some (kk j)), oC (kk c4) 0 [.ref ks, .ref kv, .ref kw, .int (nI q), .int (nI sz), .long h1, .long l1], aQ G ods 256 dec, aI G kv 128 fv, aI G kw 128 fw] := hD
  refine W.cs (cells' := 0) (slots' := 0) rfl rfl ?_
  refine W.eq (g2 := F0 m 5 ls []) rfl ?_
  refine lv_iload_n hx hb dCK_reach_5 rfl (lv_at hl 2 rfl) ?_
  refine clCK_86 (As := [.int (nI c4)]) (rest := []) hx hb hml hown hts (k_CK_checkChannel l G (nI c4) (jIn_nI (by decide) hc)) hG hA hP hD hS [] rfl rfl (fun _ => rfl) rfl hl.1 rfl (Nat.le_of_ble_eq_true rfl) ⟨by decide, by decide⟩ ⟨by decide, by decide⟩ dCK_reach_6 (fun _ H locs _ hP hD hS => ?_)
  have hP : va_P G.1 vwCl [oC ox 7 [.ref oc, .ref ot, .ref oo, .ref oe, .ref op, .ref ocs, .ref ods, .long oh, .long ol], oC ot 6 [.int (nI dp), .long sh, .long sl], aH G ocs 4 (fun j => some (kk j)), oC (kk c4) 0 [.ref ks, .ref kv, .ref kw, .int (nI q), .int (nI sz), .long h1, .long l1], aQ G ods 256 dec, aI G kv 128 fv, aI G kw 128 fw] H := hP
  have hD : va_D A [oC ox 7 [.ref oc, .ref ot, .ref oo, .ref oe, .ref op, .ref ocs, .ref ods, .long oh, .long ol], oC ot 6 [.int (nI dp), .long sh, .long sl], aH G ocs 4 (fun j => some (kk j)), oC (kk c4) 0 [.ref ks, .ref kv, .ref kw, .int (nI q), .int (nI sz), .long h1, .long l1], aQ G ods 256 dec, aI G kv 128 fv, aI G kw 128 fw] := hD
  refine W.cs (cells' := 0) (slots' := 0) rfl rfl ?_
  refine W.eq (g2 := F0 m 9 ls []) rfl ?_
  refine lv_aload_n hx hb dCK_reach_9 rfl (lv_at hl 0 rfl) ?_
  refine lv_iload_n hx hb dCK_reach_10 rfl (lv_at hl 2 rfl) ?_
  refine clCK_113 (As := [.int (nI c4)]) (rest := []) hx hb hml hown hts (k_CK_checkBegan l G ox oc ot oo oe op ocs ods oh ol kk ks kv kw c4 hc q hq hq2 (nI sz) h1 l1) hG hA hP hD hS 0 rfl [0, 2, 3] rfl rfl (fun _ => rfl) rfl hl.1 rfl (Nat.le_of_ble_eq_true rfl) ⟨by decide, by decide⟩ ⟨by decide, by decide⟩ dCK_reach_11 (fun _ H locs _ hP hD hS => ?_)
  have hP : va_P G.1 vwCl [oC ox 7 [.ref oc, .ref ot, .ref oo, .ref oe, .ref op, .ref ocs, .ref ods, .long oh, .long ol], oC ot 6 [.int (nI dp), .long sh, .long sl], aH G ocs 4 (fun j => some (kk j)), oC (kk c4) 0 [.ref ks, .ref kv, .ref kw, .int (nI q), .int (nI sz), .long h1, .long l1], aQ G ods 256 dec, aI G kv 128 fv, aI G kw 128 fw] H := hP
  have hD : va_D A [oC ox 7 [.ref oc, .ref ot, .ref oo, .ref oe, .ref op, .ref ocs, .ref ods, .long oh, .long ol], oC ot 6 [.int (nI dp), .long sh, .long sl], aH G ocs 4 (fun j => some (kk j)), oC (kk c4) 0 [.ref ks, .ref kv, .ref kw, .int (nI q), .int (nI sz), .long h1, .long l1], aQ G ods 256 dec, aI G kv 128 fv, aI G kw 128 fw] := hD
  refine W.cs (cells' := 0) (slots' := 0) rfl rfl ?_
  refine W.eq (g2 := F0 m 14 ls []) rfl ?_
  refine lv_aload_n hx hb dCK_reach_14 rfl (lv_at hl 0 rfl) ?_
  refine lv_iload_n hx hb dCK_reach_15 rfl (lv_at hl 1 rfl) ?_
  refine clCK_212 (As := [.int (nI dd)]) (rest := []) hx hb hml hown hts (k_CK_checkInstalled l G ox oc ot oo oe op ocs ods oh ol dec dd od (by omega) ho) hG hA hP hD hS 0 rfl [0, 4] rfl rfl (fun _ => rfl) rfl hl.1 rfl (Nat.le_of_ble_eq_true rfl) ⟨by decide, by decide⟩ ⟨by decide, by decide⟩ dCK_reach_16 (fun _ H locs _ hP hD hS => ?_)
  have hP : va_P G.1 vwCl [oC ox 7 [.ref oc, .ref ot, .ref oo, .ref oe, .ref op, .ref ocs, .ref ods, .long oh, .long ol], oC ot 6 [.int (nI dp), .long sh, .long sl], aH G ocs 4 (fun j => some (kk j)), oC (kk c4) 0 [.ref ks, .ref kv, .ref kw, .int (nI q), .int (nI sz), .long h1, .long l1], aQ G ods 256 dec, aI G kv 128 fv, aI G kw 128 fw] H := hP
  have hD : va_D A [oC ox 7 [.ref oc, .ref ot, .ref oo, .ref oe, .ref op, .ref ocs, .ref ods, .long oh, .long ol], oC ot 6 [.int (nI dp), .long sh, .long sl], aH G ocs 4 (fun j => some (kk j)), oC (kk c4) 0 [.ref ks, .ref kv, .ref kw, .int (nI q), .int (nI sz), .long h1, .long l1], aQ G ods 256 dec, aI G kv 128 fv, aI G kw 128 fw] := hD
  refine W.cs (cells' := 0) (slots' := 0) rfl rfl ?_
  refine W.eq (g2 := F0 m 19 ls []) rfl ?_
  refine lv_aload_n hx hb dCK_reach_19 rfl (lv_at hl 0 rfl) ?_
  refine gfCK_46 hx hb hts hown hG hP 0 rfl rfl dCK_reach_20 ?_
  refine lv_iload_n hx hb dCK_reach_23 rfl (lv_at hl 2 rfl) ?_
  refine ck_hald (v := .ref (kk c4)) hx hb hG hP 2 rfl (by decide) c4 (rfl) (hc) (rfl) dCK_reach_24 ?_
  refine lv_astore_n (lv' := [(3, .ref (kk c4)), (0, .ref ox), (1, .int (nI dd)), (2, .int (nI c4))]) hx hb dCK_reach_25 rfl hl (by decide) rfl (fun ls hl => ?_)
  refine lv_iconst (v := nI 0) hx hb dCK_reach_26 (by decide) ?_
  refine lv_istore (lv' := [(4, .int (nI 0)), (3, .ref (kk c4)), (0, .ref ox), (1, .int (nI dd)), (2, .int (nI c4))]) hx hb dCK_reach_27 hl (by decide) rfl (fun ls hl => ?_)
  refine lv_iconst (v := nI 0) hx hb dCK_reach_29 (by decide) ?_
  refine lv_istore (lv' := [(5, .int (nI 0)), (4, .int (nI 0)), (3, .ref (kk c4)), (0, .ref ox), (1, .int (nI dd)), (2, .int (nI c4))]) hx hb dCK_reach_30 hl (by decide) rfl (fun ls hl => ?_)
  have loop : ∀ (k : Nat) (n : Nat) (H : Heap) (locs : List Loc) (ls : Array Slot), n + k = sz → va_P G.1 vwCl [oC ox 7 [.ref oc, .ref ot, .ref oo, .ref oe, .ref op, .ref ocs, .ref ods, .long oh, .long ol], oC ot 6 [.int (nI dp), .long sh, .long sl], aH G ocs 4 (fun j => some (kk j)), oC (kk c4) 0 [.ref ks, .ref kv, .ref kw, .int (nI q), .int (nI sz), .long h1, .long l1], aQ G ods 256 dec, aI G kv 128 fv, aI G kw 128 fw] H → va_D A [oC ox 7 [.ref oc, .ref ot, .ref oo, .ref oe, .ref op, .ref ocs, .ref ods, .long oh, .long ol], oC ot 6 [.int (nI dp), .long sh, .long sl], aH G ocs 4 (fun j => some (kk j)), oC (kk c4) 0 [.ref ks, .ref kv, .ref kw, .int (nI q), .int (nI sz), .long h1, .long l1], aQ G ods 256 dec, aI G kv 128 fv, aI G kw 128 fw] → va_S A s.heap H locs → lv_has ls 6 [(0, .ref ox), (1, .int (nI dd)), (3, .ref (kk c4)), (4, .int (nI (cntR dp (nI dd) fv fw n))), (5, .int (nI n))] → W p l e { frames := 3, cells := 0, slots := 0, locals := 68 } s m args below meth c H locs 0 0 (MQ below (cq_out G (S := Unit) (fun _ => True) (fun _ => (some (.int (nI (cntR dp (nI dd) fv fw sz))))) (fun _ => [oC ox 7 [.ref oc, .ref ot, .ref oo, .ref oe, .ref op, .ref ocs, .ref ods, .long oh, .long ol], oC ot 6 [.int (nI dp), .long sh, .long sl], aH G ocs 4 (fun j => some (kk j)), oC (kk c4) 0 [.ref ks, .ref kv, .ref kw, .int (nI q), .int (nI sz), .long h1, .long l1], aQ G ods 256 dec, aI G kv 128 fv, aI G kw 128 fw]) A) args s 0 0 A) (F0 m 32 ls []) := by
    intro k
    induction k with
    | zero =>
      intro n H locs ls hk hP hD hS hl
      refine lv_iload hx hb dCK_reach_32 (lv_at hl 4 rfl) ?_
      refine lv_aload_n hx hb dCK_reach_34 rfl (lv_at hl 2 rfl) ?_
      refine gfCK_110 hx hb hts hown hG hP 3 rfl rfl dCK_reach_35 ?_
      refine lv_icmp_ge (tgt := 75) hx hb dCK_reach_38 rfl (fun _ => ?_) (fun h => absurd (nI_le (by omega) (by omega)) h)
      refine lv_iload hx hb dCK_reach_75 (lv_at hl 3 rfl) ?_
      exact cq_iret () (trivial) hx hb hr hlk hP hS (by rw [show n = sz by omega]) (rfl) dCK_reach_77
    | succ k ih =>
      intro n H locs ls hk hP hD hS hl
      have hcn := cntR_le dp (nI dd) fv fw n
      refine lv_iload hx hb dCK_reach_32 (lv_at hl 4 rfl) ?_
      refine lv_aload_n hx hb dCK_reach_34 rfl (lv_at hl 2 rfl) ?_
      refine gfCK_110 hx hb hts hown hG hP 3 rfl rfl dCK_reach_35 ?_
      refine lv_icmp_ge (tgt := 75) hx hb dCK_reach_38 rfl (fun h => absurd h (nI_ge (by omega) (by omega))) (fun _ => ?_)
      refine lv_aload_n hx hb dCK_reach_41 rfl (lv_at hl 0 rfl) ?_
      refine gfCK_19 hx hb hts hown hG hP 0 rfl rfl dCK_reach_42 ?_
      refine lv_iload_n hx hb dCK_reach_45 rfl (lv_at hl 1 rfl) ?_
      refine lv_aload_n hx hb dCK_reach_46 rfl (lv_at hl 2 rfl) ?_
      refine gfCK_209 hx hb hts hown hG hP 3 rfl rfl dCK_reach_47 ?_
      refine lv_iload hx hb dCK_reach_50 (lv_at hl 4 rfl) ?_
      refine ck_iald hx hb hG hP 5 rfl (by decide) n (rfl) (by omega) dCK_reach_52 ?_
      refine lv_aload_n hx hb dCK_reach_53 rfl (lv_at hl 2 rfl) ?_
      refine gfCK_206 hx hb hts hown hG hP 3 rfl rfl dCK_reach_54 ?_
      refine lv_iload hx hb dCK_reach_57 (lv_at hl 4 rfl) ?_
      refine ck_iald hx hb hG hP 6 rfl (by decide) n (rfl) (by omega) dCK_reach_59 ?_
      refine clCK_151 (As := [.int (nI dd), .int (fv n), .int (fw n)]) (rest := []) hx hb hml hown hts (k_Tr_derives l G ot dp hdp sh sl (nI dd) (fv n) (fw n)) hG hA hP hD hS 1 rfl [1] rfl rfl (fun _ => rfl) rfl hl.1 rfl (Nat.le_of_ble_eq_true rfl) ⟨by decide, by decide⟩ ⟨by decide, by decide⟩ dCK_reach_60 (fun _ H locs _ hP hD hS => ?_)
      have hP : va_P G.1 vwCl [oC ox 7 [.ref oc, .ref ot, .ref oo, .ref oe, .ref op, .ref ocs, .ref ods, .long oh, .long ol], oC ot 6 [.int (nI dp), .long sh, .long sl], aH G ocs 4 (fun j => some (kk j)), oC (kk c4) 0 [.ref ks, .ref kv, .ref kw, .int (nI q), .int (nI sz), .long h1, .long l1], aQ G ods 256 dec, aI G kv 128 fv, aI G kw 128 fw] H := hP
      have hD : va_D A [oC ox 7 [.ref oc, .ref ot, .ref oo, .ref oe, .ref op, .ref ocs, .ref ods, .long oh, .long ol], oC ot 6 [.int (nI dp), .long sh, .long sl], aH G ocs 4 (fun j => some (kk j)), oC (kk c4) 0 [.ref ks, .ref kv, .ref kw, .int (nI q), .int (nI sz), .long h1, .long l1], aQ G ods 256 dec, aI G kv 128 fv, aI G kw 128 fw] := hD
      refine W.cs (cells' := 0) (slots' := 0) rfl rfl ?_
      refine W.eq (g2 := F0 m 63 ls [.int (jB (jDer dp (nI dd) (fv n) (fw n)))]) rfl ?_
      refine lv_if_eq (tgt := 69) hx hb dCK_reach_63 rfl (fun h8 => ?_) (fun h8 => ?_)
      · have h9 : ¬ jDer dp (nI dd) (fv n) (fw n) = true := by rw [(jB_0 _).mp h8]; decide
        refine lv_iinc (v := nI (n + 1)) (lv' := [(5, .int (nI (n + 1))), (0, .ref ox), (1, .int (nI dd)), (3, .ref (kk c4)), (4, .int (nI (cntR dp (nI dd) fv fw n)))]) hx hb dCK_reach_69 hl (k := 4) rfl (nI_1 n) (by decide) rfl (fun ls hl => ?_)
        refine lv_goto (tgt := 32) hx hb dCK_reach_72 rfl ?_
        have e1 : cntR dp (nI dd) fv fw (n + 1) = (cntR dp (nI dd) fv fw n) := if_neg h9
        exact ih (n + 1) _ _ _ (by omega) hP hD hS (by rw [e1]; exact lv_sub hl [1, 2, 3, 4, 0] rfl)
      · have h9 : jDer dp (nI dd) (fv n) (fw n) = true := (jB_n0 _).mp h8
        refine lv_iinc (v := nI (cntR dp (nI dd) fv fw n + 1)) (lv' := [(4, .int (nI (cntR dp (nI dd) fv fw n + 1))), (0, .ref ox), (1, .int (nI dd)), (3, .ref (kk c4)), (5, .int (nI n))]) hx hb dCK_reach_66 hl (k := 3) rfl (nI_1 _) (by decide) rfl (fun ls hl => ?_)
        refine lv_iinc (v := nI (n + 1)) (lv' := [(5, .int (nI (n + 1))), (4, .int (nI (cntR dp (nI dd) fv fw n + 1))), (0, .ref ox), (1, .int (nI dd)), (3, .ref (kk c4))]) hx hb dCK_reach_69 hl (k := 4) rfl (nI_1 n) (by decide) rfl (fun ls hl => ?_)
        refine lv_goto (tgt := 32) hx hb dCK_reach_72 rfl ?_
        have e1 : cntR dp (nI dd) fv fw (n + 1) = (cntR dp (nI dd) fv fw n + 1) := if_pos h9
        exact ih (n + 1) _ _ _ (by omega) hP hD hS (by rw [e1]; exact lv_sub hl [2, 3, 4, 1, 0] rfl)
  exact loop sz 0 _ _ _ (by omega) hP hD hS (lv_sub hl [3, 4, 2, 1, 0] rfl)
set_option maxHeartbeats 4000000 in
set_option maxRecDepth 100000 in
theorem x_CK_reach1 (l : Launch) (hl0 : l.stackTraces = false) (G : gG) (ox oc ot oo oe op ocs ods : Nat) (oh ol : Int64) (dp : Nat) (hdp : dp ≤ 8) (sh sl : Int64) (d1 c1 : Int32) (hd : jIn (2 ^ dp) d1 = false) : Cx l G yCK_reach cCK_reach 6 (some .int) { frames := 7, cells := 1, slots := 6, locals := 103 } [.ref ox, .int d1, .int c1] [oC ox 7 [.ref oc, .ref ot, .ref oo, .ref oe, .ref op, .ref ocs, .ref ods, .long oh, .long ol], oC ot 6 [.int (nI dp), .long sh, .long sl]] "java/lang/IndexOutOfBoundsException" [oC ox 7 [.ref oc, .ref ot, .ref oo, .ref oe, .ref op, .ref ocs, .ref ods, .long oh, .long ol], oC ot 6 [.int (nI dp), .long sh, .long sl]] := by
  refine Cx.of (by decide) (Nat.le_of_ble_eq_true rfl) ?_
  intro p e s m args below meth c A ls hx hb hr hml hts hown hlk htb hA hP hD hG hS hl
  have hl : lv_has ls 6 [(0, .ref ox), (1, .int d1), (2, .int c1)] := hl
  refine lv_aload_n hx hb dCK_reach_0 rfl (lv_at hl 0 rfl) ?_
  refine lv_iload_n hx hb dCK_reach_1 rfl (lv_at hl 1 rfl) ?_
  exact cxCK_72 (As := [.int d1]) (rest := []) hx hb hml hown hts (x_CK_checkDecoder l hl0 G ox oc ot oo oe op ocs ods oh ol dp hdp sh sl d1 hd) hG hA hP hD hS 0 rfl [0, 1] rfl rfl rfl rfl hl.1 rfl (Nat.le_of_ble_eq_true rfl) ⟨by decide, by decide⟩ ⟨by decide, by decide⟩ dCK_reach_2 htb hlk (by decide) (by decide)
set_option maxHeartbeats 4000000 in
set_option maxRecDepth 100000 in
theorem x_CK_reach2 (l : Launch) (hl0 : l.stackTraces = false) (G : gG) (ox oc ot oo oe op ocs ods : Nat) (oh ol : Int64) (dp : Nat) (hdp : dp ≤ 8) (sh sl : Int64) (dd : Nat) (hd : dd < 2 ^ dp) (c1 : Int32) (hc : jIn 4 c1 = false) : Cx l G yCK_reach cCK_reach 6 (some .int) { frames := 7, cells := 1, slots := 6, locals := 102 } [.ref ox, .int (nI dd), .int c1] [oC ox 7 [.ref oc, .ref ot, .ref oo, .ref oe, .ref op, .ref ocs, .ref ods, .long oh, .long ol], oC ot 6 [.int (nI dp), .long sh, .long sl]] "java/lang/IndexOutOfBoundsException" [oC ox 7 [.ref oc, .ref ot, .ref oo, .ref oe, .ref op, .ref ocs, .ref ods, .long oh, .long ol], oC ot 6 [.int (nI dp), .long sh, .long sl]] := by
  refine Cx.of (by decide) (Nat.le_of_ble_eq_true rfl) ?_
  intro p e s m args below meth c A ls hx hb hr hml hts hown hlk htb hA hP hD hG hS hl
  have hl : lv_has ls 6 [(0, .ref ox), (1, .int (nI dd)), (2, .int c1)] := hl
  refine lv_aload_n hx hb dCK_reach_0 rfl (lv_at hl 0 rfl) ?_
  refine lv_iload_n hx hb dCK_reach_1 rfl (lv_at hl 1 rfl) ?_
  refine clCK_72 (As := [.int (nI dd)]) (rest := []) hx hb hml hown hts (k_CK_checkDecoder l G ox oc ot oo oe op ocs ods oh ol dp hdp sh sl dd hd) hG hA hP hD hS 0 rfl [0, 1] rfl rfl (fun _ => rfl) rfl hl.1 rfl (Nat.le_of_ble_eq_true rfl) ⟨by decide, by decide⟩ ⟨by decide, by decide⟩ dCK_reach_2 (fun _ H locs _ hP hD hS => ?_)
  have hP : va_P G.1 vwCl [oC ox 7 [.ref oc, .ref ot, .ref oo, .ref oe, .ref op, .ref ocs, .ref ods, .long oh, .long ol], oC ot 6 [.int (nI dp), .long sh, .long sl]] H := hP
  have hD : va_D A [oC ox 7 [.ref oc, .ref ot, .ref oo, .ref oe, .ref op, .ref ocs, .ref ods, .long oh, .long ol], oC ot 6 [.int (nI dp), .long sh, .long sl]] := hD
  refine W.cs (cells' := 0) (slots' := 0) rfl rfl ?_
  refine W.eq (g2 := F0 m 5 ls []) rfl ?_
  refine lv_iload_n hx hb dCK_reach_5 rfl (lv_at hl 2 rfl) ?_
  exact cxCK_86 (As := [.int c1]) (rest := []) hx hb hml hown hts (x_CK_checkChannel l hl0 G c1 hc) hG hA hP hD hS [] rfl rfl rfl rfl hl.1 rfl (Nat.le_of_ble_eq_true rfl) ⟨by decide, by decide⟩ ⟨by decide, by decide⟩ dCK_reach_6 htb hlk (by decide) (by decide)
set_option maxHeartbeats 4000000 in
set_option maxRecDepth 100000 in
theorem x_CK_reach3 (l : Launch) (hl0 : l.stackTraces = false) (G : gG) (ox oc ot oo oe op ocs ods : Nat) (oh ol : Int64) (dp : Nat) (hdp : dp ≤ 8) (sh sl : Int64) (dd : Nat) (hd : dd < 2 ^ dp) (kk : Nat → Nat) (ks kv kw c4 : Nat) (hc : c4 < 4) (s1 : Int32) (h1 l1 : Int64) : Cx l G yCK_reach cCK_reach 6 (some .int) { frames := 7, cells := 1, slots := 6, locals := 103 } [.ref ox, .int (nI dd), .int (nI c4)] [oC ox 7 [.ref oc, .ref ot, .ref oo, .ref oe, .ref op, .ref ocs, .ref ods, .long oh, .long ol], oC ot 6 [.int (nI dp), .long sh, .long sl], aH G ocs 4 (fun j => some (kk j)), oC (kk c4) 0 [.ref ks, .ref kv, .ref kw, .int (nI 0), .int s1, .long h1, .long l1]] "java/lang/IllegalStateException" [oC ox 7 [.ref oc, .ref ot, .ref oo, .ref oe, .ref op, .ref ocs, .ref ods, .long oh, .long ol], oC ot 6 [.int (nI dp), .long sh, .long sl], aH G ocs 4 (fun j => some (kk j)), oC (kk c4) 0 [.ref ks, .ref kv, .ref kw, .int (nI 0), .int s1, .long h1, .long l1]] := by
  refine Cx.of (by decide) (Nat.le_of_ble_eq_true rfl) ?_
  intro p e s m args below meth c A ls hx hb hr hml hts hown hlk htb hA hP hD hG hS hl
  have hl : lv_has ls 6 [(0, .ref ox), (1, .int (nI dd)), (2, .int (nI c4))] := hl
  refine lv_aload_n hx hb dCK_reach_0 rfl (lv_at hl 0 rfl) ?_
  refine lv_iload_n hx hb dCK_reach_1 rfl (lv_at hl 1 rfl) ?_
  refine clCK_72 (As := [.int (nI dd)]) (rest := []) hx hb hml hown hts (k_CK_checkDecoder l G ox oc ot oo oe op ocs ods oh ol dp hdp sh sl dd hd) hG hA hP hD hS 0 rfl [0, 1] rfl rfl (fun _ => rfl) rfl hl.1 rfl (Nat.le_of_ble_eq_true rfl) ⟨by decide, by decide⟩ ⟨by decide, by decide⟩ dCK_reach_2 (fun _ H locs _ hP hD hS => ?_)
  have hP : va_P G.1 vwCl [oC ox 7 [.ref oc, .ref ot, .ref oo, .ref oe, .ref op, .ref ocs, .ref ods, .long oh, .long ol], oC ot 6 [.int (nI dp), .long sh, .long sl], aH G ocs 4 (fun j => some (kk j)), oC (kk c4) 0 [.ref ks, .ref kv, .ref kw, .int (nI 0), .int s1, .long h1, .long l1]] H := hP
  have hD : va_D A [oC ox 7 [.ref oc, .ref ot, .ref oo, .ref oe, .ref op, .ref ocs, .ref ods, .long oh, .long ol], oC ot 6 [.int (nI dp), .long sh, .long sl], aH G ocs 4 (fun j => some (kk j)), oC (kk c4) 0 [.ref ks, .ref kv, .ref kw, .int (nI 0), .int s1, .long h1, .long l1]] := hD
  refine W.cs (cells' := 0) (slots' := 0) rfl rfl ?_
  refine W.eq (g2 := F0 m 5 ls []) rfl ?_
  refine lv_iload_n hx hb dCK_reach_5 rfl (lv_at hl 2 rfl) ?_
  refine clCK_86 (As := [.int (nI c4)]) (rest := []) hx hb hml hown hts (k_CK_checkChannel l G (nI c4) (jIn_nI (by decide) hc)) hG hA hP hD hS [] rfl rfl (fun _ => rfl) rfl hl.1 rfl (Nat.le_of_ble_eq_true rfl) ⟨by decide, by decide⟩ ⟨by decide, by decide⟩ dCK_reach_6 (fun _ H locs _ hP hD hS => ?_)
  have hP : va_P G.1 vwCl [oC ox 7 [.ref oc, .ref ot, .ref oo, .ref oe, .ref op, .ref ocs, .ref ods, .long oh, .long ol], oC ot 6 [.int (nI dp), .long sh, .long sl], aH G ocs 4 (fun j => some (kk j)), oC (kk c4) 0 [.ref ks, .ref kv, .ref kw, .int (nI 0), .int s1, .long h1, .long l1]] H := hP
  have hD : va_D A [oC ox 7 [.ref oc, .ref ot, .ref oo, .ref oe, .ref op, .ref ocs, .ref ods, .long oh, .long ol], oC ot 6 [.int (nI dp), .long sh, .long sl], aH G ocs 4 (fun j => some (kk j)), oC (kk c4) 0 [.ref ks, .ref kv, .ref kw, .int (nI 0), .int s1, .long h1, .long l1]] := hD
  refine W.cs (cells' := 0) (slots' := 0) rfl rfl ?_
  refine W.eq (g2 := F0 m 9 ls []) rfl ?_
  refine lv_aload_n hx hb dCK_reach_9 rfl (lv_at hl 0 rfl) ?_
  refine lv_iload_n hx hb dCK_reach_10 rfl (lv_at hl 2 rfl) ?_
  exact cxCK_113 (As := [.int (nI c4)]) (rest := []) hx hb hml hown hts (x_CK_checkBegan l hl0 G ox oc ot oo oe op ocs ods oh ol kk ks kv kw c4 hc s1 h1 l1) hG hA hP hD hS 0 rfl [0, 2, 3] rfl rfl rfl rfl hl.1 rfl (Nat.le_of_ble_eq_true rfl) ⟨by decide, by decide⟩ ⟨by decide, by decide⟩ dCK_reach_11 htb hlk (by decide) (by decide)
set_option maxHeartbeats 4000000 in
set_option maxRecDepth 100000 in
theorem x_CK_reach4 (l : Launch) (hl0 : l.stackTraces = false) (G : gG) (ox oc ot oo oe op ocs ods : Nat) (oh ol : Int64) (dp : Nat) (hdp : dp ≤ 8) (sh sl : Int64) (dec : Nat → Option Nat) (dd : Nat) (hd : dd < 2 ^ dp) (kk : Nat → Nat) (ks kv kw c4 : Nat) (hc : c4 < 4) (q : Nat) (hq : 0 < q) (hq2 : q < 2 ^ 30) (ho : dec dd = none) (s1 : Int32) (h1 l1 : Int64) : Cx l G yCK_reach cCK_reach 6 (some .int) { frames := 7, cells := 1, slots := 6, locals := 103 } [.ref ox, .int (nI dd), .int (nI c4)] [oC ox 7 [.ref oc, .ref ot, .ref oo, .ref oe, .ref op, .ref ocs, .ref ods, .long oh, .long ol], oC ot 6 [.int (nI dp), .long sh, .long sl], aH G ocs 4 (fun j => some (kk j)), oC (kk c4) 0 [.ref ks, .ref kv, .ref kw, .int (nI q), .int s1, .long h1, .long l1], aQ G ods 256 dec] "java/lang/IllegalStateException" [oC ox 7 [.ref oc, .ref ot, .ref oo, .ref oe, .ref op, .ref ocs, .ref ods, .long oh, .long ol], oC ot 6 [.int (nI dp), .long sh, .long sl], aH G ocs 4 (fun j => some (kk j)), oC (kk c4) 0 [.ref ks, .ref kv, .ref kw, .int (nI q), .int s1, .long h1, .long l1], aQ G ods 256 dec] := by
  refine Cx.of (by decide) (Nat.le_of_ble_eq_true rfl) ?_
  intro p e s m args below meth c A ls hx hb hr hml hts hown hlk htb hA hP hD hG hS hl
  have hp2 : 2 ^ dp ≤ 256 := Nat.pow_le_pow_right (n := 2) (by decide) hdp
  have hp1 : 1 ≤ 2 ^ dp := Nat.one_le_two_pow
  have hl : lv_has ls 6 [(0, .ref ox), (1, .int (nI dd)), (2, .int (nI c4))] := hl
  refine lv_aload_n hx hb dCK_reach_0 rfl (lv_at hl 0 rfl) ?_
  refine lv_iload_n hx hb dCK_reach_1 rfl (lv_at hl 1 rfl) ?_
  refine clCK_72 (As := [.int (nI dd)]) (rest := []) hx hb hml hown hts (k_CK_checkDecoder l G ox oc ot oo oe op ocs ods oh ol dp hdp sh sl dd hd) hG hA hP hD hS 0 rfl [0, 1] rfl rfl (fun _ => rfl) rfl hl.1 rfl (Nat.le_of_ble_eq_true rfl) ⟨by decide, by decide⟩ ⟨by decide, by decide⟩ dCK_reach_2 (fun _ H locs _ hP hD hS => ?_)
  have hP : va_P G.1 vwCl [oC ox 7 [.ref oc, .ref ot, .ref oo, .ref oe, .ref op, .ref ocs, .ref ods, .long oh, .long ol], oC ot 6 [.int (nI dp), .long sh, .long sl], aH G ocs 4 (fun j => some (kk j)), oC (kk c4) 0 [.ref ks, .ref kv, .ref kw, .int (nI q), .int s1, .long h1, .long l1], aQ G ods 256 dec] H := hP
  have hD : va_D A [oC ox 7 [.ref oc, .ref ot, .ref oo, .ref oe, .ref op, .ref ocs, .ref ods, .long oh, .long ol], oC ot 6 [.int (nI dp), .long sh, .long sl], aH G ocs 4 (fun j => some (kk j)), oC (kk c4) 0 [.ref ks, .ref kv, .ref kw, .int (nI q), .int s1, .long h1, .long l1], aQ G ods 256 dec] := hD
  refine W.cs (cells' := 0) (slots' := 0) rfl rfl ?_
  refine W.eq (g2 := F0 m 5 ls []) rfl ?_
  refine lv_iload_n hx hb dCK_reach_5 rfl (lv_at hl 2 rfl) ?_
  refine clCK_86 (As := [.int (nI c4)]) (rest := []) hx hb hml hown hts (k_CK_checkChannel l G (nI c4) (jIn_nI (by decide) hc)) hG hA hP hD hS [] rfl rfl (fun _ => rfl) rfl hl.1 rfl (Nat.le_of_ble_eq_true rfl) ⟨by decide, by decide⟩ ⟨by decide, by decide⟩ dCK_reach_6 (fun _ H locs _ hP hD hS => ?_)
  have hP : va_P G.1 vwCl [oC ox 7 [.ref oc, .ref ot, .ref oo, .ref oe, .ref op, .ref ocs, .ref ods, .long oh, .long ol], oC ot 6 [.int (nI dp), .long sh, .long sl], aH G ocs 4 (fun j => some (kk j)), oC (kk c4) 0 [.ref ks, .ref kv, .ref kw, .int (nI q), .int s1, .long h1, .long l1], aQ G ods 256 dec] H := hP
  have hD : va_D A [oC ox 7 [.ref oc, .ref ot, .ref oo, .ref oe, .ref op, .ref ocs, .ref ods, .long oh, .long ol], oC ot 6 [.int (nI dp), .long sh, .long sl], aH G ocs 4 (fun j => some (kk j)), oC (kk c4) 0 [.ref ks, .ref kv, .ref kw, .int (nI q), .int s1, .long h1, .long l1], aQ G ods 256 dec] := hD
  refine W.cs (cells' := 0) (slots' := 0) rfl rfl ?_
  refine W.eq (g2 := F0 m 9 ls []) rfl ?_
  refine lv_aload_n hx hb dCK_reach_9 rfl (lv_at hl 0 rfl) ?_
  refine lv_iload_n hx hb dCK_reach_10 rfl (lv_at hl 2 rfl) ?_
  refine clCK_113 (As := [.int (nI c4)]) (rest := []) hx hb hml hown hts (k_CK_checkBegan l G ox oc ot oo oe op ocs ods oh ol kk ks kv kw c4 hc q hq hq2 s1 h1 l1) hG hA hP hD hS 0 rfl [0, 2, 3] rfl rfl (fun _ => rfl) rfl hl.1 rfl (Nat.le_of_ble_eq_true rfl) ⟨by decide, by decide⟩ ⟨by decide, by decide⟩ dCK_reach_11 (fun _ H locs _ hP hD hS => ?_)
  have hP : va_P G.1 vwCl [oC ox 7 [.ref oc, .ref ot, .ref oo, .ref oe, .ref op, .ref ocs, .ref ods, .long oh, .long ol], oC ot 6 [.int (nI dp), .long sh, .long sl], aH G ocs 4 (fun j => some (kk j)), oC (kk c4) 0 [.ref ks, .ref kv, .ref kw, .int (nI q), .int s1, .long h1, .long l1], aQ G ods 256 dec] H := hP
  have hD : va_D A [oC ox 7 [.ref oc, .ref ot, .ref oo, .ref oe, .ref op, .ref ocs, .ref ods, .long oh, .long ol], oC ot 6 [.int (nI dp), .long sh, .long sl], aH G ocs 4 (fun j => some (kk j)), oC (kk c4) 0 [.ref ks, .ref kv, .ref kw, .int (nI q), .int s1, .long h1, .long l1], aQ G ods 256 dec] := hD
  refine W.cs (cells' := 0) (slots' := 0) rfl rfl ?_
  refine W.eq (g2 := F0 m 14 ls []) rfl ?_
  refine lv_aload_n hx hb dCK_reach_14 rfl (lv_at hl 0 rfl) ?_
  refine lv_iload_n hx hb dCK_reach_15 rfl (lv_at hl 1 rfl) ?_
  exact cxCK_212 (As := [.int (nI dd)]) (rest := []) hx hb hml hown hts (x_CK_checkInstalled l hl0 G ox oc ot oo oe op ocs ods oh ol dec dd (by omega) ho) hG hA hP hD hS 0 rfl [0, 4] rfl rfl rfl rfl hl.1 rfl (Nat.le_of_ble_eq_true rfl) ⟨by decide, by decide⟩ ⟨by decide, by decide⟩ dCK_reach_16 htb hlk (by decide) (by decide)
set_option maxHeartbeats 4000000 in
set_option maxRecDepth 100000 in
theorem k_CK_label01 (l : Launch) (G : gG) (ox oc ot oo oe op ocs ods : Nat) (oh ol : Int64) (dp : Nat) (hdp : dp ≤ 8) (sh sl : Int64) (dec : Nat → Option Nat) (dd : Nat) (hd : dd < 2 ^ dp) (hd1 : 1 ≤ dp) (od k1 wh : Nat) (ho : dec dd = some od) (hk1 : k1 < dp * (dp + 1) / 2) (hw : wh < 2) : Ck l G yCK_label cCK_label 6 (some .long) { frames := 4, cells := 0, slots := 0, locals := 100 } [.ref ox, .int (nI dd), .int (nI k1), .int (nI wh)] [oC ox 7 [.ref oc, .ref ot, .ref oo, .ref oe, .ref op, .ref ocs, .ref ods, .long oh, .long ol], oC ot 6 [.int (nI dp), .long sh, .long sl], aQ G ods 256 dec] (some (.long (if wh = 0 then jTop dp (nI dd) (nI k1) else jFoot dp (nI dd) (nI k1)).toInt64)) [oC ox 7 [.ref oc, .ref ot, .ref oo, .ref oe, .ref op, .ref ocs, .ref ods, .long oh, .long ol], oC ot 6 [.int (nI dp), .long sh, .long sl], aQ G ods 256 dec] := by
  refine Cq.of (by decide) (Nat.le_of_ble_eq_true rfl) ?_
  intro p e s m args below meth c A ls hx hb hr hml hts hown hlk hA hP hD hG hS hl
  have hp2 : 2 ^ dp ≤ 256 := Nat.pow_le_pow_right (n := 2) (by decide) hdp
  have hp1 : 1 ≤ 2 ^ dp := Nat.one_le_two_pow
  have hL : dp * (dp + 1) / 2 ≤ 36 := by have := Nat.mul_le_mul hdp (Nat.add_le_add_right hdp 1); omega
  have hl : lv_has ls 6 [(0, .ref ox), (1, .int (nI dd)), (2, .int (nI k1)), (3, .int (nI wh))] := hl
  refine lv_aload_n hx hb dCK_label_0 rfl (lv_at hl 0 rfl) ?_
  refine lv_iload_n hx hb dCK_label_1 rfl (lv_at hl 1 rfl) ?_
  refine clCK_72 (As := [.int (nI dd)]) (rest := []) hx hb hml hown hts (k_CK_checkDecoder l G ox oc ot oo oe op ocs ods oh ol dp hdp sh sl dd hd) hG hA hP hD hS 0 rfl [0, 1] rfl rfl (fun _ => rfl) rfl hl.1 rfl (Nat.le_of_ble_eq_true rfl) ⟨by decide, by decide⟩ ⟨by decide, by decide⟩ dCK_label_2 (fun _ H locs _ hP hD hS => ?_)
  have hP : va_P G.1 vwCl [oC ox 7 [.ref oc, .ref ot, .ref oo, .ref oe, .ref op, .ref ocs, .ref ods, .long oh, .long ol], oC ot 6 [.int (nI dp), .long sh, .long sl], aQ G ods 256 dec] H := hP
  have hD : va_D A [oC ox 7 [.ref oc, .ref ot, .ref oo, .ref oe, .ref op, .ref ocs, .ref ods, .long oh, .long ol], oC ot 6 [.int (nI dp), .long sh, .long sl], aQ G ods 256 dec] := hD
  refine W.cs (cells' := 0) (slots' := 0) rfl rfl ?_
  refine W.eq (g2 := F0 m 5 ls []) rfl ?_
  refine lv_aload_n hx hb dCK_label_5 rfl (lv_at hl 0 rfl) ?_
  refine lv_iload_n hx hb dCK_label_6 rfl (lv_at hl 1 rfl) ?_
  refine clCK_212 (As := [.int (nI dd)]) (rest := []) hx hb hml hown hts (k_CK_checkInstalled l G ox oc ot oo oe op ocs ods oh ol dec dd od (by omega) ho) hG hA hP hD hS 0 rfl [0, 2] rfl rfl (fun _ => rfl) rfl hl.1 rfl (Nat.le_of_ble_eq_true rfl) ⟨by decide, by decide⟩ ⟨by decide, by decide⟩ dCK_label_7 (fun _ H locs _ hP hD hS => ?_)
  have hP : va_P G.1 vwCl [oC ox 7 [.ref oc, .ref ot, .ref oo, .ref oe, .ref op, .ref ocs, .ref ods, .long oh, .long ol], oC ot 6 [.int (nI dp), .long sh, .long sl], aQ G ods 256 dec] H := hP
  have hD : va_D A [oC ox 7 [.ref oc, .ref ot, .ref oo, .ref oe, .ref op, .ref ocs, .ref ods, .long oh, .long ol], oC ot 6 [.int (nI dp), .long sh, .long sl], aQ G ods 256 dec] := hD
  refine W.cs (cells' := 0) (slots' := 0) rfl rfl ?_
  refine W.eq (g2 := F0 m 10 ls []) rfl ?_
  refine lv_iload_n hx hb dCK_label_10 rfl (lv_at hl 3 rfl) ?_
  refine lv_if_lt (tgt := 34) hx hb dCK_label_11 rfl (fun h => absurd h (nI_pos (by omega))) (fun _ => ?_)
  refine lv_iload_n hx hb dCK_label_14 rfl (lv_at hl 3 rfl) ?_
  refine lv_iconst (v := nI 3) hx hb dCK_label_15 (by decide) ?_
  refine lv_icmp_gt (tgt := 34) hx hb dCK_label_16 rfl (fun h => absurd h (nI_nlt (by omega) (by omega))) (fun _ => ?_)
  refine lv_iload_n hx hb dCK_label_19 rfl (lv_at hl 2 rfl) ?_
  refine lv_if_lt (tgt := 34) hx hb dCK_label_20 rfl (fun h => absurd h (nI_pos (by omega))) (fun _ => ?_)
  refine lv_iload_n hx hb dCK_label_23 rfl (lv_at hl 2 rfl) ?_
  refine lv_aload_n hx hb dCK_label_24 rfl (lv_at hl 0 rfl) ?_
  refine gfCK_19 hx hb hts hown hG hP 0 rfl rfl dCK_label_25 ?_
  refine clCK_82 (As := []) (rest := [.int (nI k1)]) hx hb hml hown hts (k_Tr_labelsEach l G ot dp hdp sh sl) hG hA hP hD hS 1 rfl [1] rfl rfl (fun _ => rfl) rfl hl.1 rfl (Nat.le_of_ble_eq_true rfl) ⟨by decide, by decide⟩ ⟨by decide, by decide⟩ dCK_label_28 (fun _ H locs _ hP hD hS => ?_)
  have hP : va_P G.1 vwCl [oC ox 7 [.ref oc, .ref ot, .ref oo, .ref oe, .ref op, .ref ocs, .ref ods, .long oh, .long ol], oC ot 6 [.int (nI dp), .long sh, .long sl], aQ G ods 256 dec] H := hP
  have hD : va_D A [oC ox 7 [.ref oc, .ref ot, .ref oo, .ref oe, .ref op, .ref ocs, .ref ods, .long oh, .long ol], oC ot 6 [.int (nI dp), .long sh, .long sl], aQ G ods 256 dec] := hD
  refine W.cs (cells' := 0) (slots' := 0) rfl rfl ?_
  refine W.eq (g2 := F0 m 31 ls [.int (nI (dp * (dp + 1) / 2)), .int (nI k1)]) rfl ?_
  refine lv_icmp_lt (tgt := 44) hx hb dCK_label_31 rfl (fun _ => ?_) (fun h => absurd (nI_lt hk1 (by omega)) h)
  refine lv_aload_n hx hb dCK_label_44 rfl (lv_at hl 0 rfl) ?_
  refine gfCK_19 hx hb hts hown hG hP 0 rfl rfl dCK_label_45 ?_
  refine lv_iload_n hx hb dCK_label_48 rfl (lv_at hl 1 rfl) ?_
  refine lv_iload_n hx hb dCK_label_49 rfl (lv_at hl 2 rfl) ?_
  refine clCK_217 (As := [.int (nI dd), .int (nI k1)]) (rest := []) hx hb hml hown hts (k_Tr_labelTop l G ot dp hdp hd1 sh sl (nI dd) (nI k1)) hG hA hP hD hS 1 rfl [1] rfl rfl (fun _ => rfl) rfl hl.1 rfl (Nat.le_of_ble_eq_true rfl) ⟨by decide, by decide⟩ ⟨by decide, by decide⟩ dCK_label_50 (fun _ H locs _ hP hD hS => ?_)
  have hP : va_P G.1 vwCl [oC ox 7 [.ref oc, .ref ot, .ref oo, .ref oe, .ref op, .ref ocs, .ref ods, .long oh, .long ol], oC ot 6 [.int (nI dp), .long sh, .long sl], aQ G ods 256 dec] H := hP
  have hD : va_D A [oC ox 7 [.ref oc, .ref ot, .ref oo, .ref oe, .ref op, .ref ocs, .ref ods, .long oh, .long ol], oC ot 6 [.int (nI dp), .long sh, .long sl], aQ G ods 256 dec] := hD
  refine W.cs (cells' := 0) (slots' := 0) rfl rfl ?_
  refine W.eq (g2 := F0 m 53 ls [.int (jTop dp (nI dd) (nI k1))]) rfl ?_
  refine lv_istore (lv' := [(4, .int (jTop dp (nI dd) (nI k1))), (0, .ref ox), (1, .int (nI dd)), (2, .int (nI k1)), (3, .int (nI wh))]) hx hb dCK_label_53 hl (by decide) rfl (fun ls hl => ?_)
  refine lv_aload_n hx hb dCK_label_55 rfl (lv_at hl 1 rfl) ?_
  refine gfCK_19 hx hb hts hown hG hP 0 rfl rfl dCK_label_56 ?_
  refine lv_iload_n hx hb dCK_label_59 rfl (lv_at hl 2 rfl) ?_
  refine lv_iload_n hx hb dCK_label_60 rfl (lv_at hl 3 rfl) ?_
  refine clCK_220 (As := [.int (nI dd), .int (nI k1)]) (rest := []) hx hb hml hown hts (k_Tr_labelFoot l G ot dp hdp hd1 sh sl (nI dd) (nI k1)) hG hA hP hD hS 1 rfl [1] rfl rfl (fun _ => rfl) rfl hl.1 rfl (Nat.le_of_ble_eq_true rfl) ⟨by decide, by decide⟩ ⟨by decide, by decide⟩ dCK_label_61 (fun _ H locs _ hP hD hS => ?_)
  have hP : va_P G.1 vwCl [oC ox 7 [.ref oc, .ref ot, .ref oo, .ref oe, .ref op, .ref ocs, .ref ods, .long oh, .long ol], oC ot 6 [.int (nI dp), .long sh, .long sl], aQ G ods 256 dec] H := hP
  have hD : va_D A [oC ox 7 [.ref oc, .ref ot, .ref oo, .ref oe, .ref op, .ref ocs, .ref ods, .long oh, .long ol], oC ot 6 [.int (nI dp), .long sh, .long sl], aQ G ods 256 dec] := hD
  refine W.cs (cells' := 0) (slots' := 0) rfl rfl ?_
  refine W.eq (g2 := F0 m 64 ls [.int (jFoot dp (nI dd) (nI k1))]) rfl ?_
  refine lv_istore (lv' := [(5, .int (jFoot dp (nI dd) (nI k1))), (4, .int (jTop dp (nI dd) (nI k1))), (0, .ref ox), (1, .int (nI dd)), (2, .int (nI k1)), (3, .int (nI wh))]) hx hb dCK_label_64 hl (by decide) rfl (fun ls hl => ?_)
  refine lv_iload_n hx hb dCK_label_66 rfl (lv_at hl 5 rfl) ?_
  refine lv_iconst (v := nI 2) hx hb dCK_label_67 (by decide) ?_
  refine lv_icmp_ge (tgt := 85) hx hb dCK_label_68 rfl (fun h => absurd h (nI_ge (by omega) (by omega))) (fun _ => ?_)
  refine lv_iload_n hx hb dCK_label_71 rfl (lv_at hl 5 rfl) ?_
  refine lv_if_ne (tgt := 81) hx hb dCK_label_72 rfl (fun h9 => ?_) (fun h9 => ?_)
  · have b_h9 := decide_eq_false h9
    refine lv_iload hx hb dCK_label_81 (lv_at hl 0 rfl) ?_
    refine lv_i2l (v := (jFoot dp (nI dd) (nI k1)).toInt64) hx hb dCK_label_83 rfl ?_
    exact cq_lret () (trivial) hx hb hr hlk hP hS (by rw [if_neg (fun z => h9 (by rw [z]; rfl))]) (rfl) dCK_label_84
  · have b_h9 := decide_eq_true h9
    refine lv_iload hx hb dCK_label_75 (lv_at hl 1 rfl) ?_
    refine lv_i2l (v := (jTop dp (nI dd) (nI k1)).toInt64) hx hb dCK_label_77 rfl ?_
    refine lv_goto (tgt := 84) hx hb dCK_label_78 rfl ?_
    exact cq_lret () (trivial) hx hb hr hlk hP hS (by rw [if_pos ((nI_eq (b := 0) (by omega) (by omega)).mp h9)]) (rfl) dCK_label_84
set_option maxHeartbeats 4000000 in
set_option maxRecDepth 100000 in
theorem k_CK_label23 (l : Launch) (G : gG) (ox oc ot oo oe op ocs ods : Nat) (oh ol : Int64) (dp : Nat) (hdp : dp ≤ 8) (sh sl : Int64) (dec : Nat → Option Nat) (dd : Nat) (hd : dd < 2 ^ dp) (hd1 : 1 ≤ dp) (od k1 wh : Nat) (ho : dec dd = some od) (hk1 : k1 < dp * (dp + 1) / 2) (owd : Nat) (g : Nat → Int32) (e0 f0 : Int64) (lv : Nat) (hw : 2 ≤ wh) (hw2 : wh < 4) (hv : lv ≤ 8) (hlv : jLb (jFoot dp (nI dd) (nI k1)) (jTop dp (nI dd) (nI k1)) = nI lv) : Cq l G yCK_label cCK_label 6 (some .long) { frames := 4, cells := 0, slots := 0, locals := 100 } [.ref ox, .int (nI dd), .int (nI k1), .int (nI wh)] [oC ox 7 [.ref oc, .ref ot, .ref oo, .ref oe, .ref op, .ref ocs, .ref ods, .long oh, .long ol], oC ot 6 [.int (nI dp), .long sh, .long sl], aQ G ods 256 dec, oC oc 1 [.ref owd, .long e0, .long f0], aI G owd 44 g] (S := Nat → Int32) (fun _ => True) (fun u => some (.long (if wh = 2 then (jLab sh sl (jTop dp (nI dd) (nI k1)) (jFoot dp (nI dd) (nI k1)) lv lv).1 else (jLab sh sl (jTop dp (nI dd) (nI k1)) (jFoot dp (nI dd) (nI k1)) lv lv).2))) (fun u => [oC ox 7 [.ref oc, .ref ot, .ref oo, .ref oe, .ref op, .ref ocs, .ref ods, .long oh, .long ol], oC ot 6 [.int (nI dp), .long sh, .long sl], aQ G ods 256 dec, oC oc 1 [.ref owd, .long ((jLab sh sl (jTop dp (nI dd) (nI k1)) (jFoot dp (nI dd) (nI k1)) lv lv).1), .long ((jLab sh sl (jTop dp (nI dd) (nI k1)) (jFoot dp (nI dd) (nI k1)) lv lv).2)], aI G owd 44 u]) := by
  refine Cq.of (by decide) (Nat.le_of_ble_eq_true rfl) ?_
  intro p e s m args below meth c A ls hx hb hr hml hts hown hlk hA hP hD hG hS hl
  have hp2 : 2 ^ dp ≤ 256 := Nat.pow_le_pow_right (n := 2) (by decide) hdp
  have hp1 : 1 ≤ 2 ^ dp := Nat.one_le_two_pow
  have hL : dp * (dp + 1) / 2 ≤ 36 := by have := Nat.mul_le_mul hdp (Nat.add_le_add_right hdp 1); omega
  have hl : lv_has ls 6 [(0, .ref ox), (1, .int (nI dd)), (2, .int (nI k1)), (3, .int (nI wh))] := hl
  refine lv_aload_n hx hb dCK_label_0 rfl (lv_at hl 0 rfl) ?_
  refine lv_iload_n hx hb dCK_label_1 rfl (lv_at hl 1 rfl) ?_
  refine clCK_72 (As := [.int (nI dd)]) (rest := []) hx hb hml hown hts (k_CK_checkDecoder l G ox oc ot oo oe op ocs ods oh ol dp hdp sh sl dd hd) hG hA hP hD hS 0 rfl [0, 1] rfl rfl (fun _ => rfl) rfl hl.1 rfl (Nat.le_of_ble_eq_true rfl) ⟨by decide, by decide⟩ ⟨by decide, by decide⟩ dCK_label_2 (fun _ H locs _ hP hD hS => ?_)
  have hP : va_P G.1 vwCl [oC ox 7 [.ref oc, .ref ot, .ref oo, .ref oe, .ref op, .ref ocs, .ref ods, .long oh, .long ol], oC ot 6 [.int (nI dp), .long sh, .long sl], aQ G ods 256 dec, oC oc 1 [.ref owd, .long e0, .long f0], aI G owd 44 g] H := hP
  have hD : va_D A [oC ox 7 [.ref oc, .ref ot, .ref oo, .ref oe, .ref op, .ref ocs, .ref ods, .long oh, .long ol], oC ot 6 [.int (nI dp), .long sh, .long sl], aQ G ods 256 dec, oC oc 1 [.ref owd, .long e0, .long f0], aI G owd 44 g] := hD
  refine W.cs (cells' := 0) (slots' := 0) rfl rfl ?_
  refine W.eq (g2 := F0 m 5 ls []) rfl ?_
  refine lv_aload_n hx hb dCK_label_5 rfl (lv_at hl 0 rfl) ?_
  refine lv_iload_n hx hb dCK_label_6 rfl (lv_at hl 1 rfl) ?_
  refine clCK_212 (As := [.int (nI dd)]) (rest := []) hx hb hml hown hts (k_CK_checkInstalled l G ox oc ot oo oe op ocs ods oh ol dec dd od (by omega) ho) hG hA hP hD hS 0 rfl [0, 2] rfl rfl (fun _ => rfl) rfl hl.1 rfl (Nat.le_of_ble_eq_true rfl) ⟨by decide, by decide⟩ ⟨by decide, by decide⟩ dCK_label_7 (fun _ H locs _ hP hD hS => ?_)
  have hP : va_P G.1 vwCl [oC ox 7 [.ref oc, .ref ot, .ref oo, .ref oe, .ref op, .ref ocs, .ref ods, .long oh, .long ol], oC ot 6 [.int (nI dp), .long sh, .long sl], aQ G ods 256 dec, oC oc 1 [.ref owd, .long e0, .long f0], aI G owd 44 g] H := hP
  have hD : va_D A [oC ox 7 [.ref oc, .ref ot, .ref oo, .ref oe, .ref op, .ref ocs, .ref ods, .long oh, .long ol], oC ot 6 [.int (nI dp), .long sh, .long sl], aQ G ods 256 dec, oC oc 1 [.ref owd, .long e0, .long f0], aI G owd 44 g] := hD
  refine W.cs (cells' := 0) (slots' := 0) rfl rfl ?_
  refine W.eq (g2 := F0 m 10 ls []) rfl ?_
  refine lv_iload_n hx hb dCK_label_10 rfl (lv_at hl 3 rfl) ?_
  refine lv_if_lt (tgt := 34) hx hb dCK_label_11 rfl (fun h => absurd h (nI_pos (by omega))) (fun _ => ?_)
  refine lv_iload_n hx hb dCK_label_14 rfl (lv_at hl 3 rfl) ?_
  refine lv_iconst (v := nI 3) hx hb dCK_label_15 (by decide) ?_
  refine lv_icmp_gt (tgt := 34) hx hb dCK_label_16 rfl (fun h => absurd h (nI_nlt (by omega) (by omega))) (fun _ => ?_)
  refine lv_iload_n hx hb dCK_label_19 rfl (lv_at hl 2 rfl) ?_
  refine lv_if_lt (tgt := 34) hx hb dCK_label_20 rfl (fun h => absurd h (nI_pos (by omega))) (fun _ => ?_)
  refine lv_iload_n hx hb dCK_label_23 rfl (lv_at hl 2 rfl) ?_
  refine lv_aload_n hx hb dCK_label_24 rfl (lv_at hl 0 rfl) ?_
  refine gfCK_19 hx hb hts hown hG hP 0 rfl rfl dCK_label_25 ?_
  refine clCK_82 (As := []) (rest := [.int (nI k1)]) hx hb hml hown hts (k_Tr_labelsEach l G ot dp hdp sh sl) hG hA hP hD hS 1 rfl [1] rfl rfl (fun _ => rfl) rfl hl.1 rfl (Nat.le_of_ble_eq_true rfl) ⟨by decide, by decide⟩ ⟨by decide, by decide⟩ dCK_label_28 (fun _ H locs _ hP hD hS => ?_)
  have hP : va_P G.1 vwCl [oC ox 7 [.ref oc, .ref ot, .ref oo, .ref oe, .ref op, .ref ocs, .ref ods, .long oh, .long ol], oC ot 6 [.int (nI dp), .long sh, .long sl], aQ G ods 256 dec, oC oc 1 [.ref owd, .long e0, .long f0], aI G owd 44 g] H := hP
  have hD : va_D A [oC ox 7 [.ref oc, .ref ot, .ref oo, .ref oe, .ref op, .ref ocs, .ref ods, .long oh, .long ol], oC ot 6 [.int (nI dp), .long sh, .long sl], aQ G ods 256 dec, oC oc 1 [.ref owd, .long e0, .long f0], aI G owd 44 g] := hD
  refine W.cs (cells' := 0) (slots' := 0) rfl rfl ?_
  refine W.eq (g2 := F0 m 31 ls [.int (nI (dp * (dp + 1) / 2)), .int (nI k1)]) rfl ?_
  refine lv_icmp_lt (tgt := 44) hx hb dCK_label_31 rfl (fun _ => ?_) (fun h => absurd (nI_lt hk1 (by omega)) h)
  refine lv_aload_n hx hb dCK_label_44 rfl (lv_at hl 0 rfl) ?_
  refine gfCK_19 hx hb hts hown hG hP 0 rfl rfl dCK_label_45 ?_
  refine lv_iload_n hx hb dCK_label_48 rfl (lv_at hl 1 rfl) ?_
  refine lv_iload_n hx hb dCK_label_49 rfl (lv_at hl 2 rfl) ?_
  refine clCK_217 (As := [.int (nI dd), .int (nI k1)]) (rest := []) hx hb hml hown hts (k_Tr_labelTop l G ot dp hdp hd1 sh sl (nI dd) (nI k1)) hG hA hP hD hS 1 rfl [1] rfl rfl (fun _ => rfl) rfl hl.1 rfl (Nat.le_of_ble_eq_true rfl) ⟨by decide, by decide⟩ ⟨by decide, by decide⟩ dCK_label_50 (fun _ H locs _ hP hD hS => ?_)
  have hP : va_P G.1 vwCl [oC ox 7 [.ref oc, .ref ot, .ref oo, .ref oe, .ref op, .ref ocs, .ref ods, .long oh, .long ol], oC ot 6 [.int (nI dp), .long sh, .long sl], aQ G ods 256 dec, oC oc 1 [.ref owd, .long e0, .long f0], aI G owd 44 g] H := hP
  have hD : va_D A [oC ox 7 [.ref oc, .ref ot, .ref oo, .ref oe, .ref op, .ref ocs, .ref ods, .long oh, .long ol], oC ot 6 [.int (nI dp), .long sh, .long sl], aQ G ods 256 dec, oC oc 1 [.ref owd, .long e0, .long f0], aI G owd 44 g] := hD
  refine W.cs (cells' := 0) (slots' := 0) rfl rfl ?_
  refine W.eq (g2 := F0 m 53 ls [.int (jTop dp (nI dd) (nI k1))]) rfl ?_
  refine lv_istore (lv' := [(4, .int (jTop dp (nI dd) (nI k1))), (0, .ref ox), (1, .int (nI dd)), (2, .int (nI k1)), (3, .int (nI wh))]) hx hb dCK_label_53 hl (by decide) rfl (fun ls hl => ?_)
  refine lv_aload_n hx hb dCK_label_55 rfl (lv_at hl 1 rfl) ?_
  refine gfCK_19 hx hb hts hown hG hP 0 rfl rfl dCK_label_56 ?_
  refine lv_iload_n hx hb dCK_label_59 rfl (lv_at hl 2 rfl) ?_
  refine lv_iload_n hx hb dCK_label_60 rfl (lv_at hl 3 rfl) ?_
  refine clCK_220 (As := [.int (nI dd), .int (nI k1)]) (rest := []) hx hb hml hown hts (k_Tr_labelFoot l G ot dp hdp hd1 sh sl (nI dd) (nI k1)) hG hA hP hD hS 1 rfl [1] rfl rfl (fun _ => rfl) rfl hl.1 rfl (Nat.le_of_ble_eq_true rfl) ⟨by decide, by decide⟩ ⟨by decide, by decide⟩ dCK_label_61 (fun _ H locs _ hP hD hS => ?_)
  have hP : va_P G.1 vwCl [oC ox 7 [.ref oc, .ref ot, .ref oo, .ref oe, .ref op, .ref ocs, .ref ods, .long oh, .long ol], oC ot 6 [.int (nI dp), .long sh, .long sl], aQ G ods 256 dec, oC oc 1 [.ref owd, .long e0, .long f0], aI G owd 44 g] H := hP
  have hD : va_D A [oC ox 7 [.ref oc, .ref ot, .ref oo, .ref oe, .ref op, .ref ocs, .ref ods, .long oh, .long ol], oC ot 6 [.int (nI dp), .long sh, .long sl], aQ G ods 256 dec, oC oc 1 [.ref owd, .long e0, .long f0], aI G owd 44 g] := hD
  refine W.cs (cells' := 0) (slots' := 0) rfl rfl ?_
  refine W.eq (g2 := F0 m 64 ls [.int (jFoot dp (nI dd) (nI k1))]) rfl ?_
  refine lv_istore (lv' := [(5, .int (jFoot dp (nI dd) (nI k1))), (4, .int (jTop dp (nI dd) (nI k1))), (0, .ref ox), (1, .int (nI dd)), (2, .int (nI k1)), (3, .int (nI wh))]) hx hb dCK_label_64 hl (by decide) rfl (fun ls hl => ?_)
  refine lv_iload_n hx hb dCK_label_66 rfl (lv_at hl 5 rfl) ?_
  refine lv_iconst (v := nI 2) hx hb dCK_label_67 (by decide) ?_
  refine lv_icmp_ge (tgt := 85) hx hb dCK_label_68 rfl (fun _ => ?_) (fun h => absurd (nI_le (by omega) (by omega)) h)
  refine lv_aload_n hx hb dCK_label_85 rfl (lv_at hl 2 rfl) ?_
  refine gfCK_19 hx hb hts hown hG hP 0 rfl rfl dCK_label_86 ?_
  refine lv_aload_n hx hb dCK_label_89 rfl (lv_at hl 2 rfl) ?_
  refine gfCK_12 hx hb hts hown hG hP 0 rfl rfl dCK_label_90 ?_
  refine lv_iload hx hb dCK_label_93 (lv_at hl 1 rfl) ?_
  refine lv_iload hx hb dCK_label_95 (lv_at hl 0 rfl) ?_
  refine clCK_223 (As := [.ref oc, .int (jTop dp (nI dd) (nI k1)), .int (jFoot dp (nI dd) (nI k1))]) (rest := []) hx hb hml hown hts (k_Tr_findLabel l G ot oc owd dp sh sl e0 f0 g (jTop dp (nI dd) (nI k1)) (jFoot dp (nI dd) (nI k1)) lv hv hlv) hG hA hP hD hS 1 rfl [1, 3, 4] rfl rfl (fun _ => rfl) rfl hl.1 rfl (Nat.le_of_ble_eq_true rfl) ⟨by decide, by decide⟩ ⟨by decide, by decide⟩ dCK_label_97 (fun g1 H locs _ hP hD hS => ?_)
  have hP : va_P G.1 vwCl [oC ox 7 [.ref oc, .ref ot, .ref oo, .ref oe, .ref op, .ref ocs, .ref ods, .long oh, .long ol], oC ot 6 [.int (nI dp), .long sh, .long sl], aQ G ods 256 dec, oC oc 1 [.ref owd, .long ((jLab sh sl (jTop dp (nI dd) (nI k1)) (jFoot dp (nI dd) (nI k1)) lv lv).1), .long ((jLab sh sl (jTop dp (nI dd) (nI k1)) (jFoot dp (nI dd) (nI k1)) lv lv).2)], aI G owd 44 g1] H := hP
  have hD : va_D A [oC ox 7 [.ref oc, .ref ot, .ref oo, .ref oe, .ref op, .ref ocs, .ref ods, .long oh, .long ol], oC ot 6 [.int (nI dp), .long sh, .long sl], aQ G ods 256 dec, oC oc 1 [.ref owd, .long ((jLab sh sl (jTop dp (nI dd) (nI k1)) (jFoot dp (nI dd) (nI k1)) lv lv).1), .long ((jLab sh sl (jTop dp (nI dd) (nI k1)) (jFoot dp (nI dd) (nI k1)) lv lv).2)], aI G owd 44 g1] := hD
  refine W.cs (cells' := 0) (slots' := 0) rfl rfl ?_
  refine W.eq (g2 := F0 m 100 ls []) rfl ?_
  generalize jLab sh sl (jTop dp (nI dd) (nI k1)) (jFoot dp (nI dd) (nI k1)) lv lv = lab at hP hD ⊢
  refine lv_iload_n hx hb dCK_label_100 rfl (lv_at hl 5 rfl) ?_
  refine lv_iconst (v := nI 2) hx hb dCK_label_101 (by decide) ?_
  refine lv_icmp_ne (tgt := 115) hx hb dCK_label_102 rfl (fun h9 => ?_) (fun h9 => ?_)
  · have b_h9 := decide_eq_false h9
    refine lv_aload_n hx hb dCK_label_115 rfl (lv_at hl 2 rfl) ?_
    refine gfCK_12 hx hb hts hown hG hP 0 rfl rfl dCK_label_116 ?_
    refine gfCK_228 hx hb hts hown hG hP 3 rfl rfl dCK_label_119 ?_
    exact cq_lret g1 (trivial) hx hb hr hlk hP hS (by rw [if_neg (fun z => h9 (by rw [z]))]) (rfl) dCK_label_122
  · have b_h9 := decide_eq_true h9
    refine lv_aload_n hx hb dCK_label_105 rfl (lv_at hl 2 rfl) ?_
    refine gfCK_12 hx hb hts hown hG hP 0 rfl rfl dCK_label_106 ?_
    refine gfCK_227 hx hb hts hown hG hP 3 rfl rfl dCK_label_109 ?_
    refine lv_goto (tgt := 122) hx hb dCK_label_112 rfl ?_
    exact cq_lret g1 (trivial) hx hb hr hlk hP hS (by rw [if_pos ((nI_eq (by omega) (by omega)).mp h9)]) (rfl) dCK_label_122
set_option maxHeartbeats 4000000 in
set_option maxRecDepth 100000 in
theorem x_CK_label1 (l : Launch) (hl0 : l.stackTraces = false) (G : gG) (ox oc ot oo oe op ocs ods : Nat) (oh ol : Int64) (dp : Nat) (hdp : dp ≤ 8) (sh sl : Int64) (d1 k1 wh : Int32) (hd : jIn (2 ^ dp) d1 = false) : Cx l G yCK_label cCK_label 6 (some .long) { frames := 7, cells := 1, slots := 6, locals := 103 } [.ref ox, .int d1, .int k1, .int wh] [oC ox 7 [.ref oc, .ref ot, .ref oo, .ref oe, .ref op, .ref ocs, .ref ods, .long oh, .long ol], oC ot 6 [.int (nI dp), .long sh, .long sl]] "java/lang/IndexOutOfBoundsException" [oC ox 7 [.ref oc, .ref ot, .ref oo, .ref oe, .ref op, .ref ocs, .ref ods, .long oh, .long ol], oC ot 6 [.int (nI dp), .long sh, .long sl]] := by
  refine Cx.of (by decide) (Nat.le_of_ble_eq_true rfl) ?_
  intro p e s m args below meth c A ls hx hb hr hml hts hown hlk htb hA hP hD hG hS hl
  have hl : lv_has ls 6 [(0, .ref ox), (1, .int d1), (2, .int k1), (3, .int wh)] := hl
  refine lv_aload_n hx hb dCK_label_0 rfl (lv_at hl 0 rfl) ?_
  refine lv_iload_n hx hb dCK_label_1 rfl (lv_at hl 1 rfl) ?_
  exact cxCK_72 (As := [.int d1]) (rest := []) hx hb hml hown hts (x_CK_checkDecoder l hl0 G ox oc ot oo oe op ocs ods oh ol dp hdp sh sl d1 hd) hG hA hP hD hS 0 rfl [0, 1] rfl rfl rfl rfl hl.1 rfl (Nat.le_of_ble_eq_true rfl) ⟨by decide, by decide⟩ ⟨by decide, by decide⟩ dCK_label_2 htb hlk (by decide) (by decide)
set_option maxHeartbeats 4000000 in
set_option maxRecDepth 100000 in
theorem x_CK_label2 (l : Launch) (hl0 : l.stackTraces = false) (G : gG) (ox oc ot oo oe op ocs ods : Nat) (oh ol : Int64) (dp : Nat) (hdp : dp ≤ 8) (sh sl : Int64) (dec : Nat → Option Nat) (dd : Nat) (hd : dd < 2 ^ dp) (k1 wh : Int32) (ho : dec dd = none) : Cx l G yCK_label cCK_label 6 (some .long) { frames := 7, cells := 1, slots := 6, locals := 103 } [.ref ox, .int (nI dd), .int k1, .int wh] [oC ox 7 [.ref oc, .ref ot, .ref oo, .ref oe, .ref op, .ref ocs, .ref ods, .long oh, .long ol], oC ot 6 [.int (nI dp), .long sh, .long sl], aQ G ods 256 dec] "java/lang/IllegalStateException" [oC ox 7 [.ref oc, .ref ot, .ref oo, .ref oe, .ref op, .ref ocs, .ref ods, .long oh, .long ol], oC ot 6 [.int (nI dp), .long sh, .long sl], aQ G ods 256 dec] := by
  refine Cx.of (by decide) (Nat.le_of_ble_eq_true rfl) ?_
  intro p e s m args below meth c A ls hx hb hr hml hts hown hlk htb hA hP hD hG hS hl
  have hp2 : 2 ^ dp ≤ 256 := Nat.pow_le_pow_right (n := 2) (by decide) hdp
  have hp1 : 1 ≤ 2 ^ dp := Nat.one_le_two_pow
  have hl : lv_has ls 6 [(0, .ref ox), (1, .int (nI dd)), (2, .int k1), (3, .int wh)] := hl
  refine lv_aload_n hx hb dCK_label_0 rfl (lv_at hl 0 rfl) ?_
  refine lv_iload_n hx hb dCK_label_1 rfl (lv_at hl 1 rfl) ?_
  refine clCK_72 (As := [.int (nI dd)]) (rest := []) hx hb hml hown hts (k_CK_checkDecoder l G ox oc ot oo oe op ocs ods oh ol dp hdp sh sl dd hd) hG hA hP hD hS 0 rfl [0, 1] rfl rfl (fun _ => rfl) rfl hl.1 rfl (Nat.le_of_ble_eq_true rfl) ⟨by decide, by decide⟩ ⟨by decide, by decide⟩ dCK_label_2 (fun _ H locs _ hP hD hS => ?_)
  have hP : va_P G.1 vwCl [oC ox 7 [.ref oc, .ref ot, .ref oo, .ref oe, .ref op, .ref ocs, .ref ods, .long oh, .long ol], oC ot 6 [.int (nI dp), .long sh, .long sl], aQ G ods 256 dec] H := hP
  have hD : va_D A [oC ox 7 [.ref oc, .ref ot, .ref oo, .ref oe, .ref op, .ref ocs, .ref ods, .long oh, .long ol], oC ot 6 [.int (nI dp), .long sh, .long sl], aQ G ods 256 dec] := hD
  refine W.cs (cells' := 0) (slots' := 0) rfl rfl ?_
  refine W.eq (g2 := F0 m 5 ls []) rfl ?_
  refine lv_aload_n hx hb dCK_label_5 rfl (lv_at hl 0 rfl) ?_
  refine lv_iload_n hx hb dCK_label_6 rfl (lv_at hl 1 rfl) ?_
  exact cxCK_212 (As := [.int (nI dd)]) (rest := []) hx hb hml hown hts (x_CK_checkInstalled l hl0 G ox oc ot oo oe op ocs ods oh ol dec dd (by omega) ho) hG hA hP hD hS 0 rfl [0, 2] rfl rfl rfl rfl hl.1 rfl (Nat.le_of_ble_eq_true rfl) ⟨by decide, by decide⟩ ⟨by decide, by decide⟩ dCK_label_7 htb hlk (by decide) (by decide)
set_option maxHeartbeats 4000000 in
set_option maxRecDepth 100000 in
theorem x_CK_label3 (l : Launch) (hl0 : l.stackTraces = false) (G : gG) (ox oc ot oo oe op ocs ods : Nat) (oh ol : Int64) (dp : Nat) (hdp : dp ≤ 8) (sh sl : Int64) (dec : Nat → Option Nat) (dd : Nat) (hd : dd < 2 ^ dp) (od : Nat) (k1 wh : Int32) (ho : dec dd = some od) (hb9 : (decide (wh < 0) || decide (nI 3 < wh) || decide (k1 < 0) || !decide (k1 < nI (dp * (dp + 1) / 2))) = true) : Cx l G yCK_label cCK_label 6 (some .long) { frames := 6, cells := 1, slots := 6, locals := 82 } [.ref ox, .int (nI dd), .int k1, .int wh] [oC ox 7 [.ref oc, .ref ot, .ref oo, .ref oe, .ref op, .ref ocs, .ref ods, .long oh, .long ol], oC ot 6 [.int (nI dp), .long sh, .long sl], aQ G ods 256 dec] "java/lang/IllegalArgumentException" [oC ox 7 [.ref oc, .ref ot, .ref oo, .ref oe, .ref op, .ref ocs, .ref ods, .long oh, .long ol], oC ot 6 [.int (nI dp), .long sh, .long sl], aQ G ods 256 dec] := by
  refine Cx.of (by decide) (Nat.le_of_ble_eq_true rfl) ?_
  intro p e s m args below meth c A ls hx hb hr hml hts hown hlk htb hA hP hD hG hS hl
  have hp2 : 2 ^ dp ≤ 256 := Nat.pow_le_pow_right (n := 2) (by decide) hdp
  have hp1 : 1 ≤ 2 ^ dp := Nat.one_le_two_pow
  have hl : lv_has ls 6 [(0, .ref ox), (1, .int (nI dd)), (2, .int k1), (3, .int wh)] := hl
  refine lv_aload_n hx hb dCK_label_0 rfl (lv_at hl 0 rfl) ?_
  refine lv_iload_n hx hb dCK_label_1 rfl (lv_at hl 1 rfl) ?_
  refine clCK_72 (As := [.int (nI dd)]) (rest := []) hx hb hml hown hts (k_CK_checkDecoder l G ox oc ot oo oe op ocs ods oh ol dp hdp sh sl dd hd) hG hA hP hD hS 0 rfl [0, 1] rfl rfl (fun _ => rfl) rfl hl.1 rfl (Nat.le_of_ble_eq_true rfl) ⟨by decide, by decide⟩ ⟨by decide, by decide⟩ dCK_label_2 (fun _ H locs _ hP hD hS => ?_)
  have hP : va_P G.1 vwCl [oC ox 7 [.ref oc, .ref ot, .ref oo, .ref oe, .ref op, .ref ocs, .ref ods, .long oh, .long ol], oC ot 6 [.int (nI dp), .long sh, .long sl], aQ G ods 256 dec] H := hP
  have hD : va_D A [oC ox 7 [.ref oc, .ref ot, .ref oo, .ref oe, .ref op, .ref ocs, .ref ods, .long oh, .long ol], oC ot 6 [.int (nI dp), .long sh, .long sl], aQ G ods 256 dec] := hD
  refine W.cs (cells' := 0) (slots' := 0) rfl rfl ?_
  refine W.eq (g2 := F0 m 5 ls []) rfl ?_
  refine lv_aload_n hx hb dCK_label_5 rfl (lv_at hl 0 rfl) ?_
  refine lv_iload_n hx hb dCK_label_6 rfl (lv_at hl 1 rfl) ?_
  refine clCK_212 (As := [.int (nI dd)]) (rest := []) hx hb hml hown hts (k_CK_checkInstalled l G ox oc ot oo oe op ocs ods oh ol dec dd od (by omega) ho) hG hA hP hD hS 0 rfl [0, 2] rfl rfl (fun _ => rfl) rfl hl.1 rfl (Nat.le_of_ble_eq_true rfl) ⟨by decide, by decide⟩ ⟨by decide, by decide⟩ dCK_label_7 (fun _ H locs _ hP hD hS => ?_)
  have hP : va_P G.1 vwCl [oC ox 7 [.ref oc, .ref ot, .ref oo, .ref oe, .ref op, .ref ocs, .ref ods, .long oh, .long ol], oC ot 6 [.int (nI dp), .long sh, .long sl], aQ G ods 256 dec] H := hP
  have hD : va_D A [oC ox 7 [.ref oc, .ref ot, .ref oo, .ref oe, .ref op, .ref ocs, .ref ods, .long oh, .long ol], oC ot 6 [.int (nI dp), .long sh, .long sl], aQ G ods 256 dec] := hD
  refine W.cs (cells' := 0) (slots' := 0) rfl rfl ?_
  refine W.eq (g2 := F0 m 10 ls []) rfl ?_
  refine lv_iload_n hx hb dCK_label_10 rfl (lv_at hl 3 rfl) ?_
  refine lv_if_lt (tgt := 34) hx hb dCK_label_11 rfl (fun h5 => ?_) (fun h5 => ?_)
  · have b_h5 := decide_eq_true h5
    exact cxIAE (sx := 215) (tx := "no such label, or nothing of the kind about it") hl0 hx hb hml hown hts htb hlk hG hP hS hl.1 (by decide) dCK_label_34 dCK_label_37 dCK_label_38 dCK_label_40 dCK_label_43 (by decide) (Nat.le_of_ble_eq_true rfl) (by decide) (by decide) (by decide) (by decide)
  · have b_h5 := decide_eq_false h5
    refine lv_iload_n hx hb dCK_label_14 rfl (lv_at hl 3 rfl) ?_
    refine lv_iconst (v := nI 3) hx hb dCK_label_15 (by decide) ?_
    refine lv_icmp_gt (tgt := 34) hx hb dCK_label_16 rfl (fun h6 => ?_) (fun h6 => ?_)
    · have b_h6 := decide_eq_true h6
      exact cxIAE (sx := 215) (tx := "no such label, or nothing of the kind about it") hl0 hx hb hml hown hts htb hlk hG hP hS hl.1 (by decide) dCK_label_34 dCK_label_37 dCK_label_38 dCK_label_40 dCK_label_43 (by decide) (Nat.le_of_ble_eq_true rfl) (by decide) (by decide) (by decide) (by decide)
    · have b_h6 := decide_eq_false h6
      refine lv_iload_n hx hb dCK_label_19 rfl (lv_at hl 2 rfl) ?_
      refine lv_if_lt (tgt := 34) hx hb dCK_label_20 rfl (fun h7 => ?_) (fun h7 => ?_)
      · have b_h7 := decide_eq_true h7
        exact cxIAE (sx := 215) (tx := "no such label, or nothing of the kind about it") hl0 hx hb hml hown hts htb hlk hG hP hS hl.1 (by decide) dCK_label_34 dCK_label_37 dCK_label_38 dCK_label_40 dCK_label_43 (by decide) (Nat.le_of_ble_eq_true rfl) (by decide) (by decide) (by decide) (by decide)
      · have b_h7 := decide_eq_false h7
        refine lv_iload_n hx hb dCK_label_23 rfl (lv_at hl 2 rfl) ?_
        refine lv_aload_n hx hb dCK_label_24 rfl (lv_at hl 0 rfl) ?_
        refine gfCK_19 hx hb hts hown hG hP 0 rfl rfl dCK_label_25 ?_
        refine clCK_82 (As := []) (rest := [.int k1]) hx hb hml hown hts (k_Tr_labelsEach l G ot dp hdp sh sl) hG hA hP hD hS 1 rfl [1] rfl rfl (fun _ => rfl) rfl hl.1 rfl (Nat.le_of_ble_eq_true rfl) ⟨by decide, by decide⟩ ⟨by decide, by decide⟩ dCK_label_28 (fun _ H locs _ hP hD hS => ?_)
        have hP : va_P G.1 vwCl [oC ox 7 [.ref oc, .ref ot, .ref oo, .ref oe, .ref op, .ref ocs, .ref ods, .long oh, .long ol], oC ot 6 [.int (nI dp), .long sh, .long sl], aQ G ods 256 dec] H := hP
        have hD : va_D A [oC ox 7 [.ref oc, .ref ot, .ref oo, .ref oe, .ref op, .ref ocs, .ref ods, .long oh, .long ol], oC ot 6 [.int (nI dp), .long sh, .long sl], aQ G ods 256 dec] := hD
        refine W.cs (cells' := 0) (slots' := 0) rfl rfl ?_
        refine W.eq (g2 := F0 m 31 ls [.int (nI (dp * (dp + 1) / 2)), .int k1]) rfl ?_
        refine lv_icmp_lt (tgt := 44) hx hb dCK_label_31 rfl (fun h => absurd h (fun z => by rw [b_h5, b_h6, b_h7, decide_eq_true z] at hb9; cases hb9)) (fun _ => ?_)
        exact cxIAE (sx := 215) (tx := "no such label, or nothing of the kind about it") hl0 hx hb hml hown hts htb hlk hG hP hS hl.1 (by decide) dCK_label_34 dCK_label_37 dCK_label_38 dCK_label_40 dCK_label_43 (by decide) (Nat.le_of_ble_eq_true rfl) (by decide) (by decide) (by decide) (by decide)
