/-! CoverKeys.hear -/
def jV (f : Nat → Int32) (i : Nat) : Int32 := (jRd f (5 + 28 * i) 2).toInt32
def jW (f : Nat → Int32) (i : Nat) : Int32 := (jRd f (5 + 28 * i + 2) 2).toInt32
def jU (f : Nat → Int32) (sh sl : Int64) (i : Nat) (v w : Int32) : Q3 := jUw (jKey (jKy sh sl v w (jLv w v)).1 (jKy sh sl v w (jLv w v)).2) (jRd f (5 + 28 * i + 4) 8, jRd f (5 + 28 * i + 12) 8, jRd f (5 + 28 * i + 20) 8) 12
/-- what a decoder gets out of the entries from i on, k of them: the answer, and the key where there is one -/
def jHr (dp : Nat) (d : Int32) (f : Nat → Int32) (sh sl : Int64) : Nat → Nat → Bool → Int32 × Option (Int64 × Int64)
  | 0, _, b => (if b = true then -1 else nI 0, none)
  | k + 1, i, b => if jDer dp d (jV f i) (jW f i) = true then (if (jU f sh sl i (jV f i) (jW f i)).1 = jSeal then (nI 1, some ((jU f sh sl i (jV f i) (jW f i)).2.1, (jU f sh sl i (jV f i) (jW f i)).2.2)) else jHr dp d f sh sl k (i + 1) true) else jHr dp d f sh sl k (i + 1) b
def jKp (o : Option (Int64 × Int64)) (pf : Nat → Int32) (c : Nat) (x : Int32) : Nat → Int32 := match o with
  | none => pf
  | some _ => upd pf c x
def jKh (o : Option (Int64 × Int64)) (hf : Nat → Int64) (c : Nat) : Nat → Int64 := match o with
  | none => hf
  | some q => vp_updL hf c q.1
def jKl (o : Option (Int64 × Int64)) (hf : Nat → Int64) (c : Nat) : Nat → Int64 := match o with
  | none => hf
  | some q => vp_updL hf c q.2
theorem jDer_sub {dp : Nat} {d v w : Int32} (h : jDer dp d v w = true) : jSub dp v w = true := by
  unfold jDer at h
  simp only [Bool.and_eq_true] at h
  exact h.1
set_option maxHeartbeats 4000000 in
set_option maxRecDepth 100000 in
theorem k_CK_hear0 (l : Launch) (G : gG) (ox oc ot oo oe op ocs ods : Nat) (oh ol : Int64) (dp : Nat) (hdp : dp ≤ 8) (sh sl : Int64) (dec : Nat → Option Nat) (dd : Nat) (hd : dd < 2 ^ dp) (ob od q : Nat) (f : Nat → Int32) (hq : 0 < q) (hq2 : q ≤ 229) (ho : dec dd = some od) (hch : ¬ (jRd f 0 1).toInt32 < nI 4) : Ck l G yCK_hear cCK_hear 8 (some .int) { frames := 2, cells := 0, slots := 0, locals := 41 } [.ref ox, .int (nI dd)] [oC ox 7 [.ref oc, .ref ot, .ref oo, .ref oe, .ref op, .ref ocs, .ref ods, .long oh, .long ol], oC ot 6 [.int (nI dp), .long sh, .long sl], oC op 5 [.ref ob, .int (nI q)], aI G ob 229 f, aQ G ods 256 dec] (some (.int (nI 0))) [oC ox 7 [.ref oc, .ref ot, .ref oo, .ref oe, .ref op, .ref ocs, .ref ods, .long oh, .long ol], oC ot 6 [.int (nI dp), .long sh, .long sl], oC op 5 [.ref ob, .int (nI q)], aI G ob 229 f, aQ G ods 256 dec] := by
  refine Cq.of (by decide) (Nat.le_of_ble_eq_true rfl) ?_
  intro p e s m args below meth c A ls hx hb hr hml hts hown hlk hA hP hD hG hS hl
  have hp2 : 2 ^ dp ≤ 256 := Nat.pow_le_pow_right (n := 2) (by decide) hdp
  have hp1 : 1 ≤ 2 ^ dp := Nat.one_le_two_pow
  have hl : lv_has ls 8 [(0, .ref ox), (1, .int (nI dd))] := hl
  refine lv_aload_n hx hb dCK_hear_0 rfl (lv_at hl 0 rfl) ?_
  refine lv_iload_n hx hb dCK_hear_1 rfl (lv_at hl 1 rfl) ?_
  refine clCK_72 (As := [.int (nI dd)]) (rest := []) hx hb hml hown hts (k_CK_checkDecoder l G ox oc ot oo oe op ocs ods oh ol dp hdp sh sl dd hd) hG hA hP hD hS 0 rfl [0, 1] rfl rfl (fun _ => rfl) rfl hl.1 rfl (Nat.le_of_ble_eq_true rfl) ⟨by decide, by decide⟩ ⟨by decide, by decide⟩ dCK_hear_2 (fun _ H locs _ hP hD hS => ?_)
  have hP : va_P G.1 vwCl [oC ox 7 [.ref oc, .ref ot, .ref oo, .ref oe, .ref op, .ref ocs, .ref ods, .long oh, .long ol], oC ot 6 [.int (nI dp), .long sh, .long sl], oC op 5 [.ref ob, .int (nI q)], aI G ob 229 f, aQ G ods 256 dec] H := hP
  have hD : va_D A [oC ox 7 [.ref oc, .ref ot, .ref oo, .ref oe, .ref op, .ref ocs, .ref ods, .long oh, .long ol], oC ot 6 [.int (nI dp), .long sh, .long sl], oC op 5 [.ref ob, .int (nI q)], aI G ob 229 f, aQ G ods 256 dec] := hD
  refine W.cs (cells' := 0) (slots' := 0) rfl rfl ?_
  refine W.eq (g2 := F0 m 5 ls []) rfl ?_
  refine lv_aload_n hx hb dCK_hear_5 rfl (lv_at hl 0 rfl) ?_
  refine gfCK_52 hx hb hts hown hG hP 0 rfl rfl dCK_hear_6 ?_
  refine lv_iload_n hx hb dCK_hear_9 rfl (lv_at hl 1 rfl) ?_
  refine ck_qald (v := .ref od) hx hb hG hP 4 rfl (by decide) dd (rfl) (by omega) (by rw [ho]; rfl) dCK_hear_10 ?_
  refine lv_astore_n (lv' := [(2, .ref od), (0, .ref ox), (1, .int (nI dd))]) hx hb dCK_hear_11 rfl hl (by decide) rfl (fun ls hl => ?_)
  refine lv_aload_n hx hb dCK_hear_12 rfl (lv_at hl 0 rfl) ?_
  refine lv_ifnull hx hb dCK_hear_13 ?_
  refine lv_aload_n hx hb dCK_hear_16 rfl (lv_at hl 1 rfl) ?_
  refine gfCK_40 hx hb hts hown hG hP 0 rfl rfl dCK_hear_17 ?_
  refine gfCK_135 hx hb hts hown hG hP 2 rfl rfl dCK_hear_20 ?_
  refine lv_if_ne (tgt := 36) hx hb dCK_hear_23 rfl (fun _ => ?_) (fun h => absurd h (nI_ne0 hq (by omega)))
  refine lv_aload_n hx hb dCK_hear_36 rfl (lv_at hl 1 rfl) ?_
  refine gfCK_40 hx hb hts hown hG hP 0 rfl rfl dCK_hear_37 ?_
  refine lv_iconst (v := nI 0) hx hb dCK_hear_40 (by decide) ?_
  refine lv_iconst (v := nI 1) hx hb dCK_hear_41 (by decide) ?_
  refine clCK_147 (As := [.int (nI 0), .int (nI 1)]) (rest := []) hx hb hml hown hts (k_Pa_read l G op ob q 0 1 f (by omega) (by omega)) hG hA hP hD hS 2 rfl [2, 3] rfl rfl (fun _ => rfl) rfl hl.1 rfl (Nat.le_of_ble_eq_true rfl) ⟨by decide, by decide⟩ ⟨by decide, by decide⟩ dCK_hear_42 (fun _ H locs _ hP hD hS => ?_)
  have hP : va_P G.1 vwCl [oC ox 7 [.ref oc, .ref ot, .ref oo, .ref oe, .ref op, .ref ocs, .ref ods, .long oh, .long ol], oC ot 6 [.int (nI dp), .long sh, .long sl], oC op 5 [.ref ob, .int (nI q)], aI G ob 229 f, aQ G ods 256 dec] H := hP
  have hD : va_D A [oC ox 7 [.ref oc, .ref ot, .ref oo, .ref oe, .ref op, .ref ocs, .ref ods, .long oh, .long ol], oC ot 6 [.int (nI dp), .long sh, .long sl], oC op 5 [.ref ob, .int (nI q)], aI G ob 229 f, aQ G ods 256 dec] := hD
  refine W.cs (cells' := 0) (slots' := 0) rfl rfl ?_
  refine W.eq (g2 := F0 m 45 ls [.long (jRd f 0 1)]) rfl ?_
  refine lv_l2i (v := (jRd f 0 1).toInt32) hx hb dCK_hear_45 rfl ?_
  refine lv_istore_n (lv' := [(3, .int ((jRd f 0 1).toInt32)), (2, .ref od), (0, .ref ox), (1, .int (nI dd))]) hx hb dCK_hear_46 rfl hl (by decide) rfl (fun ls hl => ?_)
  refine lv_iload_n hx hb dCK_hear_47 rfl (lv_at hl 0 rfl) ?_
  refine lv_iconst (v := nI 4) hx hb dCK_hear_48 (by decide) ?_
  refine lv_icmp_lt (tgt := 54) hx hb dCK_hear_49 rfl (fun h => absurd h (hch)) (fun _ => ?_)
  refine lv_iconst (v := nI 0) hx hb dCK_hear_52 (by decide) ?_
  exact cq_iret () (trivial) hx hb hr hlk hP hS (rfl) (rfl) dCK_hear_53
set_option maxHeartbeats 4000000 in
set_option maxRecDepth 100000 in
theorem k_CK_hear1 (l : Launch) (G : gG) (ox oc ot oo oe op ocs ods : Nat) (oh ol : Int64) (dp : Nat) (hdp : dp ≤ 8) (sh sl : Int64) (dec : Nat → Option Nat) (dd : Nat) (hd : dd < 2 ^ dp) (owd ob od dq dh dl c4 m1 : Nat) (hc : c4 < 4) (f g : Nat → Int32) (e0 f0 c0 h0 l0 : Int64) (pf : Nat → Int32) (hf lf : Nat → Int64) (hm1 : m1 ≤ 8) (ho : dec dd = some od) (hch : (jRd f 0 1).toInt32 = nI c4) : Cq l G yCK_hear cCK_hear 8 (some .int) { frames := 6, cells := 0, slots := 0, locals := 146 } [.ref ox, .int (nI dd)] [oC ox 7 [.ref oc, .ref ot, .ref oo, .ref oe, .ref op, .ref ocs, .ref ods, .long oh, .long ol], oC ot 6 [.int (nI dp), .long sh, .long sl], oC oc 1 [.ref owd, .long e0, .long f0], aI G owd 44 g, oC oe 4 [.long c0, .long h0, .long l0], oC op 5 [.ref ob, .int (nI (5 + 28 * m1))], aI G ob 229 f, aQ G ods 256 dec, oC od 3 [.ref dq, .ref dh, .ref dl], aI G dq 4 pf, aJ G dh 4 hf, aJ G dl 4 lf] (S := (Nat → Int32) × Int64 × Int64 × Int64 × Int64 × Int64) (fun _ => True) (fun u => some (.int (jHr dp (nI dd) f sh sl m1 0 false).1)) (fun u => [oC ox 7 [.ref oc, .ref ot, .ref oo, .ref oe, .ref op, .ref ocs, .ref ods, .long oh, .long ol], oC ot 6 [.int (nI dp), .long sh, .long sl], oC oc 1 [.ref owd, .long u.2.1, .long u.2.2.1], aI G owd 44 u.1, oC oe 4 [.long u.2.2.2.1, .long u.2.2.2.2.1, .long u.2.2.2.2.2], oC op 5 [.ref ob, .int (nI (5 + 28 * m1))], aI G ob 229 f, aQ G ods 256 dec, oC od 3 [.ref dq, .ref dh, .ref dl], aI G dq 4 (jKp (jHr dp (nI dd) f sh sl m1 0 false).2 pf c4 (jRd f 1 2).toInt32), aJ G dh 4 (jKh (jHr dp (nI dd) f sh sl m1 0 false).2 hf c4), aJ G dl 4 (jKl (jHr dp (nI dd) f sh sl m1 0 false).2 lf c4)]) := by
  refine Cq.of (by decide) (Nat.le_of_ble_eq_true rfl) ?_
  intro p e s m args below meth c A ls hx hb hr hml hts hown hlk hA hP hD hG hS hl
  have hp2 : 2 ^ dp ≤ 256 := Nat.pow_le_pow_right (n := 2) (by decide) hdp
  have hp1 : 1 ≤ 2 ^ dp := Nat.one_le_two_pow
  have hl : lv_has ls 8 [(0, .ref ox), (1, .int (nI dd))] := hl
  refine lv_aload_n hx hb dCK_hear_0 rfl (lv_at hl 0 rfl) ?_
  refine lv_iload_n hx hb dCK_hear_1 rfl (lv_at hl 1 rfl) ?_
  refine clCK_72 (As := [.int (nI dd)]) (rest := []) hx hb hml hown hts (k_CK_checkDecoder l G ox oc ot oo oe op ocs ods oh ol dp hdp sh sl dd hd) hG hA hP hD hS 0 rfl [0, 1] rfl rfl (fun _ => rfl) rfl hl.1 rfl (Nat.le_of_ble_eq_true rfl) ⟨by decide, by decide⟩ ⟨by decide, by decide⟩ dCK_hear_2 (fun _ H locs _ hP hD hS => ?_)
  have hP : va_P G.1 vwCl [oC ox 7 [.ref oc, .ref ot, .ref oo, .ref oe, .ref op, .ref ocs, .ref ods, .long oh, .long ol], oC ot 6 [.int (nI dp), .long sh, .long sl], oC oc 1 [.ref owd, .long e0, .long f0], aI G owd 44 g, oC oe 4 [.long c0, .long h0, .long l0], oC op 5 [.ref ob, .int (nI (5 + 28 * m1))], aI G ob 229 f, aQ G ods 256 dec, oC od 3 [.ref dq, .ref dh, .ref dl], aI G dq 4 pf, aJ G dh 4 hf, aJ G dl 4 lf] H := hP
  have hD : va_D A [oC ox 7 [.ref oc, .ref ot, .ref oo, .ref oe, .ref op, .ref ocs, .ref ods, .long oh, .long ol], oC ot 6 [.int (nI dp), .long sh, .long sl], oC oc 1 [.ref owd, .long e0, .long f0], aI G owd 44 g, oC oe 4 [.long c0, .long h0, .long l0], oC op 5 [.ref ob, .int (nI (5 + 28 * m1))], aI G ob 229 f, aQ G ods 256 dec, oC od 3 [.ref dq, .ref dh, .ref dl], aI G dq 4 pf, aJ G dh 4 hf, aJ G dl 4 lf] := hD
  refine W.cs (cells' := 0) (slots' := 0) rfl rfl ?_
  refine W.eq (g2 := F0 m 5 ls []) rfl ?_
  refine lv_aload_n hx hb dCK_hear_5 rfl (lv_at hl 0 rfl) ?_
  refine gfCK_52 hx hb hts hown hG hP 0 rfl rfl dCK_hear_6 ?_
  refine lv_iload_n hx hb dCK_hear_9 rfl (lv_at hl 1 rfl) ?_
  refine ck_qald (v := .ref od) hx hb hG hP 7 rfl (by decide) dd (rfl) (by omega) (by rw [ho]; rfl) dCK_hear_10 ?_
  refine lv_astore_n (lv' := [(2, .ref od), (0, .ref ox), (1, .int (nI dd))]) hx hb dCK_hear_11 rfl hl (by decide) rfl (fun ls hl => ?_)
  refine lv_aload_n hx hb dCK_hear_12 rfl (lv_at hl 0 rfl) ?_
  refine lv_ifnull hx hb dCK_hear_13 ?_
  refine lv_aload_n hx hb dCK_hear_16 rfl (lv_at hl 1 rfl) ?_
  refine gfCK_40 hx hb hts hown hG hP 0 rfl rfl dCK_hear_17 ?_
  refine gfCK_135 hx hb hts hown hG hP 5 rfl rfl dCK_hear_20 ?_
  refine lv_if_ne (tgt := 36) hx hb dCK_hear_23 rfl (fun _ => ?_) (fun h => absurd h (nI_ne0 (by omega) (by omega)))
  refine lv_aload_n hx hb dCK_hear_36 rfl (lv_at hl 1 rfl) ?_
  refine gfCK_40 hx hb hts hown hG hP 0 rfl rfl dCK_hear_37 ?_
  refine lv_iconst (v := nI 0) hx hb dCK_hear_40 (by decide) ?_
  refine lv_iconst (v := nI 1) hx hb dCK_hear_41 (by decide) ?_
  refine clCK_147 (As := [.int (nI 0), .int (nI 1)]) (rest := []) hx hb hml hown hts (k_Pa_read l G op ob (5 + 28 * m1) 0 1 f (by omega) (by omega)) hG hA hP hD hS 5 rfl [5, 6] rfl rfl (fun _ => rfl) rfl hl.1 rfl (Nat.le_of_ble_eq_true rfl) ⟨by decide, by decide⟩ ⟨by decide, by decide⟩ dCK_hear_42 (fun _ H locs _ hP hD hS => ?_)
  have hP : va_P G.1 vwCl [oC ox 7 [.ref oc, .ref ot, .ref oo, .ref oe, .ref op, .ref ocs, .ref ods, .long oh, .long ol], oC ot 6 [.int (nI dp), .long sh, .long sl], oC oc 1 [.ref owd, .long e0, .long f0], aI G owd 44 g, oC oe 4 [.long c0, .long h0, .long l0], oC op 5 [.ref ob, .int (nI (5 + 28 * m1))], aI G ob 229 f, aQ G ods 256 dec, oC od 3 [.ref dq, .ref dh, .ref dl], aI G dq 4 pf, aJ G dh 4 hf, aJ G dl 4 lf] H := hP
  have hD : va_D A [oC ox 7 [.ref oc, .ref ot, .ref oo, .ref oe, .ref op, .ref ocs, .ref ods, .long oh, .long ol], oC ot 6 [.int (nI dp), .long sh, .long sl], oC oc 1 [.ref owd, .long e0, .long f0], aI G owd 44 g, oC oe 4 [.long c0, .long h0, .long l0], oC op 5 [.ref ob, .int (nI (5 + 28 * m1))], aI G ob 229 f, aQ G ods 256 dec, oC od 3 [.ref dq, .ref dh, .ref dl], aI G dq 4 pf, aJ G dh 4 hf, aJ G dl 4 lf] := hD
  refine W.cs (cells' := 0) (slots' := 0) rfl rfl ?_
  refine W.eq (g2 := F0 m 45 ls [.long (jRd f 0 1)]) rfl ?_
  refine lv_l2i (v := (jRd f 0 1).toInt32) hx hb dCK_hear_45 rfl ?_
  refine ck_ri (y := nI c4) (hch) ?_
  refine lv_istore_n (lv' := [(3, .int (nI c4)), (2, .ref od), (0, .ref ox), (1, .int (nI dd))]) hx hb dCK_hear_46 rfl hl (by decide) rfl (fun ls hl => ?_)
  refine lv_iload_n hx hb dCK_hear_47 rfl (lv_at hl 0 rfl) ?_
  refine lv_iconst (v := nI 4) hx hb dCK_hear_48 (by decide) ?_
  refine lv_icmp_lt (tgt := 54) hx hb dCK_hear_49 rfl (fun _ => ?_) (fun h => absurd (nI_lt hc (by omega)) h)
  refine lv_iconst (v := nI 0) hx hb dCK_hear_54 (by decide) ?_
  refine lv_istore (lv' := [(4, .int (nI 0)), (3, .int (nI c4)), (2, .ref od), (0, .ref ox), (1, .int (nI dd))]) hx hb dCK_hear_55 hl (by decide) rfl (fun ls hl => ?_)
  refine lv_iconst (v := nI 5) hx hb dCK_hear_57 (by decide) ?_
  refine lv_istore (lv' := [(5, .int (nI 5)), (4, .int (nI 0)), (3, .int (nI c4)), (2, .ref od), (0, .ref ox), (1, .int (nI dd))]) hx hb dCK_hear_58 hl (by decide) rfl (fun ls hl => ?_)
  have loop : ∀ (k : Nat) (i : Nat) (b : Bool) (g1 : Nat → Int32) (e1 : Int64) (f1 : Int64) (c2 : Int64) (h2 : Int64) (l2 : Int64) (H : Heap) (locs : List Loc) (ls : Array Slot), i + k = m1 → jHr dp (nI dd) f sh sl m1 0 false = jHr dp (nI dd) f sh sl k i b → va_P G.1 vwCl [oC ox 7 [.ref oc, .ref ot, .ref oo, .ref oe, .ref op, .ref ocs, .ref ods, .long oh, .long ol], oC ot 6 [.int (nI dp), .long sh, .long sl], oC oc 1 [.ref owd, .long e1, .long f1], aI G owd 44 g1, oC oe 4 [.long c2, .long h2, .long l2], oC op 5 [.ref ob, .int (nI (5 + 28 * m1))], aI G ob 229 f, aQ G ods 256 dec, oC od 3 [.ref dq, .ref dh, .ref dl], aI G dq 4 pf, aJ G dh 4 hf, aJ G dl 4 lf] H → va_D A [oC ox 7 [.ref oc, .ref ot, .ref oo, .ref oe, .ref op, .ref ocs, .ref ods, .long oh, .long ol], oC ot 6 [.int (nI dp), .long sh, .long sl], oC oc 1 [.ref owd, .long e1, .long f1], aI G owd 44 g1, oC oe 4 [.long c2, .long h2, .long l2], oC op 5 [.ref ob, .int (nI (5 + 28 * m1))], aI G ob 229 f, aQ G ods 256 dec, oC od 3 [.ref dq, .ref dh, .ref dl], aI G dq 4 pf, aJ G dh 4 hf, aJ G dl 4 lf] → va_S A s.heap H locs → lv_has ls 8 [(0, .ref ox), (1, .int (nI dd)), (2, .ref od), (3, .int (nI c4)), (4, .int (jB b)), (5, .int (nI (5 + 28 * i)))] → W p l e { frames := 6, cells := 0, slots := 0, locals := 146 } s m args below meth c H locs 0 0 (MQ below (cq_out G (S := (Nat → Int32) × Int64 × Int64 × Int64 × Int64 × Int64) (fun _ => True) (fun u => some (.int (jHr dp (nI dd) f sh sl m1 0 false).1)) (fun u => [oC ox 7 [.ref oc, .ref ot, .ref oo, .ref oe, .ref op, .ref ocs, .ref ods, .long oh, .long ol], oC ot 6 [.int (nI dp), .long sh, .long sl], oC oc 1 [.ref owd, .long u.2.1, .long u.2.2.1], aI G owd 44 u.1, oC oe 4 [.long u.2.2.2.1, .long u.2.2.2.2.1, .long u.2.2.2.2.2], oC op 5 [.ref ob, .int (nI (5 + 28 * m1))], aI G ob 229 f, aQ G ods 256 dec, oC od 3 [.ref dq, .ref dh, .ref dl], aI G dq 4 (jKp (jHr dp (nI dd) f sh sl m1 0 false).2 pf c4 (jRd f 1 2).toInt32), aJ G dh 4 (jKh (jHr dp (nI dd) f sh sl m1 0 false).2 hf c4), aJ G dl 4 (jKl (jHr dp (nI dd) f sh sl m1 0 false).2 lf c4)]) A) args s 0 0 A) (F0 m 60 ls []) := by
    intro k
    induction k with
    | zero =>
      intro i b g1 e1 f1 c2 h2 l2 H locs ls hk hq hP hD hS hl
      refine lv_iload hx hb dCK_hear_60 (lv_at hl 5 rfl) ?_
      refine lv_bipush (v := nI 28) hx hb dCK_hear_62 (by decide) ?_
      refine lv_iadd hx hb dCK_hear_64 ?_
      refine ck_ri (y := nI (5 + 28 * i + 28)) (nI_add _ 28) ?_
      refine lv_aload_n hx hb dCK_hear_65 rfl (lv_at hl 0 rfl) ?_
      refine gfCK_40 hx hb hts hown hG hP 0 rfl rfl dCK_hear_66 ?_
      refine gfCK_135 hx hb hts hown hG hP 5 rfl rfl dCK_hear_69 ?_
      refine lv_icmp_gt (tgt := 171) hx hb dCK_hear_72 rfl (fun _ => ?_) (fun h => absurd (nI_lt (by omega) (by omega)) h)
      refine lv_iload hx hb dCK_hear_171 (lv_at hl 4 rfl) ?_
      refine lv_if_eq (tgt := 180) hx hb dCK_hear_173 rfl (fun h9 => ?_) (fun h9 => ?_)
      · have hb9 : b = false := (jB_0 b).mp h9
        refine lv_iconst (v := nI 0) hx hb dCK_hear_180 (by decide) ?_
        exact cq_iret (g1, e1, f1, c2, h2, l2) (trivial) hx hb hr hlk hP hS (by rw [hq, hb9]; rfl) (by rw [hq]; rfl) dCK_hear_181
      · have hb9 : b = true := (jB_n0 b).mp h9
        refine lv_iconst (v := (-1)) hx hb dCK_hear_176 (by decide) ?_
        refine lv_goto (tgt := 181) hx hb dCK_hear_177 rfl ?_
        exact cq_iret (g1, e1, f1, c2, h2, l2) (trivial) hx hb hr hlk hP hS (by rw [hq, hb9]; rfl) (by rw [hq]; rfl) dCK_hear_181
    | succ k ih =>
      intro i b g1 e1 f1 c2 h2 l2 H locs ls hk hq hP hD hS hl
      refine lv_iload hx hb dCK_hear_60 (lv_at hl 5 rfl) ?_
      refine lv_bipush (v := nI 28) hx hb dCK_hear_62 (by decide) ?_
      refine lv_iadd hx hb dCK_hear_64 ?_
      refine ck_ri (y := nI (5 + 28 * i + 28)) (nI_add _ 28) ?_
      refine lv_aload_n hx hb dCK_hear_65 rfl (lv_at hl 0 rfl) ?_
      refine gfCK_40 hx hb hts hown hG hP 0 rfl rfl dCK_hear_66 ?_
      refine gfCK_135 hx hb hts hown hG hP 5 rfl rfl dCK_hear_69 ?_
      refine lv_icmp_gt (tgt := 171) hx hb dCK_hear_72 rfl (fun h => absurd h (nI_nlt (by omega) (by omega))) (fun _ => ?_)
      refine lv_aload_n hx hb dCK_hear_75 rfl (lv_at hl 0 rfl) ?_
      refine gfCK_40 hx hb hts hown hG hP 0 rfl rfl dCK_hear_76 ?_
      refine lv_iload hx hb dCK_hear_79 (lv_at hl 5 rfl) ?_
      refine lv_iconst (v := nI 2) hx hb dCK_hear_81 (by decide) ?_
      refine clCK_147 (As := [.int (nI (5 + 28 * i)), .int (nI 2)]) (rest := []) hx hb hml hown hts (k_Pa_read l G op ob (5 + 28 * m1) (5 + 28 * i) 2 f (by omega) (by omega)) hG hA hP hD hS 5 rfl [5, 6] rfl rfl (fun _ => rfl) rfl hl.1 rfl (Nat.le_of_ble_eq_true rfl) ⟨by decide, by decide⟩ ⟨by decide, by decide⟩ dCK_hear_82 (fun _ H locs _ hP hD hS => ?_)
      have hP : va_P G.1 vwCl [oC ox 7 [.ref oc, .ref ot, .ref oo, .ref oe, .ref op, .ref ocs, .ref ods, .long oh, .long ol], oC ot 6 [.int (nI dp), .long sh, .long sl], oC oc 1 [.ref owd, .long e1, .long f1], aI G owd 44 g1, oC oe 4 [.long c2, .long h2, .long l2], oC op 5 [.ref ob, .int (nI (5 + 28 * m1))], aI G ob 229 f, aQ G ods 256 dec, oC od 3 [.ref dq, .ref dh, .ref dl], aI G dq 4 pf, aJ G dh 4 hf, aJ G dl 4 lf] H := hP
      have hD : va_D A [oC ox 7 [.ref oc, .ref ot, .ref oo, .ref oe, .ref op, .ref ocs, .ref ods, .long oh, .long ol], oC ot 6 [.int (nI dp), .long sh, .long sl], oC oc 1 [.ref owd, .long e1, .long f1], aI G owd 44 g1, oC oe 4 [.long c2, .long h2, .long l2], oC op 5 [.ref ob, .int (nI (5 + 28 * m1))], aI G ob 229 f, aQ G ods 256 dec, oC od 3 [.ref dq, .ref dh, .ref dl], aI G dq 4 pf, aJ G dh 4 hf, aJ G dl 4 lf] := hD
      refine W.cs (cells' := 0) (slots' := 0) rfl rfl ?_
      refine W.eq (g2 := F0 m 85 ls [.long (jRd f (5 + 28 * i) 2)]) rfl ?_
      refine lv_l2i (v := (jRd f (5 + 28 * i) 2).toInt32) hx hb dCK_hear_85 rfl ?_
      refine ck_ri (y := jV f i) (rfl) ?_
      refine lv_topi (fun v9 e_v9 => ?_)
      refine lv_istore (lv' := [(6, .int v9), (0, .ref ox), (1, .int (nI dd)), (2, .ref od), (3, .int (nI c4)), (4, .int (jB b)), (5, .int (nI (5 + 28 * i)))]) hx hb dCK_hear_86 hl (by decide) rfl (fun ls hl => ?_)
      refine lv_aload_n hx hb dCK_hear_88 rfl (lv_at hl 1 rfl) ?_
      refine gfCK_40 hx hb hts hown hG hP 0 rfl rfl dCK_hear_89 ?_
      refine lv_iload hx hb dCK_hear_92 (lv_at hl 6 rfl) ?_
      refine lv_iconst (v := nI 2) hx hb dCK_hear_94 (by decide) ?_
      refine lv_iadd hx hb dCK_hear_95 ?_
      refine ck_ri (y := nI (5 + 28 * i + 2)) (nI_add _ 2) ?_
      refine lv_iconst (v := nI 2) hx hb dCK_hear_96 (by decide) ?_
      refine clCK_147 (As := [.int (nI (5 + 28 * i + 2)), .int (nI 2)]) (rest := []) hx hb hml hown hts (k_Pa_read l G op ob (5 + 28 * m1) (5 + 28 * i + 2) 2 f (by omega) (by omega)) hG hA hP hD hS 5 rfl [5, 6] rfl rfl (fun _ => rfl) rfl hl.1 rfl (Nat.le_of_ble_eq_true rfl) ⟨by decide, by decide⟩ ⟨by decide, by decide⟩ dCK_hear_97 (fun _ H locs _ hP hD hS => ?_)
      have hP : va_P G.1 vwCl [oC ox 7 [.ref oc, .ref ot, .ref oo, .ref oe, .ref op, .ref ocs, .ref ods, .long oh, .long ol], oC ot 6 [.int (nI dp), .long sh, .long sl], oC oc 1 [.ref owd, .long e1, .long f1], aI G owd 44 g1, oC oe 4 [.long c2, .long h2, .long l2], oC op 5 [.ref ob, .int (nI (5 + 28 * m1))], aI G ob 229 f, aQ G ods 256 dec, oC od 3 [.ref dq, .ref dh, .ref dl], aI G dq 4 pf, aJ G dh 4 hf, aJ G dl 4 lf] H := hP
      have hD : va_D A [oC ox 7 [.ref oc, .ref ot, .ref oo, .ref oe, .ref op, .ref ocs, .ref ods, .long oh, .long ol], oC ot 6 [.int (nI dp), .long sh, .long sl], oC oc 1 [.ref owd, .long e1, .long f1], aI G owd 44 g1, oC oe 4 [.long c2, .long h2, .long l2], oC op 5 [.ref ob, .int (nI (5 + 28 * m1))], aI G ob 229 f, aQ G ods 256 dec, oC od 3 [.ref dq, .ref dh, .ref dl], aI G dq 4 pf, aJ G dh 4 hf, aJ G dl 4 lf] := hD
      refine W.cs (cells' := 0) (slots' := 0) rfl rfl ?_
      refine W.eq (g2 := F0 m 100 ls [.long (jRd f (5 + 28 * i + 2) 2)]) rfl ?_
      refine lv_l2i (v := (jRd f (5 + 28 * i + 2) 2).toInt32) hx hb dCK_hear_100 rfl ?_
      refine ck_ri (y := jW f i) (rfl) ?_
      refine lv_topi (fun w9 e_w9 => ?_)
      refine lv_istore (lv' := [(7, .int w9), (6, .int v9), (0, .ref ox), (1, .int (nI dd)), (2, .ref od), (3, .int (nI c4)), (4, .int (jB b)), (5, .int (nI (5 + 28 * i)))]) hx hb dCK_hear_101 hl (by decide) rfl (fun ls hl => ?_)
      refine lv_aload_n hx hb dCK_hear_103 rfl (lv_at hl 2 rfl) ?_
      refine gfCK_19 hx hb hts hown hG hP 0 rfl rfl dCK_hear_104 ?_
      refine lv_iload_n hx hb dCK_hear_107 rfl (lv_at hl 3 rfl) ?_
      refine lv_iload hx hb dCK_hear_108 (lv_at hl 1 rfl) ?_
      refine lv_iload hx hb dCK_hear_110 (lv_at hl 0 rfl) ?_
      refine clCK_151 (As := [.int (nI dd), .int v9, .int w9]) (rest := []) hx hb hml hown hts (k_Tr_derives l G ot dp hdp sh sl (nI dd) v9 w9) hG hA hP hD hS 1 rfl [1] rfl rfl (fun _ => rfl) rfl hl.1 rfl (Nat.le_of_ble_eq_true rfl) ⟨by decide, by decide⟩ ⟨by decide, by decide⟩ dCK_hear_112 (fun _ H locs _ hP hD hS => ?_)
      have hP : va_P G.1 vwCl [oC ox 7 [.ref oc, .ref ot, .ref oo, .ref oe, .ref op, .ref ocs, .ref ods, .long oh, .long ol], oC ot 6 [.int (nI dp), .long sh, .long sl], oC oc 1 [.ref owd, .long e1, .long f1], aI G owd 44 g1, oC oe 4 [.long c2, .long h2, .long l2], oC op 5 [.ref ob, .int (nI (5 + 28 * m1))], aI G ob 229 f, aQ G ods 256 dec, oC od 3 [.ref dq, .ref dh, .ref dl], aI G dq 4 pf, aJ G dh 4 hf, aJ G dl 4 lf] H := hP
      have hD : va_D A [oC ox 7 [.ref oc, .ref ot, .ref oo, .ref oe, .ref op, .ref ocs, .ref ods, .long oh, .long ol], oC ot 6 [.int (nI dp), .long sh, .long sl], oC oc 1 [.ref owd, .long e1, .long f1], aI G owd 44 g1, oC oe 4 [.long c2, .long h2, .long l2], oC op 5 [.ref ob, .int (nI (5 + 28 * m1))], aI G ob 229 f, aQ G ods 256 dec, oC od 3 [.ref dq, .ref dh, .ref dl], aI G dq 4 pf, aJ G dh 4 hf, aJ G dl 4 lf] := hD
      refine W.cs (cells' := 0) (slots' := 0) rfl rfl ?_
      refine W.eq (g2 := F0 m 115 ls [.int (jB (jDer dp (nI dd) v9 w9))]) rfl ?_
      refine lv_if_eq (tgt := 165) hx hb dCK_hear_115 rfl (fun h8 => ?_) (fun h8 => ?_)
      · have hd9 : jDer dp (nI dd) v9 w9 = false := (jB_0 _).mp h8
        refine lv_iinc (v := nI (5 + 28 * (i + 1))) (lv' := [(5, .int (nI (5 + 28 * (i + 1)))), (7, .int w9), (6, .int v9), (0, .ref ox), (1, .int (nI dd)), (2, .ref od), (3, .int (nI c4)), (4, .int (jB b))]) hx hb dCK_hear_165 hl (k := 7) rfl (nI_add (5 + 28 * i) 28) (by decide) rfl (fun ls hl => ?_)
        refine lv_goto (tgt := 60) hx hb dCK_hear_168 rfl ?_
        have e10 := hq.trans (if_neg (by rw [← e_v9, ← e_w9, hd9]; decide))
        exact ih (i + 1) b _ _ _ _ _ _ _ _ _ (by omega) e10 hP hD hS (lv_sub hl [3, 4, 5, 6, 7, 0] rfl)
      · have hd9 : jDer dp (nI dd) v9 w9 = true := (jB_n0 _).mp h8
        refine lv_aload_n hx hb dCK_hear_118 rfl (lv_at hl 2 rfl) ?_
        refine lv_iload hx hb dCK_hear_119 (lv_at hl 7 rfl) ?_
        refine lv_iload hx hb dCK_hear_121 (lv_at hl 1 rfl) ?_
        refine lv_iload hx hb dCK_hear_123 (lv_at hl 0 rfl) ?_
        have hC9 := k_CK_unwrapEntry l G ox oc owd ot oo 0 oe op ob ocs ods oh ol dp sh sl g1 e1 f1 c2 h2 l2 f (5 + 28 * m1) (5 + 28 * i) (jLv w9 v9) v9 w9 (by omega) (by omega) (jLv_le w9 v9) (fun z => jSub_lv (jDer_sub hd9) z)
        generalize hU9 : jUw (jKey (jKy sh sl v9 w9 (jLv w9 v9)).1 (jKy sh sl v9 w9 (jLv w9 v9)).2) (jRd f ((5 + 28 * i) + 4) 8, jRd f ((5 + 28 * i) + 12) 8, jRd f ((5 + 28 * i) + 20) 8) 12 = q3 at hC9
        have hU8 : jU f sh sl i (jV f i) (jW f i) = q3 := by rw [← e_v9, ← e_w9]; exact hU9
        refine clCK_155 (As := [.int (nI (5 + 28 * i)), .int v9, .int w9]) (rest := []) hx hb hml hown hts hC9 hG hA hP hD hS 0 rfl [0, 1, 2, 3, 4, 5, 6] rfl rfl (fun _ => rfl) rfl hl.1 rfl (Nat.le_of_ble_eq_true rfl) ⟨by decide, by decide⟩ ⟨by decide, by decide⟩ dCK_hear_125 (fun u9 H locs _ hP hD hS => ?_)
        have hP : va_P G.1 vwCl [oC ox 7 [.ref oc, .ref ot, .ref oo, .ref oe, .ref op, .ref ocs, .ref ods, .long oh, .long ol], oC ot 6 [.int (nI dp), .long sh, .long sl], oC oc 1 [.ref owd, .long u9.2.1, .long u9.2.2], aI G owd 44 u9.1, oC oe 4 [.long q3.1, .long q3.2.1, .long q3.2.2], oC op 5 [.ref ob, .int (nI (5 + 28 * m1))], aI G ob 229 f, aQ G ods 256 dec, oC od 3 [.ref dq, .ref dh, .ref dl], aI G dq 4 pf, aJ G dh 4 hf, aJ G dl 4 lf] H := hP
        have hD : va_D A [oC ox 7 [.ref oc, .ref ot, .ref oo, .ref oe, .ref op, .ref ocs, .ref ods, .long oh, .long ol], oC ot 6 [.int (nI dp), .long sh, .long sl], oC oc 1 [.ref owd, .long u9.2.1, .long u9.2.2], aI G owd 44 u9.1, oC oe 4 [.long q3.1, .long q3.2.1, .long q3.2.2], oC op 5 [.ref ob, .int (nI (5 + 28 * m1))], aI G ob 229 f, aQ G ods 256 dec, oC od 3 [.ref dq, .ref dh, .ref dl], aI G dq 4 pf, aJ G dh 4 hf, aJ G dl 4 lf] := hD
        refine W.cs (cells' := 0) (slots' := 0) rfl rfl ?_
        refine W.eq (g2 := F0 m 128 ls [.int (jB (decide (q3.1 = jSeal)))]) rfl ?_
        refine lv_if_eq (tgt := 162) hx hb dCK_hear_128 rfl (fun h9 => ?_) (fun h9 => ?_)
        · have hs9 : ¬ q3.1 = jSeal := of_decide_eq_false ((jB_0 _).mp h9)
          refine lv_iconst (v := nI 1) hx hb dCK_hear_162 (by decide) ?_
          refine lv_istore (lv' := [(4, .int (nI 1)), (7, .int w9), (6, .int v9), (0, .ref ox), (1, .int (nI dd)), (2, .ref od), (3, .int (nI c4)), (5, .int (nI (5 + 28 * i)))]) hx hb dCK_hear_163 hl (by decide) rfl (fun ls hl => ?_)
          refine lv_iinc (v := nI (5 + 28 * (i + 1))) (lv' := [(5, .int (nI (5 + 28 * (i + 1)))), (4, .int (nI 1)), (7, .int w9), (6, .int v9), (0, .ref ox), (1, .int (nI dd)), (2, .ref od), (3, .int (nI c4))]) hx hb dCK_hear_165 hl (k := 7) rfl (nI_add (5 + 28 * i) 28) (by decide) rfl (fun ls hl => ?_)
          refine lv_goto (tgt := 60) hx hb dCK_hear_168 rfl ?_
          have e10 := hq.trans ((if_pos (by rw [← e_v9, ← e_w9]; exact hd9)).trans (if_neg (by rw [hU8]; exact hs9)))
          exact ih (i + 1) true _ _ _ _ _ _ _ _ _ (by omega) e10 hP hD hS (lv_sub hl [4, 5, 6, 7, 1, 0] rfl)
        · have hs9 : q3.1 = jSeal := of_decide_eq_true ((jB_n0 _).mp h9)
          refine lv_aload_n hx hb dCK_hear_131 rfl (lv_at hl 4 rfl) ?_
          refine lv_iload_n hx hb dCK_hear_132 rfl (lv_at hl 5 rfl) ?_
          refine lv_aload_n hx hb dCK_hear_133 rfl (lv_at hl 2 rfl) ?_
          refine gfCK_40 hx hb hts hown hG hP 0 rfl rfl dCK_hear_134 ?_
          refine lv_iconst (v := nI 1) hx hb dCK_hear_137 (by decide) ?_
          refine lv_iconst (v := nI 2) hx hb dCK_hear_138 (by decide) ?_
          refine clCK_147 (As := [.int (nI 1), .int (nI 2)]) (rest := [.int (nI c4), .ref od]) hx hb hml hown hts (k_Pa_read l G op ob (5 + 28 * m1) 1 2 f (by omega) (by omega)) hG hA hP hD hS 5 rfl [5, 6] rfl rfl (fun _ => rfl) rfl hl.1 rfl (Nat.le_of_ble_eq_true rfl) ⟨by decide, by decide⟩ ⟨by decide, by decide⟩ dCK_hear_139 (fun _ H locs _ hP hD hS => ?_)
          have hP : va_P G.1 vwCl [oC ox 7 [.ref oc, .ref ot, .ref oo, .ref oe, .ref op, .ref ocs, .ref ods, .long oh, .long ol], oC ot 6 [.int (nI dp), .long sh, .long sl], oC oc 1 [.ref owd, .long u9.2.1, .long u9.2.2], aI G owd 44 u9.1, oC oe 4 [.long q3.1, .long q3.2.1, .long q3.2.2], oC op 5 [.ref ob, .int (nI (5 + 28 * m1))], aI G ob 229 f, aQ G ods 256 dec, oC od 3 [.ref dq, .ref dh, .ref dl], aI G dq 4 pf, aJ G dh 4 hf, aJ G dl 4 lf] H := hP
          have hD : va_D A [oC ox 7 [.ref oc, .ref ot, .ref oo, .ref oe, .ref op, .ref ocs, .ref ods, .long oh, .long ol], oC ot 6 [.int (nI dp), .long sh, .long sl], oC oc 1 [.ref owd, .long u9.2.1, .long u9.2.2], aI G owd 44 u9.1, oC oe 4 [.long q3.1, .long q3.2.1, .long q3.2.2], oC op 5 [.ref ob, .int (nI (5 + 28 * m1))], aI G ob 229 f, aQ G ods 256 dec, oC od 3 [.ref dq, .ref dh, .ref dl], aI G dq 4 pf, aJ G dh 4 hf, aJ G dl 4 lf] := hD
          refine W.cs (cells' := 0) (slots' := 0) rfl rfl ?_
          refine W.eq (g2 := F0 m 142 ls [.long (jRd f 1 2), .int (nI c4), .ref od]) rfl ?_
          refine lv_l2i (v := (jRd f 1 2).toInt32) hx hb dCK_hear_142 rfl ?_
          refine lv_aload_n hx hb dCK_hear_143 rfl (lv_at hl 2 rfl) ?_
          refine gfCK_33 hx hb hts hown hG hP 0 rfl rfl dCK_hear_144 ?_
          refine gfCK_158 hx hb hts hown hG hP 4 rfl rfl dCK_hear_147 ?_
          refine lv_aload_n hx hb dCK_hear_150 rfl (lv_at hl 2 rfl) ?_
          refine gfCK_33 hx hb hts hown hG hP 0 rfl rfl dCK_hear_151 ?_
          refine gfCK_162 hx hb hts hown hG hP 4 rfl rfl dCK_hear_154 ?_
          refine clCK_165 (As := [.int (nI c4), .int ((jRd f 1 2).toInt32), .long q3.2.1, .long q3.2.2]) (rest := []) hx hb hml hown hts (k_De_keep l G od dq dh dl c4 hc pf hf lf (jRd f 1 2).toInt32 q3.2.1 q3.2.2) hG hA hP hD hS 8 rfl [8, 9, 10, 11] rfl rfl (fun _ => rfl) rfl hl.1 rfl (Nat.le_of_ble_eq_true rfl) ⟨by decide, by decide⟩ ⟨by decide, by decide⟩ dCK_hear_157 (fun _ H locs _ hP hD hS => ?_)
          have hP : va_P G.1 vwCl [oC ox 7 [.ref oc, .ref ot, .ref oo, .ref oe, .ref op, .ref ocs, .ref ods, .long oh, .long ol], oC ot 6 [.int (nI dp), .long sh, .long sl], oC oc 1 [.ref owd, .long u9.2.1, .long u9.2.2], aI G owd 44 u9.1, oC oe 4 [.long q3.1, .long q3.2.1, .long q3.2.2], oC op 5 [.ref ob, .int (nI (5 + 28 * m1))], aI G ob 229 f, aQ G ods 256 dec, oC od 3 [.ref dq, .ref dh, .ref dl], aI G dq 4 (upd pf c4 (jRd f 1 2).toInt32), aJ G dh 4 (vp_updL hf c4 q3.2.1), aJ G dl 4 (vp_updL lf c4 q3.2.2)] H := hP
          have hD : va_D A [oC ox 7 [.ref oc, .ref ot, .ref oo, .ref oe, .ref op, .ref ocs, .ref ods, .long oh, .long ol], oC ot 6 [.int (nI dp), .long sh, .long sl], oC oc 1 [.ref owd, .long u9.2.1, .long u9.2.2], aI G owd 44 u9.1, oC oe 4 [.long q3.1, .long q3.2.1, .long q3.2.2], oC op 5 [.ref ob, .int (nI (5 + 28 * m1))], aI G ob 229 f, aQ G ods 256 dec, oC od 3 [.ref dq, .ref dh, .ref dl], aI G dq 4 (upd pf c4 (jRd f 1 2).toInt32), aJ G dh 4 (vp_updL hf c4 q3.2.1), aJ G dl 4 (vp_updL lf c4 q3.2.2)] := hD
          refine W.cs (cells' := 0) (slots' := 0) rfl rfl ?_
          refine W.eq (g2 := F0 m 160 ls []) rfl ?_
          refine lv_iconst (v := nI 1) hx hb dCK_hear_160 (by decide) ?_
          have e10 : jHr dp (nI dd) f sh sl m1 0 false = (nI 1, some (q3.2.1, q3.2.2)) := by
            have e11 := hq.trans ((if_pos (by rw [← e_v9, ← e_w9]; exact hd9)).trans (if_pos (by rw [hU8]; exact hs9)))
            rw [hU8] at e11
            exact e11
          exact cq_iret (u9.1, u9.2.1, u9.2.2, q3.1, q3.2.1, q3.2.2) (trivial) hx hb hr hlk hP hS (by rw [e10]) (by rw [e10]; rfl) dCK_hear_161
  exact loop m1 0 false _ _ _ _ _ _ _ _ _ (by omega) rfl hP hD hS (lv_sub hl [4, 5, 3, 2, 1, 0] rfl)
set_option maxHeartbeats 4000000 in
set_option maxRecDepth 100000 in
theorem x_CK_hear1 (l : Launch) (hl0 : l.stackTraces = false) (G : gG) (ox oc ot oo oe op ocs ods : Nat) (oh ol : Int64) (dp : Nat) (hdp : dp ≤ 8) (sh sl : Int64) (d1 : Int32) (hd : jIn (2 ^ dp) d1 = false) : Cx l G yCK_hear cCK_hear 8 (some .int) { frames := 7, cells := 1, slots := 6, locals := 103 } [.ref ox, .int d1] [oC ox 7 [.ref oc, .ref ot, .ref oo, .ref oe, .ref op, .ref ocs, .ref ods, .long oh, .long ol], oC ot 6 [.int (nI dp), .long sh, .long sl]] "java/lang/IndexOutOfBoundsException" [oC ox 7 [.ref oc, .ref ot, .ref oo, .ref oe, .ref op, .ref ocs, .ref ods, .long oh, .long ol], oC ot 6 [.int (nI dp), .long sh, .long sl]] := by
  refine Cx.of (by decide) (Nat.le_of_ble_eq_true rfl) ?_
  intro p e s m args below meth c A ls hx hb hr hml hts hown hlk htb hA hP hD hG hS hl
  have hl : lv_has ls 8 [(0, .ref ox), (1, .int d1)] := hl
  refine lv_aload_n hx hb dCK_hear_0 rfl (lv_at hl 0 rfl) ?_
  refine lv_iload_n hx hb dCK_hear_1 rfl (lv_at hl 1 rfl) ?_
  exact cxCK_72 (As := [.int d1]) (rest := []) hx hb hml hown hts (x_CK_checkDecoder l hl0 G ox oc ot oo oe op ocs ods oh ol dp hdp sh sl d1 hd) hG hA hP hD hS 0 rfl [0, 1] rfl rfl rfl rfl hl.1 rfl (Nat.le_of_ble_eq_true rfl) ⟨by decide, by decide⟩ ⟨by decide, by decide⟩ dCK_hear_2 htb hlk (by decide) (by decide)
set_option maxHeartbeats 4000000 in
set_option maxRecDepth 100000 in
theorem x_CK_hear2 (l : Launch) (hl0 : l.stackTraces = false) (G : gG) (ox oc ot oo oe op ocs ods : Nat) (oh ol : Int64) (dp : Nat) (hdp : dp ≤ 8) (sh sl : Int64) (dec : Nat → Option Nat) (dd : Nat) (hd : dd < 2 ^ dp) (ho : dec dd = none) : Cx l G yCK_hear cCK_hear 8 (some .int) { frames := 6, cells := 1, slots := 6, locals := 82 } [.ref ox, .int (nI dd)] [oC ox 7 [.ref oc, .ref ot, .ref oo, .ref oe, .ref op, .ref ocs, .ref ods, .long oh, .long ol], oC ot 6 [.int (nI dp), .long sh, .long sl], aQ G ods 256 dec] "java/lang/IllegalStateException" [oC ox 7 [.ref oc, .ref ot, .ref oo, .ref oe, .ref op, .ref ocs, .ref ods, .long oh, .long ol], oC ot 6 [.int (nI dp), .long sh, .long sl], aQ G ods 256 dec] := by
  refine Cx.of (by decide) (Nat.le_of_ble_eq_true rfl) ?_
  intro p e s m args below meth c A ls hx hb hr hml hts hown hlk htb hA hP hD hG hS hl
  have hp2 : 2 ^ dp ≤ 256 := Nat.pow_le_pow_right (n := 2) (by decide) hdp
  have hp1 : 1 ≤ 2 ^ dp := Nat.one_le_two_pow
  have hl : lv_has ls 8 [(0, .ref ox), (1, .int (nI dd))] := hl
  refine lv_aload_n hx hb dCK_hear_0 rfl (lv_at hl 0 rfl) ?_
  refine lv_iload_n hx hb dCK_hear_1 rfl (lv_at hl 1 rfl) ?_
  refine clCK_72 (As := [.int (nI dd)]) (rest := []) hx hb hml hown hts (k_CK_checkDecoder l G ox oc ot oo oe op ocs ods oh ol dp hdp sh sl dd hd) hG hA hP hD hS 0 rfl [0, 1] rfl rfl (fun _ => rfl) rfl hl.1 rfl (Nat.le_of_ble_eq_true rfl) ⟨by decide, by decide⟩ ⟨by decide, by decide⟩ dCK_hear_2 (fun _ H locs _ hP hD hS => ?_)
  have hP : va_P G.1 vwCl [oC ox 7 [.ref oc, .ref ot, .ref oo, .ref oe, .ref op, .ref ocs, .ref ods, .long oh, .long ol], oC ot 6 [.int (nI dp), .long sh, .long sl], aQ G ods 256 dec] H := hP
  have hD : va_D A [oC ox 7 [.ref oc, .ref ot, .ref oo, .ref oe, .ref op, .ref ocs, .ref ods, .long oh, .long ol], oC ot 6 [.int (nI dp), .long sh, .long sl], aQ G ods 256 dec] := hD
  refine W.cs (cells' := 0) (slots' := 0) rfl rfl ?_
  refine W.eq (g2 := F0 m 5 ls []) rfl ?_
  refine lv_aload_n hx hb dCK_hear_5 rfl (lv_at hl 0 rfl) ?_
  refine gfCK_52 hx hb hts hown hG hP 0 rfl rfl dCK_hear_6 ?_
  refine lv_iload_n hx hb dCK_hear_9 rfl (lv_at hl 1 rfl) ?_
  refine ck_qald (v := .null) hx hb hG hP 2 rfl (by decide) dd (rfl) (by omega) (by rw [ho]; rfl) dCK_hear_10 ?_
  refine lv_astore_nN (lv' := [(2, .null), (0, .ref ox), (1, .int (nI dd))]) hx hb dCK_hear_11 rfl hl (by decide) rfl (fun ls hl => ?_)
  refine lv_aload_nN hx hb dCK_hear_12 rfl (lv_at hl 0 rfl) ?_
  refine lv_ifnullN (tgt := 26) hx hb dCK_hear_13 rfl ?_
  exact cxISE (sx := 145) (tx := "not installed, or nothing is on the air") hl0 hx hb hml hown hts htb hlk hG hP hS hl.1 (by decide) dCK_hear_26 dCK_hear_29 dCK_hear_30 dCK_hear_32 dCK_hear_35 (by decide) (Nat.le_of_ble_eq_true rfl) (by decide) (by decide) (by decide) (by decide)
set_option maxHeartbeats 4000000 in
set_option maxRecDepth 100000 in
theorem x_CK_hear3 (l : Launch) (hl0 : l.stackTraces = false) (G : gG) (ox oc ot oo oe op ocs ods : Nat) (oh ol : Int64) (dp : Nat) (hdp : dp ≤ 8) (sh sl : Int64) (dec : Nat → Option Nat) (dd : Nat) (hd : dd < 2 ^ dp) (ob od : Nat) (ho : dec dd = some od) : Cx l G yCK_hear cCK_hear 8 (some .int) { frames := 6, cells := 1, slots := 6, locals := 82 } [.ref ox, .int (nI dd)] [oC ox 7 [.ref oc, .ref ot, .ref oo, .ref oe, .ref op, .ref ocs, .ref ods, .long oh, .long ol], oC ot 6 [.int (nI dp), .long sh, .long sl], aQ G ods 256 dec, oC op 5 [.ref ob, .int (nI 0)]] "java/lang/IllegalStateException" [oC ox 7 [.ref oc, .ref ot, .ref oo, .ref oe, .ref op, .ref ocs, .ref ods, .long oh, .long ol], oC ot 6 [.int (nI dp), .long sh, .long sl], aQ G ods 256 dec, oC op 5 [.ref ob, .int (nI 0)]] := by
  refine Cx.of (by decide) (Nat.le_of_ble_eq_true rfl) ?_
  intro p e s m args below meth c A ls hx hb hr hml hts hown hlk htb hA hP hD hG hS hl
  have hp2 : 2 ^ dp ≤ 256 := Nat.pow_le_pow_right (n := 2) (by decide) hdp
  have hp1 : 1 ≤ 2 ^ dp := Nat.one_le_two_pow
  have hl : lv_has ls 8 [(0, .ref ox), (1, .int (nI dd))] := hl
  refine lv_aload_n hx hb dCK_hear_0 rfl (lv_at hl 0 rfl) ?_
  refine lv_iload_n hx hb dCK_hear_1 rfl (lv_at hl 1 rfl) ?_
  refine clCK_72 (As := [.int (nI dd)]) (rest := []) hx hb hml hown hts (k_CK_checkDecoder l G ox oc ot oo oe op ocs ods oh ol dp hdp sh sl dd hd) hG hA hP hD hS 0 rfl [0, 1] rfl rfl (fun _ => rfl) rfl hl.1 rfl (Nat.le_of_ble_eq_true rfl) ⟨by decide, by decide⟩ ⟨by decide, by decide⟩ dCK_hear_2 (fun _ H locs _ hP hD hS => ?_)
  have hP : va_P G.1 vwCl [oC ox 7 [.ref oc, .ref ot, .ref oo, .ref oe, .ref op, .ref ocs, .ref ods, .long oh, .long ol], oC ot 6 [.int (nI dp), .long sh, .long sl], aQ G ods 256 dec, oC op 5 [.ref ob, .int (nI 0)]] H := hP
  have hD : va_D A [oC ox 7 [.ref oc, .ref ot, .ref oo, .ref oe, .ref op, .ref ocs, .ref ods, .long oh, .long ol], oC ot 6 [.int (nI dp), .long sh, .long sl], aQ G ods 256 dec, oC op 5 [.ref ob, .int (nI 0)]] := hD
  refine W.cs (cells' := 0) (slots' := 0) rfl rfl ?_
  refine W.eq (g2 := F0 m 5 ls []) rfl ?_
  refine lv_aload_n hx hb dCK_hear_5 rfl (lv_at hl 0 rfl) ?_
  refine gfCK_52 hx hb hts hown hG hP 0 rfl rfl dCK_hear_6 ?_
  refine lv_iload_n hx hb dCK_hear_9 rfl (lv_at hl 1 rfl) ?_
  refine ck_qald (v := .ref od) hx hb hG hP 2 rfl (by decide) dd (rfl) (by omega) (by rw [ho]; rfl) dCK_hear_10 ?_
  refine lv_astore_n (lv' := [(2, .ref od), (0, .ref ox), (1, .int (nI dd))]) hx hb dCK_hear_11 rfl hl (by decide) rfl (fun ls hl => ?_)
  refine lv_aload_n hx hb dCK_hear_12 rfl (lv_at hl 0 rfl) ?_
  refine lv_ifnull hx hb dCK_hear_13 ?_
  refine lv_aload_n hx hb dCK_hear_16 rfl (lv_at hl 1 rfl) ?_
  refine gfCK_40 hx hb hts hown hG hP 0 rfl rfl dCK_hear_17 ?_
  refine gfCK_135 hx hb hts hown hG hP 3 rfl rfl dCK_hear_20 ?_
  refine lv_if_ne (tgt := 36) hx hb dCK_hear_23 rfl (fun h => absurd (rfl) h) (fun _ => ?_)
  exact cxISE (sx := 145) (tx := "not installed, or nothing is on the air") hl0 hx hb hml hown hts htb hlk hG hP hS hl.1 (by decide) dCK_hear_26 dCK_hear_29 dCK_hear_30 dCK_hear_32 dCK_hear_35 (by decide) (Nat.le_of_ble_eq_true rfl) (by decide) (by decide) (by decide) (by decide)
