/-! CoverKeys: its helpers, its methods that make nothing -/
/-- an entry's bytes at place n: v and w, then the wrapped key -/
def jEnt (n : Nat) (f : Nat → Int32) (v w : Int32) (q : Q3) : Nat → Int32 := jPut q.2.2 8 (n + 20) (jPut q.2.1 8 (n + 12) (jPut q.1 8 (n + 4) (jPut w.toInt64 2 (n + 2) (jPut v.toInt64 2 n f 2) 2) 8) 8) 8
def cntD (dec : Nat → Option Nat) : Nat → Nat
  | 0 => 0
  | n + 1 => if dec n = none then cntD dec n else cntD dec n + 1
theorem cntD_le (dec : Nat → Option Nat) : ∀ n, cntD dec n ≤ n
  | 0 => Nat.le_refl _
  | n + 1 => by
    unfold cntD
    have := cntD_le dec n
    split <;> omega
def cntZ (f : Nat → Int32) : Nat → Nat
  | 0 => 0
  | n + 1 => if f n = 0 then cntZ f n else cntZ f n + 1
theorem cntZ_le (f : Nat → Int32) : ∀ n, cntZ f n ≤ n
  | 0 => Nat.le_refl _
  | n + 1 => by
    unfold cntZ
    have := cntZ_le f n
    split <;> omega
set_option maxHeartbeats 4000000 in
set_option maxRecDepth 100000 in
theorem k_CK_isChannel (l : Launch) (G : gG) (c1 : Int32) : Ck l G yCK_isChannel cCK_isChannel 1 (some .boolean) { frames := 0, cells := 0, slots := 0, locals := 0 } [.int c1] [] (some (.int (jB (jIn 4 c1)))) [] := by
  refine Cq.of (by decide) (Nat.le_of_ble_eq_true rfl) ?_
  intro p e s m args below meth c A ls hx hb hr hml hts hown hlk hA hP hD hG hS hl
  have hl : lv_has ls 1 [(0, .int c1)] := hl
  refine lv_iload_n hx hb dCK_isChannel_0 rfl (lv_at hl 0 rfl) ?_
  refine lv_if_lt (tgt := 13) hx hb dCK_isChannel_1 rfl (fun h1 => ?_) (fun h1 => ?_)
  · have b_h1 := decide_eq_true h1
    refine lv_iconst (v := nI 0) hx hb dCK_isChannel_13 (by decide) ?_
    exact cq_zret () (trivial) hx hb hr hlk hP hS (rfl) (by rw [show jIn 4 c1 = false by simp only [jIn, b_h1, Bool.and_true, Bool.and_false, Bool.true_and, Bool.false_and, Bool.or_true, Bool.or_false, Bool.true_or, Bool.false_or, Bool.not_true, Bool.not_false]]; rfl) (rfl) dCK_isChannel_14
  · have b_h1 := decide_eq_false h1
    refine lv_iload_n hx hb dCK_isChannel_4 rfl (lv_at hl 0 rfl) ?_
    refine lv_iconst (v := nI 4) hx hb dCK_isChannel_5 (by decide) ?_
    refine lv_icmp_ge (tgt := 13) hx hb dCK_isChannel_6 rfl (fun h2 => ?_) (fun h2 => ?_)
    · have b2 : decide (c1 < nI 4) = false := decide_eq_false (Int32.not_lt.mpr h2)
      refine lv_iconst (v := nI 0) hx hb dCK_isChannel_13 (by decide) ?_
      exact cq_zret () (trivial) hx hb hr hlk hP hS (rfl) (by rw [show jIn 4 c1 = false by simp only [jIn, b_h1, b2, Bool.and_true, Bool.and_false, Bool.true_and, Bool.false_and, Bool.or_true, Bool.or_false, Bool.true_or, Bool.false_or, Bool.not_true, Bool.not_false]]; rfl) (rfl) dCK_isChannel_14
    · have b2 : decide (c1 < nI 4) = true := decide_eq_true (Int32.not_le.mp h2)
      refine lv_iconst (v := nI 1) hx hb dCK_isChannel_9 (by decide) ?_
      refine lv_goto (tgt := 14) hx hb dCK_isChannel_10 rfl ?_
      exact cq_zret () (trivial) hx hb hr hlk hP hS (rfl) (by rw [show jIn 4 c1 = true by simp only [jIn, b_h1, b2, Bool.and_true, Bool.and_false, Bool.true_and, Bool.false_and, Bool.or_true, Bool.or_false, Bool.true_or, Bool.false_or, Bool.not_true, Bool.not_false]]; rfl) (rfl) dCK_isChannel_14
set_option maxHeartbeats 4000000 in
set_option maxRecDepth 100000 in
theorem k_CK_checkChannel (l : Launch) (G : gG) (c1 : Int32) (hc : jIn 4 c1 = true) : Ck l G yCK_checkChannel cCK_checkChannel 1 none { frames := 1, cells := 0, slots := 0, locals := 20 } [.int c1] [] (none) [] := by
  refine Cq.of (by decide) (Nat.le_of_ble_eq_true rfl) ?_
  intro p e s m args below meth c A ls hx hb hr hml hts hown hlk hA hP hD hG hS hl
  have hl : lv_has ls 1 [(0, .int c1)] := hl
  refine lv_iload_n hx hb dCK_checkChannel_0 rfl (lv_at hl 0 rfl) ?_
  refine clCK_195 (As := [.int c1]) (rest := []) hx hb hml hown hts (k_CK_isChannel l G c1) hG hA hP hD hS [] rfl rfl (fun _ => rfl) rfl hl.1 rfl (Nat.le_of_ble_eq_true rfl) ⟨by decide, by decide⟩ ⟨by decide, by decide⟩ dCK_checkChannel_1 (fun _ H locs _ hP hD hS => ?_)
  have hP : va_P G.1 vwCl [] H := hP
  have hD : va_D A [] := hD
  refine W.cs (cells' := 0) (slots' := 0) rfl rfl ?_
  refine W.eq (g2 := F0 m 4 ls [.int (jB (jIn 4 c1))]) rfl ?_
  refine lv_if_ne (tgt := 17) hx hb dCK_checkChannel_4 rfl (fun _ => ?_) (fun h => absurd h (by rw [hc]; decide))
  exact cq_vret () (trivial) hx hb hr hlk hP hS rfl (rfl) dCK_checkChannel_17
set_option maxHeartbeats 4000000 in
set_option maxRecDepth 100000 in
theorem x_CK_checkChannel (l : Launch) (hl0 : l.stackTraces = false) (G : gG) (c1 : Int32) (hc : jIn 4 c1 = false) : Cx l G yCK_checkChannel cCK_checkChannel 1 none { frames := 6, cells := 1, slots := 6, locals := 82 } [.int c1] [] "java/lang/IndexOutOfBoundsException" [] := by
  refine Cx.of (by decide) (Nat.le_of_ble_eq_true rfl) ?_
  intro p e s m args below meth c A ls hx hb hr hml hts hown hlk htb hA hP hD hG hS hl
  have hl : lv_has ls 1 [(0, .int c1)] := hl
  refine lv_iload_n hx hb dCK_checkChannel_0 rfl (lv_at hl 0 rfl) ?_
  refine clCK_195 (As := [.int c1]) (rest := []) hx hb hml hown hts (k_CK_isChannel l G c1) hG hA hP hD hS [] rfl rfl (fun _ => rfl) rfl hl.1 rfl (Nat.le_of_ble_eq_true rfl) ⟨by decide, by decide⟩ ⟨by decide, by decide⟩ dCK_checkChannel_1 (fun _ H locs _ hP hD hS => ?_)
  have hP : va_P G.1 vwCl [] H := hP
  have hD : va_D A [] := hD
  refine W.cs (cells' := 0) (slots' := 0) rfl rfl ?_
  refine W.eq (g2 := F0 m 4 ls [.int (jB (jIn 4 c1))]) rfl ?_
  refine lv_if_ne (tgt := 17) hx hb dCK_checkChannel_4 rfl (fun h => absurd (by rw [hc]; rfl) h) (fun _ => ?_)
  exact cxIOB (sx := 249) (tx := "no such channel") hl0 hx hb hml hown hts htb hlk hG hP hS hl.1 (by decide) dCK_checkChannel_7 dCK_checkChannel_10 dCK_checkChannel_11 dCK_checkChannel_13 dCK_checkChannel_16 (by decide) (Nat.le_of_ble_eq_true rfl) (by decide) (by decide) (by decide) (by decide)
set_option maxHeartbeats 4000000 in
set_option maxRecDepth 100000 in
theorem k_CK_checkDecoder (l : Launch) (G : gG) (ox oc ot oo oe op ocs ods : Nat) (oh ol : Int64) (dp : Nat) (hdp : dp ≤ 8) (sh sl : Int64) (dd : Nat) (hd : dd < 2 ^ dp) : Ck l G yCK_checkDecoder cCK_checkDecoder 2 none { frames := 1, cells := 0, slots := 0, locals := 20 } [.ref ox, .int (nI dd)] [oC ox 7 [.ref oc, .ref ot, .ref oo, .ref oe, .ref op, .ref ocs, .ref ods, .long oh, .long ol], oC ot 6 [.int (nI dp), .long sh, .long sl]] (none) [oC ox 7 [.ref oc, .ref ot, .ref oo, .ref oe, .ref op, .ref ocs, .ref ods, .long oh, .long ol], oC ot 6 [.int (nI dp), .long sh, .long sl]] := by
  refine Cq.of (by decide) (Nat.le_of_ble_eq_true rfl) ?_
  intro p e s m args below meth c A ls hx hb hr hml hts hown hlk hA hP hD hG hS hl
  have hp2 : 2 ^ dp ≤ 256 := Nat.pow_le_pow_right (n := 2) (by decide) hdp
  have hp1 : 1 ≤ 2 ^ dp := Nat.one_le_two_pow
  have hl : lv_has ls 2 [(0, .ref ox), (1, .int (nI dd))] := hl
  refine lv_iload_n hx hb dCK_checkDecoder_0 rfl (lv_at hl 1 rfl) ?_
  refine lv_if_lt (tgt := 15) hx hb dCK_checkDecoder_1 rfl (fun h => absurd h (nI_pos (by omega))) (fun _ => ?_)
  refine lv_iload_n hx hb dCK_checkDecoder_4 rfl (lv_at hl 1 rfl) ?_
  refine lv_aload_n hx hb dCK_checkDecoder_5 rfl (lv_at hl 0 rfl) ?_
  refine gfCK_19 hx hb hts hown hG hP 0 rfl rfl dCK_checkDecoder_6 ?_
  refine clCK_251 (As := []) (rest := [.int (nI dd)]) hx hb hml hown hts (k_Tr_leaves l G ot dp hdp sh sl) hG hA hP hD hS 1 rfl [1] rfl rfl (fun _ => rfl) rfl hl.1 rfl (Nat.le_of_ble_eq_true rfl) ⟨by decide, by decide⟩ ⟨by decide, by decide⟩ dCK_checkDecoder_9 (fun _ H locs _ hP hD hS => ?_)
  have hP : va_P G.1 vwCl [oC ox 7 [.ref oc, .ref ot, .ref oo, .ref oe, .ref op, .ref ocs, .ref ods, .long oh, .long ol], oC ot 6 [.int (nI dp), .long sh, .long sl]] H := hP
  have hD : va_D A [oC ox 7 [.ref oc, .ref ot, .ref oo, .ref oe, .ref op, .ref ocs, .ref ods, .long oh, .long ol], oC ot 6 [.int (nI dp), .long sh, .long sl]] := hD
  refine W.cs (cells' := 0) (slots' := 0) rfl rfl ?_
  refine W.eq (g2 := F0 m 12 ls [.int (nI (2 ^ dp)), .int (nI dd)]) rfl ?_
  refine lv_icmp_lt (tgt := 25) hx hb dCK_checkDecoder_12 rfl (fun _ => ?_) (fun h => absurd (nI_lt hd (by omega)) h)
  exact cq_vret () (trivial) hx hb hr hlk hP hS rfl (rfl) dCK_checkDecoder_25
set_option maxHeartbeats 4000000 in
set_option maxRecDepth 100000 in
theorem x_CK_checkDecoder (l : Launch) (hl0 : l.stackTraces = false) (G : gG) (ox oc ot oo oe op ocs ods : Nat) (oh ol : Int64) (dp : Nat) (hdp : dp ≤ 8) (sh sl : Int64) (d1 : Int32) (hd : jIn (2 ^ dp) d1 = false) : Cx l G yCK_checkDecoder cCK_checkDecoder 2 none { frames := 6, cells := 1, slots := 6, locals := 82 } [.ref ox, .int d1] [oC ox 7 [.ref oc, .ref ot, .ref oo, .ref oe, .ref op, .ref ocs, .ref ods, .long oh, .long ol], oC ot 6 [.int (nI dp), .long sh, .long sl]] "java/lang/IndexOutOfBoundsException" [oC ox 7 [.ref oc, .ref ot, .ref oo, .ref oe, .ref op, .ref ocs, .ref ods, .long oh, .long ol], oC ot 6 [.int (nI dp), .long sh, .long sl]] := by
  refine Cx.of (by decide) (Nat.le_of_ble_eq_true rfl) ?_
  intro p e s m args below meth c A ls hx hb hr hml hts hown hlk htb hA hP hD hG hS hl
  have hp2 : 2 ^ dp ≤ 256 := Nat.pow_le_pow_right (n := 2) (by decide) hdp
  have hp1 : 1 ≤ 2 ^ dp := Nat.one_le_two_pow
  have hl : lv_has ls 2 [(0, .ref ox), (1, .int d1)] := hl
  refine lv_iload_n hx hb dCK_checkDecoder_0 rfl (lv_at hl 1 rfl) ?_
  refine lv_if_lt (tgt := 15) hx hb dCK_checkDecoder_1 rfl (fun h1 => ?_) (fun h1 => ?_)
  · have b_h1 := decide_eq_true h1
    exact cxIOB (sx := 254) (tx := "no such decoder") hl0 hx hb hml hown hts htb hlk hG hP hS hl.1 (by decide) dCK_checkDecoder_15 dCK_checkDecoder_18 dCK_checkDecoder_19 dCK_checkDecoder_21 dCK_checkDecoder_24 (by decide) (Nat.le_of_ble_eq_true rfl) (by decide) (by decide) (by decide) (by decide)
  · have b_h1 := decide_eq_false h1
    refine lv_iload_n hx hb dCK_checkDecoder_4 rfl (lv_at hl 1 rfl) ?_
    refine lv_aload_n hx hb dCK_checkDecoder_5 rfl (lv_at hl 0 rfl) ?_
    refine gfCK_19 hx hb hts hown hG hP 0 rfl rfl dCK_checkDecoder_6 ?_
    refine clCK_251 (As := []) (rest := [.int d1]) hx hb hml hown hts (k_Tr_leaves l G ot dp hdp sh sl) hG hA hP hD hS 1 rfl [1] rfl rfl (fun _ => rfl) rfl hl.1 rfl (Nat.le_of_ble_eq_true rfl) ⟨by decide, by decide⟩ ⟨by decide, by decide⟩ dCK_checkDecoder_9 (fun _ H locs _ hP hD hS => ?_)
    have hP : va_P G.1 vwCl [oC ox 7 [.ref oc, .ref ot, .ref oo, .ref oe, .ref op, .ref ocs, .ref ods, .long oh, .long ol], oC ot 6 [.int (nI dp), .long sh, .long sl]] H := hP
    have hD : va_D A [oC ox 7 [.ref oc, .ref ot, .ref oo, .ref oe, .ref op, .ref ocs, .ref ods, .long oh, .long ol], oC ot 6 [.int (nI dp), .long sh, .long sl]] := hD
    refine W.cs (cells' := 0) (slots' := 0) rfl rfl ?_
    refine W.eq (g2 := F0 m 12 ls [.int (nI (2 ^ dp)), .int d1]) rfl ?_
    refine lv_icmp_lt (tgt := 25) hx hb dCK_checkDecoder_12 rfl (fun h => absurd h (jIn_lt hd h1)) (fun _ => ?_)
    exact cxIOB (sx := 254) (tx := "no such decoder") hl0 hx hb hml hown hts htb hlk hG hP hS hl.1 (by decide) dCK_checkDecoder_15 dCK_checkDecoder_18 dCK_checkDecoder_19 dCK_checkDecoder_21 dCK_checkDecoder_24 (by decide) (Nat.le_of_ble_eq_true rfl) (by decide) (by decide) (by decide) (by decide)
set_option maxHeartbeats 4000000 in
set_option maxRecDepth 100000 in
theorem k_CK_checkByte (l : Launch) (G : gG) (ox oc ot oo oe op ocs ods : Nat) (oh ol : Int64) (ob q : Nat) (hq : q ≤ 229) (i1 : Nat) (hi : i1 < q) : Ck l G yCK_checkByte cCK_checkByte 2 none { frames := 0, cells := 0, slots := 0, locals := 0 } [.ref ox, .int (nI i1)] [oC ox 7 [.ref oc, .ref ot, .ref oo, .ref oe, .ref op, .ref ocs, .ref ods, .long oh, .long ol], oC op 5 [.ref ob, .int (nI q)]] (none) [oC ox 7 [.ref oc, .ref ot, .ref oo, .ref oe, .ref op, .ref ocs, .ref ods, .long oh, .long ol], oC op 5 [.ref ob, .int (nI q)]] := by
  refine Cq.of (by decide) (Nat.le_of_ble_eq_true rfl) ?_
  intro p e s m args below meth c A ls hx hb hr hml hts hown hlk hA hP hD hG hS hl
  have hl : lv_has ls 2 [(0, .ref ox), (1, .int (nI i1))] := hl
  refine lv_iload_n hx hb dCK_checkByte_0 rfl (lv_at hl 1 rfl) ?_
  refine lv_if_lt (tgt := 15) hx hb dCK_checkByte_1 rfl (fun h => absurd h (nI_pos (by omega))) (fun _ => ?_)
  refine lv_iload_n hx hb dCK_checkByte_4 rfl (lv_at hl 1 rfl) ?_
  refine lv_aload_n hx hb dCK_checkByte_5 rfl (lv_at hl 0 rfl) ?_
  refine gfCK_40 hx hb hts hown hG hP 0 rfl rfl dCK_checkByte_6 ?_
  refine gfCK_135 hx hb hts hown hG hP 1 rfl rfl dCK_checkByte_9 ?_
  refine lv_icmp_lt (tgt := 26) hx hb dCK_checkByte_12 rfl (fun _ => ?_) (fun h => absurd (nI_lt hi (by omega)) h)
  exact cq_vret () (trivial) hx hb hr hlk hP hS rfl (rfl) dCK_checkByte_26
set_option maxHeartbeats 4000000 in
set_option maxRecDepth 100000 in
theorem x_CK_checkByte (l : Launch) (hl0 : l.stackTraces = false) (G : gG) (ox oc ot oo oe op ocs ods : Nat) (oh ol : Int64) (ob q : Nat) (i1 : Int32) (hi : jIn q i1 = false) : Cx l G yCK_checkByte cCK_checkByte 2 none { frames := 6, cells := 1, slots := 6, locals := 82 } [.ref ox, .int i1] [oC ox 7 [.ref oc, .ref ot, .ref oo, .ref oe, .ref op, .ref ocs, .ref ods, .long oh, .long ol], oC op 5 [.ref ob, .int (nI q)]] "java/lang/IndexOutOfBoundsException" [oC ox 7 [.ref oc, .ref ot, .ref oo, .ref oe, .ref op, .ref ocs, .ref ods, .long oh, .long ol], oC op 5 [.ref ob, .int (nI q)]] := by
  refine Cx.of (by decide) (Nat.le_of_ble_eq_true rfl) ?_
  intro p e s m args below meth c A ls hx hb hr hml hts hown hlk htb hA hP hD hG hS hl
  have hl : lv_has ls 2 [(0, .ref ox), (1, .int i1)] := hl
  refine lv_iload_n hx hb dCK_checkByte_0 rfl (lv_at hl 1 rfl) ?_
  refine lv_if_lt (tgt := 15) hx hb dCK_checkByte_1 rfl (fun h1 => ?_) (fun h1 => ?_)
  · have b_h1 := decide_eq_true h1
    exact cxIOBW (sx := 256) (tx := "no such byte on the air") hl0 hx hb hml hown hts htb hlk hG hP hS hl.1 (by decide) dCK_checkByte_15 dCK_checkByte_18 dCK_checkByte_19 dCK_checkByte_22 dCK_checkByte_25 (by decide) (Nat.le_of_ble_eq_true rfl) (by decide) (by decide) (by decide) (by decide)
  · have b_h1 := decide_eq_false h1
    refine lv_iload_n hx hb dCK_checkByte_4 rfl (lv_at hl 1 rfl) ?_
    refine lv_aload_n hx hb dCK_checkByte_5 rfl (lv_at hl 0 rfl) ?_
    refine gfCK_40 hx hb hts hown hG hP 0 rfl rfl dCK_checkByte_6 ?_
    refine gfCK_135 hx hb hts hown hG hP 1 rfl rfl dCK_checkByte_9 ?_
    refine lv_icmp_lt (tgt := 26) hx hb dCK_checkByte_12 rfl (fun h => absurd h (jIn_lt hi h1)) (fun _ => ?_)
    exact cxIOBW (sx := 256) (tx := "no such byte on the air") hl0 hx hb hml hown hts htb hlk hG hP hS hl.1 (by decide) dCK_checkByte_15 dCK_checkByte_18 dCK_checkByte_19 dCK_checkByte_22 dCK_checkByte_25 (by decide) (Nat.le_of_ble_eq_true rfl) (by decide) (by decide) (by decide) (by decide)
set_option maxHeartbeats 4000000 in
set_option maxRecDepth 100000 in
theorem k_CK_checkBegan (l : Launch) (G : gG) (ox oc ot oo oe op ocs ods : Nat) (oh ol : Int64) (kk : Nat → Nat) (ks kv kw c4 : Nat) (hc : c4 < 4) (q : Nat) (hq : 0 < q) (hq2 : q < 2 ^ 30) (s1 : Int32) (h1 l1 : Int64) : Ck l G yCK_checkBegan cCK_checkBegan 2 none { frames := 0, cells := 0, slots := 0, locals := 0 } [.ref ox, .int (nI c4)] [oC ox 7 [.ref oc, .ref ot, .ref oo, .ref oe, .ref op, .ref ocs, .ref ods, .long oh, .long ol], aH G ocs 4 (fun j => some (kk j)), oC (kk c4) 0 [.ref ks, .ref kv, .ref kw, .int (nI q), .int s1, .long h1, .long l1]] (none) [oC ox 7 [.ref oc, .ref ot, .ref oo, .ref oe, .ref op, .ref ocs, .ref ods, .long oh, .long ol], aH G ocs 4 (fun j => some (kk j)), oC (kk c4) 0 [.ref ks, .ref kv, .ref kw, .int (nI q), .int s1, .long h1, .long l1]] := by
  refine Cq.of (by decide) (Nat.le_of_ble_eq_true rfl) ?_
  intro p e s m args below meth c A ls hx hb hr hml hts hown hlk hA hP hD hG hS hl
  have hl : lv_has ls 2 [(0, .ref ox), (1, .int (nI c4))] := hl
  refine lv_aload_n hx hb dCK_checkBegan_0 rfl (lv_at hl 0 rfl) ?_
  refine gfCK_46 hx hb hts hown hG hP 0 rfl rfl dCK_checkBegan_1 ?_
  refine lv_iload_n hx hb dCK_checkBegan_4 rfl (lv_at hl 1 rfl) ?_
  refine ck_hald (v := .ref (kk c4)) hx hb hG hP 1 rfl (by decide) c4 (rfl) (hc) (rfl) dCK_checkBegan_5 ?_
  refine gfCK_93 hx hb hts hown hG hP 2 rfl rfl dCK_checkBegan_6 ?_
  refine lv_if_ne (tgt := 23) hx hb dCK_checkBegan_9 rfl (fun _ => ?_) (fun h => absurd h (nI_ne0 hq (by omega)))
  exact cq_vret () (trivial) hx hb hr hlk hP hS rfl (rfl) dCK_checkBegan_23
set_option maxHeartbeats 4000000 in
set_option maxRecDepth 100000 in
theorem x_CK_checkBegan (l : Launch) (hl0 : l.stackTraces = false) (G : gG) (ox oc ot oo oe op ocs ods : Nat) (oh ol : Int64) (kk : Nat → Nat) (ks kv kw c4 : Nat) (hc : c4 < 4) (s1 : Int32) (h1 l1 : Int64) : Cx l G yCK_checkBegan cCK_checkBegan 2 none { frames := 6, cells := 1, slots := 6, locals := 82 } [.ref ox, .int (nI c4)] [oC ox 7 [.ref oc, .ref ot, .ref oo, .ref oe, .ref op, .ref ocs, .ref ods, .long oh, .long ol], aH G ocs 4 (fun j => some (kk j)), oC (kk c4) 0 [.ref ks, .ref kv, .ref kw, .int (nI 0), .int s1, .long h1, .long l1]] "java/lang/IllegalStateException" [oC ox 7 [.ref oc, .ref ot, .ref oo, .ref oe, .ref op, .ref ocs, .ref ods, .long oh, .long ol], aH G ocs 4 (fun j => some (kk j)), oC (kk c4) 0 [.ref ks, .ref kv, .ref kw, .int (nI 0), .int s1, .long h1, .long l1]] := by
  refine Cx.of (by decide) (Nat.le_of_ble_eq_true rfl) ?_
  intro p e s m args below meth c A ls hx hb hr hml hts hown hlk htb hA hP hD hG hS hl
  have hl : lv_has ls 2 [(0, .ref ox), (1, .int (nI c4))] := hl
  refine lv_aload_n hx hb dCK_checkBegan_0 rfl (lv_at hl 0 rfl) ?_
  refine gfCK_46 hx hb hts hown hG hP 0 rfl rfl dCK_checkBegan_1 ?_
  refine lv_iload_n hx hb dCK_checkBegan_4 rfl (lv_at hl 1 rfl) ?_
  refine ck_hald (v := .ref (kk c4)) hx hb hG hP 1 rfl (by decide) c4 (rfl) (hc) (rfl) dCK_checkBegan_5 ?_
  refine gfCK_93 hx hb hts hown hG hP 2 rfl rfl dCK_checkBegan_6 ?_
  refine lv_if_ne (tgt := 23) hx hb dCK_checkBegan_9 rfl (fun h => absurd (rfl) h) (fun _ => ?_)
  exact cxISEW (sx := 258) (tx := "no period began") hl0 hx hb hml hown hts htb hlk hG hP hS hl.1 (by decide) dCK_checkBegan_12 dCK_checkBegan_15 dCK_checkBegan_16 dCK_checkBegan_19 dCK_checkBegan_22 (by decide) (Nat.le_of_ble_eq_true rfl) (by decide) (by decide) (by decide) (by decide)
set_option maxHeartbeats 4000000 in
set_option maxRecDepth 100000 in
theorem k_CK_checkInstalled (l : Launch) (G : gG) (ox oc ot oo oe op ocs ods : Nat) (oh ol : Int64) (dec : Nat → Option Nat) (dd od : Nat) (hd : dd < 256) (ho : dec dd = some od) : Ck l G yCK_checkInstalled cCK_checkInstalled 2 none { frames := 0, cells := 0, slots := 0, locals := 0 } [.ref ox, .int (nI dd)] [oC ox 7 [.ref oc, .ref ot, .ref oo, .ref oe, .ref op, .ref ocs, .ref ods, .long oh, .long ol], aQ G ods 256 dec] (none) [oC ox 7 [.ref oc, .ref ot, .ref oo, .ref oe, .ref op, .ref ocs, .ref ods, .long oh, .long ol], aQ G ods 256 dec] := by
  refine Cq.of (by decide) (Nat.le_of_ble_eq_true rfl) ?_
  intro p e s m args below meth c A ls hx hb hr hml hts hown hlk hA hP hD hG hS hl
  have hl : lv_has ls 2 [(0, .ref ox), (1, .int (nI dd))] := hl
  refine lv_aload_n hx hb dCK_checkInstalled_0 rfl (lv_at hl 0 rfl) ?_
  refine gfCK_52 hx hb hts hown hG hP 0 rfl rfl dCK_checkInstalled_1 ?_
  refine lv_iload_n hx hb dCK_checkInstalled_4 rfl (lv_at hl 1 rfl) ?_
  refine ck_qald (v := .ref od) hx hb hG hP 1 rfl (by decide) dd (rfl) (hd) (by rw [ho]; rfl) dCK_checkInstalled_5 ?_
  refine lv_ifnonnull (tgt := 20) hx hb dCK_checkInstalled_6 rfl ?_
  exact cq_vret () (trivial) hx hb hr hlk hP hS rfl (rfl) dCK_checkInstalled_20
set_option maxHeartbeats 4000000 in
set_option maxRecDepth 100000 in
theorem x_CK_checkInstalled (l : Launch) (hl0 : l.stackTraces = false) (G : gG) (ox oc ot oo oe op ocs ods : Nat) (oh ol : Int64) (dec : Nat → Option Nat) (dd : Nat) (hd : dd < 256) (ho : dec dd = none) : Cx l G yCK_checkInstalled cCK_checkInstalled 2 none { frames := 6, cells := 1, slots := 6, locals := 82 } [.ref ox, .int (nI dd)] [oC ox 7 [.ref oc, .ref ot, .ref oo, .ref oe, .ref op, .ref ocs, .ref ods, .long oh, .long ol], aQ G ods 256 dec] "java/lang/IllegalStateException" [oC ox 7 [.ref oc, .ref ot, .ref oo, .ref oe, .ref op, .ref ocs, .ref ods, .long oh, .long ol], aQ G ods 256 dec] := by
  refine Cx.of (by decide) (Nat.le_of_ble_eq_true rfl) ?_
  intro p e s m args below meth c A ls hx hb hr hml hts hown hlk htb hA hP hD hG hS hl
  have hl : lv_has ls 2 [(0, .ref ox), (1, .int (nI dd))] := hl
  refine lv_aload_n hx hb dCK_checkInstalled_0 rfl (lv_at hl 0 rfl) ?_
  refine gfCK_52 hx hb hts hown hG hP 0 rfl rfl dCK_checkInstalled_1 ?_
  refine lv_iload_n hx hb dCK_checkInstalled_4 rfl (lv_at hl 1 rfl) ?_
  refine ck_qald (v := .null) hx hb hG hP 1 rfl (by decide) dd (rfl) (hd) (by rw [ho]; rfl) dCK_checkInstalled_5 ?_
  refine lv_ifnonnullN hx hb dCK_checkInstalled_6 ?_
  exact cxISEW (sx := 260) (tx := "not installed") hl0 hx hb hml hown hts htb hlk hG hP hS hl.1 (by decide) dCK_checkInstalled_9 dCK_checkInstalled_12 dCK_checkInstalled_13 dCK_checkInstalled_16 dCK_checkInstalled_19 (by decide) (Nat.le_of_ble_eq_true rfl) (by decide) (by decide) (by decide) (by decide)
set_option maxHeartbeats 4000000 in
set_option maxRecDepth 100000 in
theorem k_CK_maskBlock (l : Launch) (G : gG) (ox oc owd ot oo oe op ocs ods : Nat) (oh ol h0 l0 : Int64) (w : Nat → Int32) (c1 p1 : Int32) (i1 h1 l1 : Int64) : Ck l G yCK_maskBlock cCK_maskBlock 9 none { frames := 3, cells := 0, slots := 0, locals := 76 } [.ref ox, .int c1, .int p1, .long i1, .long h1, .long l1] [oC ox 7 [.ref oc, .ref ot, .ref oo, .ref oe, .ref op, .ref ocs, .ref ods, .long oh, .long ol], oC oc 1 [.ref owd, .long h0, .long l0], aI G owd 44 w] (none) [oC ox 7 [.ref oc, .ref ot, .ref oo, .ref oe, .ref op, .ref ocs, .ref ods, .long (h1 ^^^ jEH w (lN 65536 * c1.toInt64 + p1.toInt64) i1), .long (l1 ^^^ jEL w (lN 65536 * c1.toInt64 + p1.toInt64) i1)], oC oc 1 [.ref owd, .long (jEH w (lN 65536 * c1.toInt64 + p1.toInt64) i1), .long (jEL w (lN 65536 * c1.toInt64 + p1.toInt64) i1)], aI G owd 44 w] := by
  refine Cq.of (by decide) (Nat.le_of_ble_eq_true rfl) ?_
  intro p e s m args below meth c A ls hx hb hr hml hts hown hlk hA hP hD hG hS hl
  have hl : lv_has ls 9 [(0, .ref ox), (1, .int c1), (2, .int p1), (3, .long i1), (5, .long h1), (7, .long l1)] := hl
  refine lv_aload_n hx hb dCK_maskBlock_0 rfl (lv_at hl 0 rfl) ?_
  refine gfCK_12 hx hb hts hown hG hP 0 rfl rfl dCK_maskBlock_1 ?_
  refine lv_ldc2 (v := lN 65536) hx hb hown (hts _ kkCK_273) dCK_maskBlock_4 ?_
  refine lv_iload_n hx hb dCK_maskBlock_7 rfl (lv_at hl 1 rfl) ?_
  refine lv_i2l (v := c1.toInt64) hx hb dCK_maskBlock_8 rfl ?_
  refine lv_lmul hx hb dCK_maskBlock_9 ?_
  refine lv_iload_n hx hb dCK_maskBlock_10 rfl (lv_at hl 2 rfl) ?_
  refine lv_i2l (v := p1.toInt64) hx hb dCK_maskBlock_11 rfl ?_
  refine lv_ladd hx hb dCK_maskBlock_12 ?_
  refine lv_lload_n hx hb dCK_maskBlock_13 rfl (lv_at hl 3 rfl) ?_
  refine clCK_275 (As := [.long (((lN 65536) * c1.toInt64) + p1.toInt64), .long i1]) (rest := []) hx hb hml hown hts (k_Ci_encrypt l G oc owd w h0 l0 (((lN 65536) * c1.toInt64) + p1.toInt64) i1) hG hA hP hD hS 1 rfl [1, 2] rfl rfl (fun _ => rfl) rfl hl.1 rfl (Nat.le_of_ble_eq_true rfl) ⟨by decide, by decide⟩ ⟨by decide, by decide⟩ dCK_maskBlock_14 (fun _ H locs _ hP hD hS => ?_)
  have hP : va_P G.1 vwCl [oC ox 7 [.ref oc, .ref ot, .ref oo, .ref oe, .ref op, .ref ocs, .ref ods, .long oh, .long ol], oC oc 1 [.ref owd, .long (jEH w (((lN 65536) * c1.toInt64) + p1.toInt64) i1), .long (jEL w (((lN 65536) * c1.toInt64) + p1.toInt64) i1)], aI G owd 44 w] H := hP
  have hD : va_D A [oC ox 7 [.ref oc, .ref ot, .ref oo, .ref oe, .ref op, .ref ocs, .ref ods, .long oh, .long ol], oC oc 1 [.ref owd, .long (jEH w (((lN 65536) * c1.toInt64) + p1.toInt64) i1), .long (jEL w (((lN 65536) * c1.toInt64) + p1.toInt64) i1)], aI G owd 44 w] := hD
  refine W.cs (cells' := 0) (slots' := 0) rfl rfl ?_
  refine W.eq (g2 := F0 m 17 ls []) rfl ?_
  refine lv_aload_n hx hb dCK_maskBlock_17 rfl (lv_at hl 0 rfl) ?_
  refine lv_lload hx hb dCK_maskBlock_18 (lv_at hl 4 rfl) ?_
  refine lv_aload_n hx hb dCK_maskBlock_20 rfl (lv_at hl 0 rfl) ?_
  refine gfCK_12 hx hb hts hown hG hP 0 rfl rfl dCK_maskBlock_21 ?_
  refine gfCK_227 hx hb hts hown hG hP 1 rfl rfl dCK_maskBlock_24 ?_
  refine lv_lxor hx hb dCK_maskBlock_27 ?_
  refine pfCK_192 hx hb hts hown hG hP hD hS 0 rfl rfl rfl (Nat.le_of_ble_eq_true rfl) dCK_maskBlock_28 (fun H locs hP hD hS => ?_)
  have hP : va_P G.1 vwCl [oC ox 7 [.ref oc, .ref ot, .ref oo, .ref oe, .ref op, .ref ocs, .ref ods, .long (h1 ^^^ (jEH w (((lN 65536) * c1.toInt64) + p1.toInt64) i1)), .long ol], oC oc 1 [.ref owd, .long (jEH w (((lN 65536) * c1.toInt64) + p1.toInt64) i1), .long (jEL w (((lN 65536) * c1.toInt64) + p1.toInt64) i1)], aI G owd 44 w] H := hP
  have hD : va_D A [oC ox 7 [.ref oc, .ref ot, .ref oo, .ref oe, .ref op, .ref ocs, .ref ods, .long (h1 ^^^ (jEH w (((lN 65536) * c1.toInt64) + p1.toInt64) i1)), .long ol], oC oc 1 [.ref owd, .long (jEH w (((lN 65536) * c1.toInt64) + p1.toInt64) i1), .long (jEL w (((lN 65536) * c1.toInt64) + p1.toInt64) i1)], aI G owd 44 w] := hD
  refine lv_aload_n hx hb dCK_maskBlock_31 rfl (lv_at hl 0 rfl) ?_
  refine lv_lload hx hb dCK_maskBlock_32 (lv_at hl 5 rfl) ?_
  refine lv_aload_n hx hb dCK_maskBlock_34 rfl (lv_at hl 0 rfl) ?_
  refine gfCK_12 hx hb hts hown hG hP 0 rfl rfl dCK_maskBlock_35 ?_
  refine gfCK_228 hx hb hts hown hG hP 1 rfl rfl dCK_maskBlock_38 ?_
  refine lv_lxor hx hb dCK_maskBlock_41 ?_
  refine pfCK_189 hx hb hts hown hG hP hD hS 0 rfl rfl rfl (Nat.le_of_ble_eq_true rfl) dCK_maskBlock_42 (fun H locs hP hD hS => ?_)
  have hP : va_P G.1 vwCl [oC ox 7 [.ref oc, .ref ot, .ref oo, .ref oe, .ref op, .ref ocs, .ref ods, .long (h1 ^^^ (jEH w (((lN 65536) * c1.toInt64) + p1.toInt64) i1)), .long (l1 ^^^ (jEL w (((lN 65536) * c1.toInt64) + p1.toInt64) i1))], oC oc 1 [.ref owd, .long (jEH w (((lN 65536) * c1.toInt64) + p1.toInt64) i1), .long (jEL w (((lN 65536) * c1.toInt64) + p1.toInt64) i1)], aI G owd 44 w] H := hP
  have hD : va_D A [oC ox 7 [.ref oc, .ref ot, .ref oo, .ref oe, .ref op, .ref ocs, .ref ods, .long (h1 ^^^ (jEH w (((lN 65536) * c1.toInt64) + p1.toInt64) i1)), .long (l1 ^^^ (jEL w (((lN 65536) * c1.toInt64) + p1.toInt64) i1))], oC oc 1 [.ref owd, .long (jEH w (((lN 65536) * c1.toInt64) + p1.toInt64) i1), .long (jEL w (((lN 65536) * c1.toInt64) + p1.toInt64) i1)], aI G owd 44 w] := hD
  exact cq_vret () (trivial) hx hb hr hlk hP hS rfl (rfl) dCK_maskBlock_45
set_option maxHeartbeats 4000000 in
set_option maxRecDepth 100000 in
theorem k_CK_putEntry (l : Launch) (G : gG) (ox oc owd ot oo om oe op ob ocs ods : Nat) (oh ol : Int64) (kk : Nat → Nat) (ks kv kw c4 : Nat) (hc : c4 < 4) (dp : Nat) (sh sl : Int64) (g : Nat → Int32) (e0 f0 c0 h0 l0 h1 l1 : Int64) (p1 s1 : Int32) (fv fw f : Nat → Int32) (n q lv : Nat) (hq : q < 128) (hn : n + 28 ≤ 229) (hv : lv ≤ 8) (hlv : ¬ fv q = 0 → jLb (fw q) (fv q) = nI lv) : Cq l G yCK_putEntry cCK_putEntry 3 none { frames := 5, cells := 0, slots := 0, locals := 123 } [.ref ox, .ref (kk c4), .int (nI q)] [oC ox 7 [.ref oc, .ref ot, .ref oo, .ref oe, .ref op, .ref ocs, .ref ods, .long oh, .long ol], oC ot 6 [.int (nI dp), .long sh, .long sl], oC oc 1 [.ref owd, .long e0, .long f0], aI G owd 44 g, oC oe 4 [.long c0, .long h0, .long l0], oC op 5 [.ref ob, .int (nI n)], aI G ob 229 f, oC (kk c4) 0 [.ref ks, .ref kv, .ref kw, .int p1, .int s1, .long h1, .long l1], aI G kv 128 fv, aI G kw 128 fw] (S := (Nat → Int32) × Int64 × Int64) (fun _ => True) (fun u => none) (fun u => [oC ox 7 [.ref oc, .ref ot, .ref oo, .ref oe, .ref op, .ref ocs, .ref ods, .long oh, .long ol], oC ot 6 [.int (nI dp), .long sh, .long sl], oC oc 1 [.ref owd, .long u.2.1, .long u.2.2], aI G owd 44 u.1, oC oe 4 [.long ((jWr (jKey (jKy sh sl (fv q) (fw q) lv).1 (jKy sh sl (fv q) (fw q) lv).2) (jSeal, h1, l1) 12).1), .long ((jWr (jKey (jKy sh sl (fv q) (fw q) lv).1 (jKy sh sl (fv q) (fw q) lv).2) (jSeal, h1, l1) 12).2.1), .long ((jWr (jKey (jKy sh sl (fv q) (fw q) lv).1 (jKy sh sl (fv q) (fw q) lv).2) (jSeal, h1, l1) 12).2.2)], oC op 5 [.ref ob, .int (nI (n + 28))], aI G ob 229 (jEnt n f (fv q) (fw q) (jWr (jKey (jKy sh sl (fv q) (fw q) lv).1 (jKy sh sl (fv q) (fw q) lv).2) (jSeal, h1, l1) 12)), oC (kk c4) 0 [.ref ks, .ref kv, .ref kw, .int p1, .int s1, .long h1, .long l1], aI G kv 128 fv, aI G kw 128 fw]) := by
  refine Cq.of (by decide) (Nat.le_of_ble_eq_true rfl) ?_
  intro p e s m args below meth c A ls hx hb hr hml hts hown hlk hA hP hD hG hS hl
  have hl : lv_has ls 3 [(0, .ref ox), (1, .ref (kk c4)), (2, .int (nI q))] := hl
  refine lv_aload_n hx hb dCK_putEntry_0 rfl (lv_at hl 0 rfl) ?_
  refine gfCK_19 hx hb hts hown hG hP 0 rfl rfl dCK_putEntry_1 ?_
  refine lv_aload_n hx hb dCK_putEntry_4 rfl (lv_at hl 0 rfl) ?_
  refine gfCK_12 hx hb hts hown hG hP 0 rfl rfl dCK_putEntry_5 ?_
  refine lv_aload_n hx hb dCK_putEntry_8 rfl (lv_at hl 1 rfl) ?_
  refine gfCK_209 hx hb hts hown hG hP 7 rfl rfl dCK_putEntry_9 ?_
  refine lv_iload_n hx hb dCK_putEntry_12 rfl (lv_at hl 2 rfl) ?_
  refine ck_iald hx hb hG hP 8 rfl (by decide) q (rfl) (hq) dCK_putEntry_13 ?_
  refine lv_aload_n hx hb dCK_putEntry_14 rfl (lv_at hl 1 rfl) ?_
  refine gfCK_206 hx hb hts hown hG hP 7 rfl rfl dCK_putEntry_15 ?_
  refine lv_iload_n hx hb dCK_putEntry_18 rfl (lv_at hl 2 rfl) ?_
  refine ck_iald hx hb hG hP 9 rfl (by decide) q (rfl) (hq) dCK_putEntry_19 ?_
  refine clCK_235 (As := [.ref oc, .int (fv q), .int (fw q)]) (rest := []) hx hb hml hown hts (k_Tr_findKey l G ot oc owd dp sh sl e0 f0 g (fv q) (fw q) lv hv hlv) hG hA hP hD hS 1 rfl [1, 2, 3] rfl rfl (fun _ => rfl) rfl hl.1 rfl (Nat.le_of_ble_eq_true rfl) ⟨by decide, by decide⟩ ⟨by decide, by decide⟩ dCK_putEntry_20 (fun g1 H locs _ hP hD hS => ?_)
  have hP : va_P G.1 vwCl [oC ox 7 [.ref oc, .ref ot, .ref oo, .ref oe, .ref op, .ref ocs, .ref ods, .long oh, .long ol], oC ot 6 [.int (nI dp), .long sh, .long sl], oC oc 1 [.ref owd, .long ((jKy sh sl (fv q) (fw q) lv).1), .long ((jKy sh sl (fv q) (fw q) lv).2)], aI G owd 44 g1, oC oe 4 [.long c0, .long h0, .long l0], oC op 5 [.ref ob, .int (nI n)], aI G ob 229 f, oC (kk c4) 0 [.ref ks, .ref kv, .ref kw, .int p1, .int s1, .long h1, .long l1], aI G kv 128 fv, aI G kw 128 fw] H := hP
  have hD : va_D A [oC ox 7 [.ref oc, .ref ot, .ref oo, .ref oe, .ref op, .ref ocs, .ref ods, .long oh, .long ol], oC ot 6 [.int (nI dp), .long sh, .long sl], oC oc 1 [.ref owd, .long ((jKy sh sl (fv q) (fw q) lv).1), .long ((jKy sh sl (fv q) (fw q) lv).2)], aI G owd 44 g1, oC oe 4 [.long c0, .long h0, .long l0], oC op 5 [.ref ob, .int (nI n)], aI G ob 229 f, oC (kk c4) 0 [.ref ks, .ref kv, .ref kw, .int p1, .int s1, .long h1, .long l1], aI G kv 128 fv, aI G kw 128 fw] := hD
  refine W.cs (cells' := 0) (slots' := 0) rfl rfl ?_
  refine W.eq (g2 := F0 m 23 ls []) rfl ?_
  generalize jKy sh sl (fv q) (fw q) lv = ky at hP hD ⊢
  refine lv_aload_n hx hb dCK_putEntry_23 rfl (lv_at hl 0 rfl) ?_
  refine gfCK_12 hx hb hts hown hG hP 0 rfl rfl dCK_putEntry_24 ?_
  refine lv_aload_n hx hb dCK_putEntry_27 rfl (lv_at hl 0 rfl) ?_
  refine gfCK_12 hx hb hts hown hG hP 0 rfl rfl dCK_putEntry_28 ?_
  refine gfCK_227 hx hb hts hown hG hP 2 rfl rfl dCK_putEntry_31 ?_
  refine lv_aload_n hx hb dCK_putEntry_34 rfl (lv_at hl 0 rfl) ?_
  refine gfCK_12 hx hb hts hown hG hP 0 rfl rfl dCK_putEntry_35 ?_
  refine gfCK_228 hx hb hts hown hG hP 2 rfl rfl dCK_putEntry_38 ?_
  refine clCK_173 (As := [.long ky.1, .long ky.2]) (rest := []) hx hb hml hown hts (k_Ci_key l G oc owd g1 ky.1 ky.2 ky.1 ky.2) hG hA hP hD hS 2 rfl [2, 3] rfl rfl (fun _ => rfl) rfl hl.1 rfl (Nat.le_of_ble_eq_true rfl) ⟨by decide, by decide⟩ ⟨by decide, by decide⟩ dCK_putEntry_41 (fun _ H locs _ hP hD hS => ?_)
  have hP : va_P G.1 vwCl [oC ox 7 [.ref oc, .ref ot, .ref oo, .ref oe, .ref op, .ref ocs, .ref ods, .long oh, .long ol], oC ot 6 [.int (nI dp), .long sh, .long sl], oC oc 1 [.ref owd, .long ky.1, .long ky.2], aI G owd 44 (jKey ky.1 ky.2), oC oe 4 [.long c0, .long h0, .long l0], oC op 5 [.ref ob, .int (nI n)], aI G ob 229 f, oC (kk c4) 0 [.ref ks, .ref kv, .ref kw, .int p1, .int s1, .long h1, .long l1], aI G kv 128 fv, aI G kw 128 fw] H := hP
  have hD : va_D A [oC ox 7 [.ref oc, .ref ot, .ref oo, .ref oe, .ref op, .ref ocs, .ref ods, .long oh, .long ol], oC ot 6 [.int (nI dp), .long sh, .long sl], oC oc 1 [.ref owd, .long ky.1, .long ky.2], aI G owd 44 (jKey ky.1 ky.2), oC oe 4 [.long c0, .long h0, .long l0], oC op 5 [.ref ob, .int (nI n)], aI G ob 229 f, oC (kk c4) 0 [.ref ks, .ref kv, .ref kw, .int p1, .int s1, .long h1, .long l1], aI G kv 128 fv, aI G kw 128 fw] := hD
  refine W.cs (cells' := 0) (slots' := 0) rfl rfl ?_
  refine W.eq (g2 := F0 m 44 ls []) rfl ?_
  refine lv_aload_n hx hb dCK_putEntry_44 rfl (lv_at hl 0 rfl) ?_
  refine gfCK_33 hx hb hts hown hG hP 0 rfl rfl dCK_putEntry_45 ?_
  refine lv_aload_n hx hb dCK_putEntry_48 rfl (lv_at hl 0 rfl) ?_
  refine gfCK_12 hx hb hts hown hG hP 0 rfl rfl dCK_putEntry_49 ?_
  refine lv_aload_n hx hb dCK_putEntry_52 rfl (lv_at hl 1 rfl) ?_
  refine gfCK_171 hx hb hts hown hG hP 7 rfl rfl dCK_putEntry_53 ?_
  refine lv_aload_n hx hb dCK_putEntry_56 rfl (lv_at hl 1 rfl) ?_
  refine gfCK_172 hx hb hts hown hG hP 7 rfl rfl dCK_putEntry_57 ?_
  refine clCK_262 (As := [.ref oc, .long h1, .long l1]) (rest := []) hx hb hml hown hts (k_En_wrap l G oe oc owd (jKey ky.1 ky.2) c0 h0 l0 ky.1 ky.2 h1 l1) hG hA hP hD hS 4 rfl [4, 2, 3] rfl rfl (fun _ => rfl) rfl hl.1 rfl (Nat.le_of_ble_eq_true rfl) ⟨by decide, by decide⟩ ⟨by decide, by decide⟩ dCK_putEntry_60 (fun u9 H locs _ hP hD hS => ?_)
  have hP : va_P G.1 vwCl [oC ox 7 [.ref oc, .ref ot, .ref oo, .ref oe, .ref op, .ref ocs, .ref ods, .long oh, .long ol], oC ot 6 [.int (nI dp), .long sh, .long sl], oC oc 1 [.ref owd, .long u9.1, .long u9.2], aI G owd 44 (jKey ky.1 ky.2), oC oe 4 [.long ((jWr (jKey ky.1 ky.2) (jSeal, h1, l1) 12).1), .long ((jWr (jKey ky.1 ky.2) (jSeal, h1, l1) 12).2.1), .long ((jWr (jKey ky.1 ky.2) (jSeal, h1, l1) 12).2.2)], oC op 5 [.ref ob, .int (nI n)], aI G ob 229 f, oC (kk c4) 0 [.ref ks, .ref kv, .ref kw, .int p1, .int s1, .long h1, .long l1], aI G kv 128 fv, aI G kw 128 fw] H := hP
  have hD : va_D A [oC ox 7 [.ref oc, .ref ot, .ref oo, .ref oe, .ref op, .ref ocs, .ref ods, .long oh, .long ol], oC ot 6 [.int (nI dp), .long sh, .long sl], oC oc 1 [.ref owd, .long u9.1, .long u9.2], aI G owd 44 (jKey ky.1 ky.2), oC oe 4 [.long ((jWr (jKey ky.1 ky.2) (jSeal, h1, l1) 12).1), .long ((jWr (jKey ky.1 ky.2) (jSeal, h1, l1) 12).2.1), .long ((jWr (jKey ky.1 ky.2) (jSeal, h1, l1) 12).2.2)], oC op 5 [.ref ob, .int (nI n)], aI G ob 229 f, oC (kk c4) 0 [.ref ks, .ref kv, .ref kw, .int p1, .int s1, .long h1, .long l1], aI G kv 128 fv, aI G kw 128 fw] := hD
  refine W.cs (cells' := 0) (slots' := 0) rfl rfl ?_
  refine W.eq (g2 := F0 m 63 ls []) rfl ?_
  generalize jWr (jKey ky.1 ky.2) (jSeal, h1, l1) 12 = q3 at hP hD ⊢
  refine lv_aload_n hx hb dCK_putEntry_63 rfl (lv_at hl 0 rfl) ?_
  refine gfCK_40 hx hb hts hown hG hP 0 rfl rfl dCK_putEntry_64 ?_
  refine lv_aload_n hx hb dCK_putEntry_67 rfl (lv_at hl 1 rfl) ?_
  refine gfCK_209 hx hb hts hown hG hP 7 rfl rfl dCK_putEntry_68 ?_
  refine lv_iload_n hx hb dCK_putEntry_71 rfl (lv_at hl 2 rfl) ?_
  refine ck_iald hx hb hG hP 8 rfl (by decide) q (rfl) (hq) dCK_putEntry_72 ?_
  refine lv_i2l (v := (fv q).toInt64) hx hb dCK_putEntry_73 rfl ?_
  refine lv_iconst (v := nI 2) hx hb dCK_putEntry_74 (by decide) ?_
  refine clCK_121 (As := [.long ((fv q).toInt64), .int (nI 2)]) (rest := []) hx hb hml hown hts (k_Pa_put l G op ob (n) 2 f ((fv q).toInt64) (by omega)) hG hA hP hD hS 5 rfl [5, 6] rfl rfl (fun _ => rfl) rfl hl.1 rfl (Nat.le_of_ble_eq_true rfl) ⟨by decide, by decide⟩ ⟨by decide, by decide⟩ dCK_putEntry_75 (fun _ H locs _ hP hD hS => ?_)
  have hP : va_P G.1 vwCl [oC ox 7 [.ref oc, .ref ot, .ref oo, .ref oe, .ref op, .ref ocs, .ref ods, .long oh, .long ol], oC ot 6 [.int (nI dp), .long sh, .long sl], oC oc 1 [.ref owd, .long u9.1, .long u9.2], aI G owd 44 (jKey ky.1 ky.2), oC oe 4 [.long q3.1, .long q3.2.1, .long q3.2.2], oC op 5 [.ref ob, .int (nI (n + 2))], aI G ob 229 (jPut ((fv q).toInt64) 2 (n) f 2), oC (kk c4) 0 [.ref ks, .ref kv, .ref kw, .int p1, .int s1, .long h1, .long l1], aI G kv 128 fv, aI G kw 128 fw] H := hP
  have hD : va_D A [oC ox 7 [.ref oc, .ref ot, .ref oo, .ref oe, .ref op, .ref ocs, .ref ods, .long oh, .long ol], oC ot 6 [.int (nI dp), .long sh, .long sl], oC oc 1 [.ref owd, .long u9.1, .long u9.2], aI G owd 44 (jKey ky.1 ky.2), oC oe 4 [.long q3.1, .long q3.2.1, .long q3.2.2], oC op 5 [.ref ob, .int (nI (n + 2))], aI G ob 229 (jPut ((fv q).toInt64) 2 (n) f 2), oC (kk c4) 0 [.ref ks, .ref kv, .ref kw, .int p1, .int s1, .long h1, .long l1], aI G kv 128 fv, aI G kw 128 fw] := hD
  refine W.cs (cells' := 0) (slots' := 0) rfl rfl ?_
  refine W.eq (g2 := F0 m 78 ls []) rfl ?_
  refine lv_aload_n hx hb dCK_putEntry_78 rfl (lv_at hl 0 rfl) ?_
  refine gfCK_40 hx hb hts hown hG hP 0 rfl rfl dCK_putEntry_79 ?_
  refine lv_aload_n hx hb dCK_putEntry_82 rfl (lv_at hl 1 rfl) ?_
  refine gfCK_206 hx hb hts hown hG hP 7 rfl rfl dCK_putEntry_83 ?_
  refine lv_iload_n hx hb dCK_putEntry_86 rfl (lv_at hl 2 rfl) ?_
  refine ck_iald hx hb hG hP 9 rfl (by decide) q (rfl) (hq) dCK_putEntry_87 ?_
  refine lv_i2l (v := (fw q).toInt64) hx hb dCK_putEntry_88 rfl ?_
  refine lv_iconst (v := nI 2) hx hb dCK_putEntry_89 (by decide) ?_
  refine clCK_121 (As := [.long ((fw q).toInt64), .int (nI 2)]) (rest := []) hx hb hml hown hts (k_Pa_put l G op ob (n + 2) 2 (jPut ((fv q).toInt64) 2 (n) f 2) ((fw q).toInt64) (by omega)) hG hA hP hD hS 5 rfl [5, 6] rfl rfl (fun _ => rfl) rfl hl.1 rfl (Nat.le_of_ble_eq_true rfl) ⟨by decide, by decide⟩ ⟨by decide, by decide⟩ dCK_putEntry_90 (fun _ H locs _ hP hD hS => ?_)
  have hP : va_P G.1 vwCl [oC ox 7 [.ref oc, .ref ot, .ref oo, .ref oe, .ref op, .ref ocs, .ref ods, .long oh, .long ol], oC ot 6 [.int (nI dp), .long sh, .long sl], oC oc 1 [.ref owd, .long u9.1, .long u9.2], aI G owd 44 (jKey ky.1 ky.2), oC oe 4 [.long q3.1, .long q3.2.1, .long q3.2.2], oC op 5 [.ref ob, .int (nI (n + 4))], aI G ob 229 (jPut ((fw q).toInt64) 2 (n + 2) (jPut ((fv q).toInt64) 2 (n) f 2) 2), oC (kk c4) 0 [.ref ks, .ref kv, .ref kw, .int p1, .int s1, .long h1, .long l1], aI G kv 128 fv, aI G kw 128 fw] H := hP
  have hD : va_D A [oC ox 7 [.ref oc, .ref ot, .ref oo, .ref oe, .ref op, .ref ocs, .ref ods, .long oh, .long ol], oC ot 6 [.int (nI dp), .long sh, .long sl], oC oc 1 [.ref owd, .long u9.1, .long u9.2], aI G owd 44 (jKey ky.1 ky.2), oC oe 4 [.long q3.1, .long q3.2.1, .long q3.2.2], oC op 5 [.ref ob, .int (nI (n + 4))], aI G ob 229 (jPut ((fw q).toInt64) 2 (n + 2) (jPut ((fv q).toInt64) 2 (n) f 2) 2), oC (kk c4) 0 [.ref ks, .ref kv, .ref kw, .int p1, .int s1, .long h1, .long l1], aI G kv 128 fv, aI G kw 128 fw] := hD
  refine W.cs (cells' := 0) (slots' := 0) rfl rfl ?_
  refine W.eq (g2 := F0 m 93 ls []) rfl ?_
  refine lv_aload_n hx hb dCK_putEntry_93 rfl (lv_at hl 0 rfl) ?_
  refine gfCK_40 hx hb hts hown hG hP 0 rfl rfl dCK_putEntry_94 ?_
  refine lv_aload_n hx hb dCK_putEntry_97 rfl (lv_at hl 0 rfl) ?_
  refine gfCK_33 hx hb hts hown hG hP 0 rfl rfl dCK_putEntry_98 ?_
  refine gfCK_266 hx hb hts hown hG hP 4 rfl rfl dCK_putEntry_101 ?_
  refine lv_bipush (v := nI 8) hx hb dCK_putEntry_104 (by decide) ?_
  refine clCK_121 (As := [.long q3.1, .int (nI 8)]) (rest := []) hx hb hml hown hts (k_Pa_put l G op ob (n + 4) 8 (jPut ((fw q).toInt64) 2 (n + 2) (jPut ((fv q).toInt64) 2 (n) f 2) 2) q3.1 (by omega)) hG hA hP hD hS 5 rfl [5, 6] rfl rfl (fun _ => rfl) rfl hl.1 rfl (Nat.le_of_ble_eq_true rfl) ⟨by decide, by decide⟩ ⟨by decide, by decide⟩ dCK_putEntry_106 (fun _ H locs _ hP hD hS => ?_)
  have hP : va_P G.1 vwCl [oC ox 7 [.ref oc, .ref ot, .ref oo, .ref oe, .ref op, .ref ocs, .ref ods, .long oh, .long ol], oC ot 6 [.int (nI dp), .long sh, .long sl], oC oc 1 [.ref owd, .long u9.1, .long u9.2], aI G owd 44 (jKey ky.1 ky.2), oC oe 4 [.long q3.1, .long q3.2.1, .long q3.2.2], oC op 5 [.ref ob, .int (nI (n + 12))], aI G ob 229 (jPut q3.1 8 (n + 4) (jPut ((fw q).toInt64) 2 (n + 2) (jPut ((fv q).toInt64) 2 (n) f 2) 2) 8), oC (kk c4) 0 [.ref ks, .ref kv, .ref kw, .int p1, .int s1, .long h1, .long l1], aI G kv 128 fv, aI G kw 128 fw] H := hP
  have hD : va_D A [oC ox 7 [.ref oc, .ref ot, .ref oo, .ref oe, .ref op, .ref ocs, .ref ods, .long oh, .long ol], oC ot 6 [.int (nI dp), .long sh, .long sl], oC oc 1 [.ref owd, .long u9.1, .long u9.2], aI G owd 44 (jKey ky.1 ky.2), oC oe 4 [.long q3.1, .long q3.2.1, .long q3.2.2], oC op 5 [.ref ob, .int (nI (n + 12))], aI G ob 229 (jPut q3.1 8 (n + 4) (jPut ((fw q).toInt64) 2 (n + 2) (jPut ((fv q).toInt64) 2 (n) f 2) 2) 8), oC (kk c4) 0 [.ref ks, .ref kv, .ref kw, .int p1, .int s1, .long h1, .long l1], aI G kv 128 fv, aI G kw 128 fw] := hD
  refine W.cs (cells' := 0) (slots' := 0) rfl rfl ?_
  refine W.eq (g2 := F0 m 109 ls []) rfl ?_
  refine lv_aload_n hx hb dCK_putEntry_109 rfl (lv_at hl 0 rfl) ?_
  refine gfCK_40 hx hb hts hown hG hP 0 rfl rfl dCK_putEntry_110 ?_
  refine lv_aload_n hx hb dCK_putEntry_113 rfl (lv_at hl 0 rfl) ?_
  refine gfCK_33 hx hb hts hown hG hP 0 rfl rfl dCK_putEntry_114 ?_
  refine gfCK_158 hx hb hts hown hG hP 4 rfl rfl dCK_putEntry_117 ?_
  refine lv_bipush (v := nI 8) hx hb dCK_putEntry_120 (by decide) ?_
  refine clCK_121 (As := [.long q3.2.1, .int (nI 8)]) (rest := []) hx hb hml hown hts (k_Pa_put l G op ob (n + 12) 8 (jPut q3.1 8 (n + 4) (jPut ((fw q).toInt64) 2 (n + 2) (jPut ((fv q).toInt64) 2 (n) f 2) 2) 8) q3.2.1 (by omega)) hG hA hP hD hS 5 rfl [5, 6] rfl rfl (fun _ => rfl) rfl hl.1 rfl (Nat.le_of_ble_eq_true rfl) ⟨by decide, by decide⟩ ⟨by decide, by decide⟩ dCK_putEntry_122 (fun _ H locs _ hP hD hS => ?_)
  have hP : va_P G.1 vwCl [oC ox 7 [.ref oc, .ref ot, .ref oo, .ref oe, .ref op, .ref ocs, .ref ods, .long oh, .long ol], oC ot 6 [.int (nI dp), .long sh, .long sl], oC oc 1 [.ref owd, .long u9.1, .long u9.2], aI G owd 44 (jKey ky.1 ky.2), oC oe 4 [.long q3.1, .long q3.2.1, .long q3.2.2], oC op 5 [.ref ob, .int (nI (n + 20))], aI G ob 229 (jPut q3.2.1 8 (n + 12) (jPut q3.1 8 (n + 4) (jPut ((fw q).toInt64) 2 (n + 2) (jPut ((fv q).toInt64) 2 (n) f 2) 2) 8) 8), oC (kk c4) 0 [.ref ks, .ref kv, .ref kw, .int p1, .int s1, .long h1, .long l1], aI G kv 128 fv, aI G kw 128 fw] H := hP
  have hD : va_D A [oC ox 7 [.ref oc, .ref ot, .ref oo, .ref oe, .ref op, .ref ocs, .ref ods, .long oh, .long ol], oC ot 6 [.int (nI dp), .long sh, .long sl], oC oc 1 [.ref owd, .long u9.1, .long u9.2], aI G owd 44 (jKey ky.1 ky.2), oC oe 4 [.long q3.1, .long q3.2.1, .long q3.2.2], oC op 5 [.ref ob, .int (nI (n + 20))], aI G ob 229 (jPut q3.2.1 8 (n + 12) (jPut q3.1 8 (n + 4) (jPut ((fw q).toInt64) 2 (n + 2) (jPut ((fv q).toInt64) 2 (n) f 2) 2) 8) 8), oC (kk c4) 0 [.ref ks, .ref kv, .ref kw, .int p1, .int s1, .long h1, .long l1], aI G kv 128 fv, aI G kw 128 fw] := hD
  refine W.cs (cells' := 0) (slots' := 0) rfl rfl ?_
  refine W.eq (g2 := F0 m 125 ls []) rfl ?_
  refine lv_aload_n hx hb dCK_putEntry_125 rfl (lv_at hl 0 rfl) ?_
  refine gfCK_40 hx hb hts hown hG hP 0 rfl rfl dCK_putEntry_126 ?_
  refine lv_aload_n hx hb dCK_putEntry_129 rfl (lv_at hl 0 rfl) ?_
  refine gfCK_33 hx hb hts hown hG hP 0 rfl rfl dCK_putEntry_130 ?_
  refine gfCK_162 hx hb hts hown hG hP 4 rfl rfl dCK_putEntry_133 ?_
  refine lv_bipush (v := nI 8) hx hb dCK_putEntry_136 (by decide) ?_
  refine clCK_121 (As := [.long q3.2.2, .int (nI 8)]) (rest := []) hx hb hml hown hts (k_Pa_put l G op ob (n + 20) 8 (jPut q3.2.1 8 (n + 12) (jPut q3.1 8 (n + 4) (jPut ((fw q).toInt64) 2 (n + 2) (jPut ((fv q).toInt64) 2 (n) f 2) 2) 8) 8) q3.2.2 (by omega)) hG hA hP hD hS 5 rfl [5, 6] rfl rfl (fun _ => rfl) rfl hl.1 rfl (Nat.le_of_ble_eq_true rfl) ⟨by decide, by decide⟩ ⟨by decide, by decide⟩ dCK_putEntry_138 (fun _ H locs _ hP hD hS => ?_)
  have hP : va_P G.1 vwCl [oC ox 7 [.ref oc, .ref ot, .ref oo, .ref oe, .ref op, .ref ocs, .ref ods, .long oh, .long ol], oC ot 6 [.int (nI dp), .long sh, .long sl], oC oc 1 [.ref owd, .long u9.1, .long u9.2], aI G owd 44 (jKey ky.1 ky.2), oC oe 4 [.long q3.1, .long q3.2.1, .long q3.2.2], oC op 5 [.ref ob, .int (nI (n + 28))], aI G ob 229 (jPut q3.2.2 8 (n + 20) (jPut q3.2.1 8 (n + 12) (jPut q3.1 8 (n + 4) (jPut ((fw q).toInt64) 2 (n + 2) (jPut ((fv q).toInt64) 2 (n) f 2) 2) 8) 8) 8), oC (kk c4) 0 [.ref ks, .ref kv, .ref kw, .int p1, .int s1, .long h1, .long l1], aI G kv 128 fv, aI G kw 128 fw] H := hP
  have hD : va_D A [oC ox 7 [.ref oc, .ref ot, .ref oo, .ref oe, .ref op, .ref ocs, .ref ods, .long oh, .long ol], oC ot 6 [.int (nI dp), .long sh, .long sl], oC oc 1 [.ref owd, .long u9.1, .long u9.2], aI G owd 44 (jKey ky.1 ky.2), oC oe 4 [.long q3.1, .long q3.2.1, .long q3.2.2], oC op 5 [.ref ob, .int (nI (n + 28))], aI G ob 229 (jPut q3.2.2 8 (n + 20) (jPut q3.2.1 8 (n + 12) (jPut q3.1 8 (n + 4) (jPut ((fw q).toInt64) 2 (n + 2) (jPut ((fv q).toInt64) 2 (n) f 2) 2) 8) 8) 8), oC (kk c4) 0 [.ref ks, .ref kv, .ref kw, .int p1, .int s1, .long h1, .long l1], aI G kv 128 fv, aI G kw 128 fw] := hD
  refine W.cs (cells' := 0) (slots' := 0) rfl rfl ?_
  refine W.eq (g2 := F0 m 141 ls []) rfl ?_
  exact cq_vret (jKey ky.1 ky.2, u9.1, u9.2) (trivial) hx hb hr hlk hP hS rfl (rfl) dCK_putEntry_141
set_option maxHeartbeats 4000000 in
set_option maxRecDepth 100000 in
theorem k_CK_unwrapEntry (l : Launch) (G : gG) (ox oc owd ot oo om oe op ob ocs ods : Nat) (oh ol : Int64) (dp : Nat) (sh sl : Int64) (g : Nat → Int32) (e0 f0 c0 h0 l0 : Int64) (f : Nat → Int32) (n a lv : Nat) (v1 w1 : Int32) (hn : n ≤ 229) (ha : a + 28 ≤ n) (hv : lv ≤ 8) (hlv : ¬ v1 = 0 → jLb w1 v1 = nI lv) : Cq l G yCK_unwrapEntry cCK_unwrapEntry 4 (some .boolean) { frames := 5, cells := 0, slots := 0, locals := 123 } [.ref ox, .int (nI a), .int v1, .int w1] [oC ox 7 [.ref oc, .ref ot, .ref oo, .ref oe, .ref op, .ref ocs, .ref ods, .long oh, .long ol], oC ot 6 [.int (nI dp), .long sh, .long sl], oC oc 1 [.ref owd, .long e0, .long f0], aI G owd 44 g, oC oe 4 [.long c0, .long h0, .long l0], oC op 5 [.ref ob, .int (nI n)], aI G ob 229 f] (S := (Nat → Int32) × Int64 × Int64) (fun _ => True) (fun u => some (.int (jB (decide ((jUw (jKey (jKy sh sl v1 w1 lv).1 (jKy sh sl v1 w1 lv).2) (jRd f (a + 4) 8, jRd f (a + 12) 8, jRd f (a + 20) 8) 12).1 = jSeal))))) (fun u => [oC ox 7 [.ref oc, .ref ot, .ref oo, .ref oe, .ref op, .ref ocs, .ref ods, .long oh, .long ol], oC ot 6 [.int (nI dp), .long sh, .long sl], oC oc 1 [.ref owd, .long u.2.1, .long u.2.2], aI G owd 44 u.1, oC oe 4 [.long ((jUw (jKey (jKy sh sl v1 w1 lv).1 (jKy sh sl v1 w1 lv).2) (jRd f (a + 4) 8, jRd f (a + 12) 8, jRd f (a + 20) 8) 12).1), .long ((jUw (jKey (jKy sh sl v1 w1 lv).1 (jKy sh sl v1 w1 lv).2) (jRd f (a + 4) 8, jRd f (a + 12) 8, jRd f (a + 20) 8) 12).2.1), .long ((jUw (jKey (jKy sh sl v1 w1 lv).1 (jKy sh sl v1 w1 lv).2) (jRd f (a + 4) 8, jRd f (a + 12) 8, jRd f (a + 20) 8) 12).2.2)], oC op 5 [.ref ob, .int (nI n)], aI G ob 229 f]) := by
  refine Cq.of (by decide) (Nat.le_of_ble_eq_true rfl) ?_
  intro p e s m args below meth c A ls hx hb hr hml hts hown hlk hA hP hD hG hS hl
  have hl : lv_has ls 4 [(0, .ref ox), (1, .int (nI a)), (2, .int v1), (3, .int w1)] := hl
  refine lv_aload_n hx hb dCK_unwrapEntry_0 rfl (lv_at hl 0 rfl) ?_
  refine gfCK_19 hx hb hts hown hG hP 0 rfl rfl dCK_unwrapEntry_1 ?_
  refine lv_aload_n hx hb dCK_unwrapEntry_4 rfl (lv_at hl 0 rfl) ?_
  refine gfCK_12 hx hb hts hown hG hP 0 rfl rfl dCK_unwrapEntry_5 ?_
  refine lv_iload_n hx hb dCK_unwrapEntry_8 rfl (lv_at hl 2 rfl) ?_
  refine lv_iload_n hx hb dCK_unwrapEntry_9 rfl (lv_at hl 3 rfl) ?_
  refine clCK_235 (As := [.ref oc, .int v1, .int w1]) (rest := []) hx hb hml hown hts (k_Tr_findKey l G ot oc owd dp sh sl e0 f0 g v1 w1 lv hv hlv) hG hA hP hD hS 1 rfl [1, 2, 3] rfl rfl (fun _ => rfl) rfl hl.1 rfl (Nat.le_of_ble_eq_true rfl) ⟨by decide, by decide⟩ ⟨by decide, by decide⟩ dCK_unwrapEntry_10 (fun g1 H locs _ hP hD hS => ?_)
  have hP : va_P G.1 vwCl [oC ox 7 [.ref oc, .ref ot, .ref oo, .ref oe, .ref op, .ref ocs, .ref ods, .long oh, .long ol], oC ot 6 [.int (nI dp), .long sh, .long sl], oC oc 1 [.ref owd, .long ((jKy sh sl v1 w1 lv).1), .long ((jKy sh sl v1 w1 lv).2)], aI G owd 44 g1, oC oe 4 [.long c0, .long h0, .long l0], oC op 5 [.ref ob, .int (nI n)], aI G ob 229 f] H := hP
  have hD : va_D A [oC ox 7 [.ref oc, .ref ot, .ref oo, .ref oe, .ref op, .ref ocs, .ref ods, .long oh, .long ol], oC ot 6 [.int (nI dp), .long sh, .long sl], oC oc 1 [.ref owd, .long ((jKy sh sl v1 w1 lv).1), .long ((jKy sh sl v1 w1 lv).2)], aI G owd 44 g1, oC oe 4 [.long c0, .long h0, .long l0], oC op 5 [.ref ob, .int (nI n)], aI G ob 229 f] := hD
  refine W.cs (cells' := 0) (slots' := 0) rfl rfl ?_
  refine W.eq (g2 := F0 m 13 ls []) rfl ?_
  generalize jKy sh sl v1 w1 lv = ky at hP hD ⊢
  refine lv_aload_n hx hb dCK_unwrapEntry_13 rfl (lv_at hl 0 rfl) ?_
  refine gfCK_12 hx hb hts hown hG hP 0 rfl rfl dCK_unwrapEntry_14 ?_
  refine lv_aload_n hx hb dCK_unwrapEntry_17 rfl (lv_at hl 0 rfl) ?_
  refine gfCK_12 hx hb hts hown hG hP 0 rfl rfl dCK_unwrapEntry_18 ?_
  refine gfCK_227 hx hb hts hown hG hP 2 rfl rfl dCK_unwrapEntry_21 ?_
  refine lv_aload_n hx hb dCK_unwrapEntry_24 rfl (lv_at hl 0 rfl) ?_
  refine gfCK_12 hx hb hts hown hG hP 0 rfl rfl dCK_unwrapEntry_25 ?_
  refine gfCK_228 hx hb hts hown hG hP 2 rfl rfl dCK_unwrapEntry_28 ?_
  refine clCK_173 (As := [.long ky.1, .long ky.2]) (rest := []) hx hb hml hown hts (k_Ci_key l G oc owd g1 ky.1 ky.2 ky.1 ky.2) hG hA hP hD hS 2 rfl [2, 3] rfl rfl (fun _ => rfl) rfl hl.1 rfl (Nat.le_of_ble_eq_true rfl) ⟨by decide, by decide⟩ ⟨by decide, by decide⟩ dCK_unwrapEntry_31 (fun _ H locs _ hP hD hS => ?_)
  have hP : va_P G.1 vwCl [oC ox 7 [.ref oc, .ref ot, .ref oo, .ref oe, .ref op, .ref ocs, .ref ods, .long oh, .long ol], oC ot 6 [.int (nI dp), .long sh, .long sl], oC oc 1 [.ref owd, .long ky.1, .long ky.2], aI G owd 44 (jKey ky.1 ky.2), oC oe 4 [.long c0, .long h0, .long l0], oC op 5 [.ref ob, .int (nI n)], aI G ob 229 f] H := hP
  have hD : va_D A [oC ox 7 [.ref oc, .ref ot, .ref oo, .ref oe, .ref op, .ref ocs, .ref ods, .long oh, .long ol], oC ot 6 [.int (nI dp), .long sh, .long sl], oC oc 1 [.ref owd, .long ky.1, .long ky.2], aI G owd 44 (jKey ky.1 ky.2), oC oe 4 [.long c0, .long h0, .long l0], oC op 5 [.ref ob, .int (nI n)], aI G ob 229 f] := hD
  refine W.cs (cells' := 0) (slots' := 0) rfl rfl ?_
  refine W.eq (g2 := F0 m 34 ls []) rfl ?_
  refine lv_aload_n hx hb dCK_unwrapEntry_34 rfl (lv_at hl 0 rfl) ?_
  refine gfCK_33 hx hb hts hown hG hP 0 rfl rfl dCK_unwrapEntry_35 ?_
  refine lv_aload_n hx hb dCK_unwrapEntry_38 rfl (lv_at hl 0 rfl) ?_
  refine gfCK_40 hx hb hts hown hG hP 0 rfl rfl dCK_unwrapEntry_39 ?_
  refine lv_iload_n hx hb dCK_unwrapEntry_42 rfl (lv_at hl 1 rfl) ?_
  refine lv_iconst (v := nI 4) hx hb dCK_unwrapEntry_43 (by decide) ?_
  refine lv_iadd hx hb dCK_unwrapEntry_44 ?_
  refine ck_ri (y := nI (a + 4)) (nI_add a 4) ?_
  refine lv_bipush (v := nI 8) hx hb dCK_unwrapEntry_45 (by decide) ?_
  refine clCK_147 (As := [.int (nI (a + 4)), .int (nI 8)]) (rest := [.ref oe]) hx hb hml hown hts (k_Pa_read l G op ob n (a + 4) 8 f (by omega) (by omega)) hG hA hP hD hS 5 rfl [5, 6] rfl rfl (fun _ => rfl) rfl hl.1 rfl (Nat.le_of_ble_eq_true rfl) ⟨by decide, by decide⟩ ⟨by decide, by decide⟩ dCK_unwrapEntry_47 (fun _ H locs _ hP hD hS => ?_)
  have hP : va_P G.1 vwCl [oC ox 7 [.ref oc, .ref ot, .ref oo, .ref oe, .ref op, .ref ocs, .ref ods, .long oh, .long ol], oC ot 6 [.int (nI dp), .long sh, .long sl], oC oc 1 [.ref owd, .long ky.1, .long ky.2], aI G owd 44 (jKey ky.1 ky.2), oC oe 4 [.long c0, .long h0, .long l0], oC op 5 [.ref ob, .int (nI n)], aI G ob 229 f] H := hP
  have hD : va_D A [oC ox 7 [.ref oc, .ref ot, .ref oo, .ref oe, .ref op, .ref ocs, .ref ods, .long oh, .long ol], oC ot 6 [.int (nI dp), .long sh, .long sl], oC oc 1 [.ref owd, .long ky.1, .long ky.2], aI G owd 44 (jKey ky.1 ky.2), oC oe 4 [.long c0, .long h0, .long l0], oC op 5 [.ref ob, .int (nI n)], aI G ob 229 f] := hD
  refine W.cs (cells' := 0) (slots' := 0) rfl rfl ?_
  refine W.eq (g2 := F0 m 50 ls [.long (jRd f (a + 4) 8), .ref oe]) rfl ?_
  generalize jRd f (a + 4) 8 = r4 at hP hD ⊢
  refine pfCK_266 hx hb hts hown hG hP hD hS 4 rfl rfl rfl (Nat.le_of_ble_eq_true rfl) dCK_unwrapEntry_50 (fun H locs hP hD hS => ?_)
  have hP : va_P G.1 vwCl [oC ox 7 [.ref oc, .ref ot, .ref oo, .ref oe, .ref op, .ref ocs, .ref ods, .long oh, .long ol], oC ot 6 [.int (nI dp), .long sh, .long sl], oC oc 1 [.ref owd, .long ky.1, .long ky.2], aI G owd 44 (jKey ky.1 ky.2), oC oe 4 [.long r4, .long h0, .long l0], oC op 5 [.ref ob, .int (nI n)], aI G ob 229 f] H := hP
  have hD : va_D A [oC ox 7 [.ref oc, .ref ot, .ref oo, .ref oe, .ref op, .ref ocs, .ref ods, .long oh, .long ol], oC ot 6 [.int (nI dp), .long sh, .long sl], oC oc 1 [.ref owd, .long ky.1, .long ky.2], aI G owd 44 (jKey ky.1 ky.2), oC oe 4 [.long r4, .long h0, .long l0], oC op 5 [.ref ob, .int (nI n)], aI G ob 229 f] := hD
  refine lv_aload_n hx hb dCK_unwrapEntry_53 rfl (lv_at hl 0 rfl) ?_
  refine gfCK_33 hx hb hts hown hG hP 0 rfl rfl dCK_unwrapEntry_54 ?_
  refine lv_aload_n hx hb dCK_unwrapEntry_57 rfl (lv_at hl 0 rfl) ?_
  refine gfCK_40 hx hb hts hown hG hP 0 rfl rfl dCK_unwrapEntry_58 ?_
  refine lv_iload_n hx hb dCK_unwrapEntry_61 rfl (lv_at hl 1 rfl) ?_
  refine lv_bipush (v := nI 12) hx hb dCK_unwrapEntry_62 (by decide) ?_
  refine lv_iadd hx hb dCK_unwrapEntry_64 ?_
  refine ck_ri (y := nI (a + 12)) (nI_add a 12) ?_
  refine lv_bipush (v := nI 8) hx hb dCK_unwrapEntry_65 (by decide) ?_
  refine clCK_147 (As := [.int (nI (a + 12)), .int (nI 8)]) (rest := [.ref oe]) hx hb hml hown hts (k_Pa_read l G op ob n (a + 12) 8 f (by omega) (by omega)) hG hA hP hD hS 5 rfl [5, 6] rfl rfl (fun _ => rfl) rfl hl.1 rfl (Nat.le_of_ble_eq_true rfl) ⟨by decide, by decide⟩ ⟨by decide, by decide⟩ dCK_unwrapEntry_67 (fun _ H locs _ hP hD hS => ?_)
  have hP : va_P G.1 vwCl [oC ox 7 [.ref oc, .ref ot, .ref oo, .ref oe, .ref op, .ref ocs, .ref ods, .long oh, .long ol], oC ot 6 [.int (nI dp), .long sh, .long sl], oC oc 1 [.ref owd, .long ky.1, .long ky.2], aI G owd 44 (jKey ky.1 ky.2), oC oe 4 [.long r4, .long h0, .long l0], oC op 5 [.ref ob, .int (nI n)], aI G ob 229 f] H := hP
  have hD : va_D A [oC ox 7 [.ref oc, .ref ot, .ref oo, .ref oe, .ref op, .ref ocs, .ref ods, .long oh, .long ol], oC ot 6 [.int (nI dp), .long sh, .long sl], oC oc 1 [.ref owd, .long ky.1, .long ky.2], aI G owd 44 (jKey ky.1 ky.2), oC oe 4 [.long r4, .long h0, .long l0], oC op 5 [.ref ob, .int (nI n)], aI G ob 229 f] := hD
  refine W.cs (cells' := 0) (slots' := 0) rfl rfl ?_
  refine W.eq (g2 := F0 m 70 ls [.long (jRd f (a + 12) 8), .ref oe]) rfl ?_
  generalize jRd f (a + 12) 8 = r12 at hP hD ⊢
  refine pfCK_158 hx hb hts hown hG hP hD hS 4 rfl rfl rfl (Nat.le_of_ble_eq_true rfl) dCK_unwrapEntry_70 (fun H locs hP hD hS => ?_)
  have hP : va_P G.1 vwCl [oC ox 7 [.ref oc, .ref ot, .ref oo, .ref oe, .ref op, .ref ocs, .ref ods, .long oh, .long ol], oC ot 6 [.int (nI dp), .long sh, .long sl], oC oc 1 [.ref owd, .long ky.1, .long ky.2], aI G owd 44 (jKey ky.1 ky.2), oC oe 4 [.long r4, .long r12, .long l0], oC op 5 [.ref ob, .int (nI n)], aI G ob 229 f] H := hP
  have hD : va_D A [oC ox 7 [.ref oc, .ref ot, .ref oo, .ref oe, .ref op, .ref ocs, .ref ods, .long oh, .long ol], oC ot 6 [.int (nI dp), .long sh, .long sl], oC oc 1 [.ref owd, .long ky.1, .long ky.2], aI G owd 44 (jKey ky.1 ky.2), oC oe 4 [.long r4, .long r12, .long l0], oC op 5 [.ref ob, .int (nI n)], aI G ob 229 f] := hD
  refine lv_aload_n hx hb dCK_unwrapEntry_73 rfl (lv_at hl 0 rfl) ?_
  refine gfCK_33 hx hb hts hown hG hP 0 rfl rfl dCK_unwrapEntry_74 ?_
  refine lv_aload_n hx hb dCK_unwrapEntry_77 rfl (lv_at hl 0 rfl) ?_
  refine gfCK_40 hx hb hts hown hG hP 0 rfl rfl dCK_unwrapEntry_78 ?_
  refine lv_iload_n hx hb dCK_unwrapEntry_81 rfl (lv_at hl 1 rfl) ?_
  refine lv_bipush (v := nI 20) hx hb dCK_unwrapEntry_82 (by decide) ?_
  refine lv_iadd hx hb dCK_unwrapEntry_84 ?_
  refine ck_ri (y := nI (a + 20)) (nI_add a 20) ?_
  refine lv_bipush (v := nI 8) hx hb dCK_unwrapEntry_85 (by decide) ?_
  refine clCK_147 (As := [.int (nI (a + 20)), .int (nI 8)]) (rest := [.ref oe]) hx hb hml hown hts (k_Pa_read l G op ob n (a + 20) 8 f (by omega) (by omega)) hG hA hP hD hS 5 rfl [5, 6] rfl rfl (fun _ => rfl) rfl hl.1 rfl (Nat.le_of_ble_eq_true rfl) ⟨by decide, by decide⟩ ⟨by decide, by decide⟩ dCK_unwrapEntry_87 (fun _ H locs _ hP hD hS => ?_)
  have hP : va_P G.1 vwCl [oC ox 7 [.ref oc, .ref ot, .ref oo, .ref oe, .ref op, .ref ocs, .ref ods, .long oh, .long ol], oC ot 6 [.int (nI dp), .long sh, .long sl], oC oc 1 [.ref owd, .long ky.1, .long ky.2], aI G owd 44 (jKey ky.1 ky.2), oC oe 4 [.long r4, .long r12, .long l0], oC op 5 [.ref ob, .int (nI n)], aI G ob 229 f] H := hP
  have hD : va_D A [oC ox 7 [.ref oc, .ref ot, .ref oo, .ref oe, .ref op, .ref ocs, .ref ods, .long oh, .long ol], oC ot 6 [.int (nI dp), .long sh, .long sl], oC oc 1 [.ref owd, .long ky.1, .long ky.2], aI G owd 44 (jKey ky.1 ky.2), oC oe 4 [.long r4, .long r12, .long l0], oC op 5 [.ref ob, .int (nI n)], aI G ob 229 f] := hD
  refine W.cs (cells' := 0) (slots' := 0) rfl rfl ?_
  refine W.eq (g2 := F0 m 90 ls [.long (jRd f (a + 20) 8), .ref oe]) rfl ?_
  generalize jRd f (a + 20) 8 = r20 at hP hD ⊢
  refine pfCK_162 hx hb hts hown hG hP hD hS 4 rfl rfl rfl (Nat.le_of_ble_eq_true rfl) dCK_unwrapEntry_90 (fun H locs hP hD hS => ?_)
  have hP : va_P G.1 vwCl [oC ox 7 [.ref oc, .ref ot, .ref oo, .ref oe, .ref op, .ref ocs, .ref ods, .long oh, .long ol], oC ot 6 [.int (nI dp), .long sh, .long sl], oC oc 1 [.ref owd, .long ky.1, .long ky.2], aI G owd 44 (jKey ky.1 ky.2), oC oe 4 [.long r4, .long r12, .long r20], oC op 5 [.ref ob, .int (nI n)], aI G ob 229 f] H := hP
  have hD : va_D A [oC ox 7 [.ref oc, .ref ot, .ref oo, .ref oe, .ref op, .ref ocs, .ref ods, .long oh, .long ol], oC ot 6 [.int (nI dp), .long sh, .long sl], oC oc 1 [.ref owd, .long ky.1, .long ky.2], aI G owd 44 (jKey ky.1 ky.2), oC oe 4 [.long r4, .long r12, .long r20], oC op 5 [.ref ob, .int (nI n)], aI G ob 229 f] := hD
  refine lv_aload_n hx hb dCK_unwrapEntry_93 rfl (lv_at hl 0 rfl) ?_
  refine gfCK_33 hx hb hts hown hG hP 0 rfl rfl dCK_unwrapEntry_94 ?_
  refine lv_aload_n hx hb dCK_unwrapEntry_97 rfl (lv_at hl 0 rfl) ?_
  refine gfCK_12 hx hb hts hown hG hP 0 rfl rfl dCK_unwrapEntry_98 ?_
  refine clCK_269 (As := [.ref oc]) (rest := []) hx hb hml hown hts (k_En_unwrap l G oe oc owd (jKey ky.1 ky.2) r4 r12 r20 ky.1 ky.2) hG hA hP hD hS 4 rfl [4, 2, 3] rfl rfl (fun _ => rfl) rfl hl.1 rfl (Nat.le_of_ble_eq_true rfl) ⟨by decide, by decide⟩ ⟨by decide, by decide⟩ dCK_unwrapEntry_101 (fun u9 H locs _ hP hD hS => ?_)
  have hP : va_P G.1 vwCl [oC ox 7 [.ref oc, .ref ot, .ref oo, .ref oe, .ref op, .ref ocs, .ref ods, .long oh, .long ol], oC ot 6 [.int (nI dp), .long sh, .long sl], oC oc 1 [.ref owd, .long u9.1, .long u9.2], aI G owd 44 (jKey ky.1 ky.2), oC oe 4 [.long ((jUw (jKey ky.1 ky.2) (r4, r12, r20) 12).1), .long ((jUw (jKey ky.1 ky.2) (r4, r12, r20) 12).2.1), .long ((jUw (jKey ky.1 ky.2) (r4, r12, r20) 12).2.2)], oC op 5 [.ref ob, .int (nI n)], aI G ob 229 f] H := hP
  have hD : va_D A [oC ox 7 [.ref oc, .ref ot, .ref oo, .ref oe, .ref op, .ref ocs, .ref ods, .long oh, .long ol], oC ot 6 [.int (nI dp), .long sh, .long sl], oC oc 1 [.ref owd, .long u9.1, .long u9.2], aI G owd 44 (jKey ky.1 ky.2), oC oe 4 [.long ((jUw (jKey ky.1 ky.2) (r4, r12, r20) 12).1), .long ((jUw (jKey ky.1 ky.2) (r4, r12, r20) 12).2.1), .long ((jUw (jKey ky.1 ky.2) (r4, r12, r20) 12).2.2)], oC op 5 [.ref ob, .int (nI n)], aI G ob 229 f] := hD
  refine W.cs (cells' := 0) (slots' := 0) rfl rfl ?_
  refine W.eq (g2 := F0 m 104 ls [.int (jB (decide ((jUw (jKey ky.1 ky.2) (r4, r12, r20) 12).1 = jSeal)))]) rfl ?_
  generalize jUw (jKey ky.1 ky.2) (r4, r12, r20) 12 = q3 at hP hD ⊢
  exact cq_zret (jKey ky.1 ky.2, u9.1, u9.2) (trivial) hx hb hr hlk hP hS (jB_nar _) (rfl) (rfl) dCK_unwrapEntry_104
set_option maxHeartbeats 4000000 in
set_option maxRecDepth 100000 in
theorem k_CK_installedDecoders (l : Launch) (G : gG) (ox oc ot oo oe op ocs ods : Nat) (oh ol : Int64) (dec : Nat → Option Nat) : Ck l G yCK_installedDecoders cCK_installedDecoders 3 (some .int) { frames := 0, cells := 0, slots := 0, locals := 0 } [.ref ox] [oC ox 7 [.ref oc, .ref ot, .ref oo, .ref oe, .ref op, .ref ocs, .ref ods, .long oh, .long ol], aQ G ods 256 dec] (some (.int (nI (cntD dec 256)))) [oC ox 7 [.ref oc, .ref ot, .ref oo, .ref oe, .ref op, .ref ocs, .ref ods, .long oh, .long ol], aQ G ods 256 dec] := by
  refine Cq.of (by decide) (Nat.le_of_ble_eq_true rfl) ?_
  intro p e s m args below meth c A ls hx hb hr hml hts hown hlk hA hP hD hG hS hl
  have hl : lv_has ls 3 [(0, .ref ox)] := hl
  refine lv_iconst (v := nI 0) hx hb dCK_installedDecoders_0 (by decide) ?_
  refine lv_istore_n (lv' := [(1, .int (nI 0)), (0, .ref ox)]) hx hb dCK_installedDecoders_1 rfl hl (by decide) rfl (fun ls hl => ?_)
  refine lv_iconst (v := nI 0) hx hb dCK_installedDecoders_2 (by decide) ?_
  refine lv_istore_n (lv' := [(2, .int (nI 0)), (1, .int (nI 0)), (0, .ref ox)]) hx hb dCK_installedDecoders_3 rfl hl (by decide) rfl (fun ls hl => ?_)
  have loop : ∀ (k : Nat) (n : Nat) (H : Heap) (locs : List Loc) (ls : Array Slot), n + k = 256 → va_P G.1 vwCl [oC ox 7 [.ref oc, .ref ot, .ref oo, .ref oe, .ref op, .ref ocs, .ref ods, .long oh, .long ol], aQ G ods 256 dec] H → va_D A [oC ox 7 [.ref oc, .ref ot, .ref oo, .ref oe, .ref op, .ref ocs, .ref ods, .long oh, .long ol], aQ G ods 256 dec] → va_S A s.heap H locs → lv_has ls 3 [(0, .ref ox), (1, .int (nI (cntD dec n))), (2, .int (nI n))] → W p l e { frames := 0, cells := 0, slots := 0, locals := 0 } s m args below meth c H locs 0 0 (MQ below (cq_out G (S := Unit) (fun _ => True) (fun _ => (some (.int (nI (cntD dec 256))))) (fun _ => [oC ox 7 [.ref oc, .ref ot, .ref oo, .ref oe, .ref op, .ref ocs, .ref ods, .long oh, .long ol], aQ G ods 256 dec]) A) args s 0 0 A) (F0 m 4 ls []) := by
    intro k
    induction k with
    | zero =>
      intro n H locs ls hk hP hD hS hl
      refine lv_iload_n hx hb dCK_installedDecoders_4 rfl (lv_at hl 2 rfl) ?_
      refine lv_sipush (v := nI 256) hx hb dCK_installedDecoders_5 (by decide) ?_
      refine lv_icmp_ge (tgt := 29) hx hb dCK_installedDecoders_8 rfl (fun _ => ?_) (fun h => absurd (nI_le (by omega) (by omega)) h)
      refine lv_iload_n hx hb dCK_installedDecoders_29 rfl (lv_at hl 1 rfl) ?_
      exact cq_iret () (trivial) hx hb hr hlk hP hS (by rw [show n = 256 by omega]) (rfl) dCK_installedDecoders_30
    | succ k ih =>
      intro n H locs ls hk hP hD hS hl
      have hcn := cntD_le dec n
      rcases hd9 : dec n with _ | a9
      · refine lv_iload_n hx hb dCK_installedDecoders_4 rfl (lv_at hl 2 rfl) ?_
        refine lv_sipush (v := nI 256) hx hb dCK_installedDecoders_5 (by decide) ?_
        refine lv_icmp_ge (tgt := 29) hx hb dCK_installedDecoders_8 rfl (fun h => absurd h (nI_ge (by omega) (by omega))) (fun _ => ?_)
        refine lv_aload_n hx hb dCK_installedDecoders_11 rfl (lv_at hl 0 rfl) ?_
        refine gfCK_52 hx hb hts hown hG hP 0 rfl rfl dCK_installedDecoders_12 ?_
        refine lv_iload_n hx hb dCK_installedDecoders_15 rfl (lv_at hl 2 rfl) ?_
        refine ck_qald (v := .null) hx hb hG hP 1 rfl (by decide) n (rfl) (by omega) (by rw [hd9]; rfl) dCK_installedDecoders_16 ?_
        refine lv_ifnullN (tgt := 23) hx hb dCK_installedDecoders_17 rfl ?_
        refine lv_iinc (v := nI (n + 1)) (lv' := [(2, .int (nI (n + 1))), (0, .ref ox), (1, .int (nI (cntD dec n)))]) hx hb dCK_installedDecoders_23 hl (k := 2) rfl (nI_1 n) (by decide) rfl (fun ls hl => ?_)
        refine lv_goto (tgt := 4) hx hb dCK_installedDecoders_26 rfl ?_
        have e1 : cntD dec (n + 1) = (cntD dec n) := if_pos hd9
        exact ih (n + 1) _ _ _ (by omega) hP hD hS (by rw [e1]; exact lv_sub hl [1, 2, 0] rfl)
      · refine lv_iload_n hx hb dCK_installedDecoders_4 rfl (lv_at hl 2 rfl) ?_
        refine lv_sipush (v := nI 256) hx hb dCK_installedDecoders_5 (by decide) ?_
        refine lv_icmp_ge (tgt := 29) hx hb dCK_installedDecoders_8 rfl (fun h => absurd h (nI_ge (by omega) (by omega))) (fun _ => ?_)
        refine lv_aload_n hx hb dCK_installedDecoders_11 rfl (lv_at hl 0 rfl) ?_
        refine gfCK_52 hx hb hts hown hG hP 0 rfl rfl dCK_installedDecoders_12 ?_
        refine lv_iload_n hx hb dCK_installedDecoders_15 rfl (lv_at hl 2 rfl) ?_
        refine ck_qald (v := .ref a9) hx hb hG hP 1 rfl (by decide) n (rfl) (by omega) (by rw [hd9]; rfl) dCK_installedDecoders_16 ?_
        refine lv_ifnull hx hb dCK_installedDecoders_17 ?_
        refine lv_iinc (v := nI (cntD dec n + 1)) (lv' := [(1, .int (nI (cntD dec n + 1))), (0, .ref ox), (2, .int (nI n))]) hx hb dCK_installedDecoders_20 hl (k := 1) rfl (nI_1 _) (by decide) rfl (fun ls hl => ?_)
        refine lv_iinc (v := nI (n + 1)) (lv' := [(2, .int (nI (n + 1))), (1, .int (nI (cntD dec n + 1))), (0, .ref ox)]) hx hb dCK_installedDecoders_23 hl (k := 2) rfl (nI_1 n) (by decide) rfl (fun ls hl => ?_)
        refine lv_goto (tgt := 4) hx hb dCK_installedDecoders_26 rfl ?_
        have e1 : cntD dec (n + 1) = (cntD dec n + 1) := if_neg (by rw [hd9]; exact fun z => nomatch z)
        exact ih (n + 1) _ _ _ (by omega) hP hD hS (by rw [e1]; exact lv_sub hl [2, 1, 0] rfl)
  exact loop 256 0 _ _ _ (by omega) hP hD hS (lv_sub hl [2, 1, 0] rfl)
